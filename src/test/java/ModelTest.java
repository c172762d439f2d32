import java.util.ArrayList;
import java.util.List;
import java.util.Random;

/** Runs of calls by a seed, each answer held against the model's. */
public final class ModelTest {
    private static final String[] NAMES = {"a", "b", "ab", "abcde", "sheet", "day"};
    private static final String[] OPERANDS = {"day", "street", "line", "sheet", "since", "ahead"};
    private static final int[] EDGES = {Integer.MIN_VALUE, Integer.MAX_VALUE, -1, 0, 1, 40, 41, 99, 100, 998, 999, 1000, 32, 64};

    private final Random random;
    private final PetitionDesk desk = new PetitionDesk();
    private final Model model = new Model();
    private final List<String> calls = new ArrayList<>();
    private int mostLines;
    private int sinceText;

    private ModelTest(long seed) {
        random = new Random(seed);
        mostLines = random.nextInt(5) == 0 ? 40 : 4 + random.nextInt(16);
    }

    public static void main(String[] args) {
        int runs = args.length > 0 ? Integer.parseInt(args[0]) : 400;
        for (int seed = 0; seed < runs && !Check.isWrong(); seed++) {
            new ModelTest(seed).run();
        }
        Check.end("ModelTest");
    }

    private void run() {
        for (int i = 0; i < 512 && !Check.isWrong(); i++) {
            int before = calls.size();
            if (sinceText++ % 70 == 0) {
                tellText();
            } else {
                one();
            }
            i += calls.size() - before - 1;
        }
    }

    private void same(String call, Check.Call got, Check.Call want) {
        calls.add(call);
        String due = Check.outcome(want);
        String answer = Check.outcome(got);
        if (!answer.equals(due)) {
            calls.forEach(System.out::println);
        }
        Check.look(call, answer, due);
    }

    private int near(int most) {
        return random.nextInt(12) == 0 ? EDGES[random.nextInt(EDGES.length)] : random.nextInt(Math.max(1, most + 1));
    }

    private boolean chance(int of) {
        return random.nextInt(of) == 0;
    }

    private void tellText() {
        if (model.tape.length > 0 && !chance(10)) {
            int fed = model.tape.length;
            same("text(" + fed + ")", () -> desk.text(fed), () -> model.text(fed));
        }
        String text = randomText();
        byte[] bytes = Check.bytesOf(text.length() > 600 ? text.substring(0, 600) : text);
        for (int from = 0; from < bytes.length; from += 20) {
            int[] f = new int[5];
            for (int i = 0; i < 20; i++) {
                f[i / 4] = f[i / 4] << 8 | (from + i < bytes.length ? bytes[from + i] & 255 : 32);
            }
            feedBoth(f);
        }
        int n = chance(15) ? near(bytes.length + 20) : bytes.length;
        same("text(" + n + ") of " + text, () -> desk.text(n), () -> model.text(n));
        same("fault()", desk::fault, model::fault);
    }

    private void feedBoth(int[] f) {
        same("feed()", () -> desk.feed(f[0], f[1], f[2], f[3], f[4]), () -> model.feed(f));
    }

    private String blank() {
        return chance(12) ? " " : "";
    }

    private String number(int usual, int most) {
        int n = chance(400) ? EDGES[2 + random.nextInt(EDGES.length - 2)] : chance(12) ? random.nextInt(most + 1) : random.nextInt(usual + 1);
        return (chance(12) ? "  " : " ") + (chance(20) ? "00" : "") + n;
    }

    private String name() {
        return blank() + " " + NAMES[random.nextInt(chance(4) ? NAMES.length : 3)];
    }

    private String randomText() {
        List<String> parts = new ArrayList<>();
        List<String> roll = new ArrayList<>();
        int voters = chance(20) ? 17 : chance(5) ? 10 : 1 + random.nextInt(6);
        boolean alike = chance(30);
        for (int v = 0; v < voters; v++) {
            String key = (alike || v > 5 ? name() : " " + NAMES[v % NAMES.length]) + (v > 5 ? " " + v : number(alike ? 3 : 1, 99));
            roll.add(key);
            parts.add("voter" + key + number(chance(4) ? 40 : 12, 99));
        }
        int sheets = chance(20) ? 9 : 1 + random.nextInt(chance(3) ? 8 : 4);
        int lines = random.nextInt(mostLines + 1);
        for (int s = 0; s < sheets; s++) {
            parts.add("sheet");
            for (int l = 0; l < lines / sheets + (s == 0 ? 1 : 0); l++) {
                String key = chance(8) ? name() + number(1, 99) : roll.get(random.nextInt(roll.size()));
                parts.add("sign" + key + number(60, 999));
            }
        }
        for (String word : new String[] {"need", "spoilt", "alpha", "span", "good"}) {
            if (chance(3)) {
                parts.add(random.nextInt(chance(2) ? 1 : parts.size() + 1), setting(word));
            }
        }
        StringBuilder text = new StringBuilder();
        for (String part : parts) {
            text.append(blank()).append(part).append(blank()).append(';');
        }
        // A text that is too long for the tape is cut behind one of its lines.
        if (text.length() > 600) {
            text.setLength(text.lastIndexOf(";", 599) + 1);
        }
        return mutate(text.append(text.length() < 600 ? blank() : ""));
    }

    private String setting(String word) {
        switch (word) {
            case "need": return "need" + number(6, 40);
            case "spoilt": return "spoilt" + number(100, 100);
            case "alpha": return "alpha" + number(498, 499);
            case "span": return "span" + number(10, 50) + " " + (50 + random.nextInt(400));
            default: return "good " + condition(0);
        }
    }

    private String condition(int depth) {
        int kind = random.nextInt(depth > 5 ? 1 : 7);
        switch (kind) {
            case 4: return condition(depth + 1) + " and" + " " + condition(depth + 1);
            case 5: return condition(depth + 1) + " or" + blank() + " " + condition(depth + 1);
            case 6: return (chance(2) ? "not " : "not") + "(" + condition(depth + 1) + ")";
            case 3: return chance(2) ? "(" + condition(depth + 1) + ")" : "not " + condition(depth + 1);
            default: return operand() + blank() + "<=>".charAt(random.nextInt(3)) + blank() + operand();
        }
    }

    private String operand() {
        return chance(3) ? "" + random.nextInt(chance(30) ? 1100 : chance(2) ? 4 : 50) : OPERANDS[random.nextInt(6)];
    }

    private String mutate(StringBuilder text) {
        while (text.length() > 0 && chance(6)) {
            int at = random.nextInt(text.length());
            String signs = ";( )<=>0159azdotnr\n\r" + (char) 133 + (char) 255 + (char) 0 + (char) 127;
            char sign = signs.charAt(random.nextInt(signs.length()));
            switch (random.nextInt(5)) {
                case 0: text.deleteCharAt(at); break;
                case 1: text.insert(at, sign); break;
                case 2: text.setCharAt(at, sign); break;
                case 3: text.setLength(at); break;
                default: text.insert(at, text.substring(at, Math.min(text.length(), at + 12))); break;
            }
        }
        return text.toString();
    }

    private void one() {
        int a = near(1);
        int s = near(Math.max(0, model.state.sheets.size() - 1));
        int v = near(Math.max(0, model.state.voters.size() - 1));
        int lines = model.state.spots().size();
        List<Model.Line> on = s >= 0 && s < model.state.sheets.size() ? model.state.sheets.get(s) : List.of();
        int l = near(chance(8) ? 12 : on.size() - 1);
        int seed = chance(3) ? near(10) : random.nextInt();
        int n = near(chance(2) ? lines : Math.min(4, lines));
        switch (random.nextInt(40)) {
            case 0: feedBoth(new int[] {random.nextInt(), 0, -1, seed, 0x20202020}); break;
            case 1: {
                int bytes = chance(3) ? near(30) : 600;
                same("text(" + bytes + ")", () -> desk.text(bytes), () -> model.text(bytes));
                break;
            }
            case 2: same("fault()", desk::fault, model::fault); break;
            case 3:
            case 4:
            case 9:
            case 10:
            case 11:
            case 12: same("sample(" + a + ", " + n + ", " + seed + ")", () -> desk.sample(a, n, seed), () -> model.sample(a, n, seed)); break;
            case 5: {
                boolean is = chance(2);
                same("strike(" + s + ", " + is + ")", () -> desk.strike(s, is), () -> model.strike(s, is));
                break;
            }
            case 6: {
                int day = near(100);
                same("sign(" + s + ", " + v + ", " + day + ")", () -> desk.sign(s, v, day), () -> model.sign(s, v, day));
                break;
            }
            case 7: same("erase(" + s + ", " + l + ")", () -> desk.erase(s, l), () -> model.erase(s, l)); break;
            case 8: same("undo()", desk::undo, model::undo); break;
            default: ask(a, s, v, l); break;
        }
    }

    private void ask(int a, int s, int v, int l) {
        int w = near(11);
        int b = near(1);
        int n = near(model.state.spots().size());
        switch (random.nextInt(16)) {
            case 0: same("told(" + w + ")", () -> desk.told(w), () -> model.told(w)); break;
            case 1: same("voter(" + v + ", " + w % 5 + ")", () -> desk.voter(v, w % 5), () -> model.voter(v, w % 5)); break;
            case 2: same("letter(" + v + ", " + w + ")", () -> desk.letter(v, w), () -> model.letter(v, w)); break;
            case 3: same("sheet(" + s + ", " + w + ")", () -> desk.sheet(s, w), () -> model.sheet(s, w)); break;
            case 4: same("line(" + s + ", " + l + ", " + w % 7 + ")", () -> desk.line(s, l, w % 7), () -> model.line(s, l, w % 7)); break;
            case 5: same("judged(" + w % 7 + ")", () -> desk.judged(w % 7), () -> model.judged(w % 7)); break;
            case 6: same("passes()", desk::passes, model::passes); break;
            case 7:
            case 8: same("drawn(" + a + ", " + w % 7 + ")", () -> desk.drawn(a, w % 7), () -> model.drawn(a, w % 7)); break;
            case 9: same("estimate(" + a + ", " + b + ")", () -> desk.estimate(a, b), () -> model.estimate(a, b)); break;
            case 10: same("unlike(" + b + ")", () -> desk.unlike(b), () -> model.unlike(b)); break;
            case 11: same("unseen(" + n + ", " + b + ")", () -> desk.unseen(n, b), () -> model.unseen(n, b)); break;
            case 12: same("fewest()", desk::fewest, model::fewest); break;
            case 13: {
                int k = near(4);
                same("worst(" + k + ", " + b + ")", () -> desk.worst(k, b), () -> model.worst(k, b));
                break;
            }
            case 14: {
                int each = chance(2) ? near(100) : random.nextInt();
                same("cost(" + each + ")", () -> desk.cost(each), () -> model.cost(each));
                break;
            }
            default:
                same("print()", desk::print, model::print);
                same("status(" + w % 4 + ")", () -> desk.status(w % 4), () -> model.status(w % 4));
                break;
        }
    }
}
