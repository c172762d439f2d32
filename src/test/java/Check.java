import java.nio.charset.StandardCharsets;
import java.util.NoSuchElementException;

/** What the tests share: calls looked at, texts fed. */
final class Check {
    interface Call {
        long answer();
    }

    static final String ELEMENT = "NoSuchElementException";
    static final String ARGUMENT = "IllegalArgumentException";
    static final String STATE = "IllegalStateException";

    private static int wrong = 0;
    private static String sentence = "";

    private Check() {
    }

    /** What is looked at from here on belongs to these words of the document. */
    static void sentence(String words) {
        sentence = "[" + words + "] ";
    }

    static void due(String what, Call call, long want) {
        look(what, outcome(call), Long.toString(want));
    }

    static void refused(String what, Call call, String exception) {
        look(what, outcome(call), "throws." + exception);
    }

    static void look(String what, String got, String want) {
        if (!got.equals(want)) {
            wrong++;
            if (wrong <= 40) {
                System.out.println(sentence + what + " answered " + got + ", due is " + want);
            }
        }
    }

    static String outcome(Call call) {
        try {
            return Long.toString(call.answer());
        } catch (NoSuchElementException | IllegalArgumentException | IllegalStateException e) {
            // The very classes: what the machine throws by itself may be a class below them.
            return "throws." + e.getClass().getSimpleName();
        } catch (RuntimeException | Error e) {
            return "the machine threw " + e;
        }
    }

    static boolean isWrong() {
        return wrong > 0;
    }

    static void end(String name) {
        System.out.println(name + ": " + (wrong == 0 ? "all answers are as due" : wrong + " answers are not as due"));
        if (wrong != 0) {
            System.exit(1);
        }
    }

    static byte[] bytesOf(String text) {
        return text.getBytes(StandardCharsets.ISO_8859_1);
    }

    /** Feeds a text, filled up with zeros to whole twenties. */
    static int feed(PetitionDesk desk, byte[] text) {
        int answer = 0;
        for (int from = 0; from < text.length; from += 20) {
            int[] five = new int[5];
            for (int i = 0; i < 20; i++) {
                int next = from + i < text.length ? text[from + i] & 255 : 0;
                five[i / 4] = five[i / 4] << 8 | next;
            }
            answer = desk.feed(five[0], five[1], five[2], five[3], five[4]);
        }
        return answer;
    }

    /** Feeds a text and tells it. */
    static int tell(PetitionDesk desk, String text) {
        byte[] bytes = bytesOf(text);
        feed(desk, bytes);
        return desk.text(bytes.length);
    }

    /** The text has this fault at this place, on an object that has told nothing yet. */
    static void fault(String text, int kind, int place) {
        PetitionDesk desk = new PetitionDesk();
        due("text of \"" + text + "\"", () -> tell(desk, text), kind - 10);
        due("fault of \"" + text + "\"", () -> desk.fault(), place);
        due("acts of \"" + text + "\"", () -> desk.told(10), 0);
    }

    /** The text has no fault, and so many lines. */
    static void fine(String text, int lines) {
        PetitionDesk desk = new PetitionDesk();
        due("text of \"" + text + "\"", () -> tell(desk, text), lines);
        due("fault of \"" + text + "\"", () -> desk.fault(), PetitionDesk.NONE);
    }

    /** So many voters, all named a, each on the street of its number. */
    static String voters(int many) {
        StringBuilder text = new StringBuilder();
        for (int i = 0; i < many; i++) {
            text.append("voter a ").append(i).append(" 0;");
        }
        return text.toString();
    }

    /** What print() is due to answer for lines of these streets and judgements. */
    static long printOf(int... streetsAndHows) {
        long sum = 0;
        for (int next : streetsAndHows) {
            sum = sum * 31 + next;
        }
        return sum;
    }

    /** All that can be asked, as one text; not fault() and status(), which a faulty text and a refused call change. */
    static String allOf(PetitionDesk x) {
        StringBuilder all = new StringBuilder();
        for (int what = 0; what <= 10; what++) {
            all.append(x.told(what)).append(' ');
        }
        all.append(x.passes()).append(' ').append(x.fewest()).append(' ').append(x.print());
        for (int v = 0; v < x.told(0); v++) {
            all.append(" v").append(x.voter(v, 0)).append(' ').append(x.voter(v, 1)).append(' ').append(x.letter(v, 0));
        }
        for (int s = 0; s < x.told(1); s++) {
            all.append(" s").append(x.sheet(s, 2));
            for (int l = 0; l < x.sheet(s, 0); l++) {
                all.append(" l");
                for (int what = 0; what <= 5; what++) {
                    all.append(x.line(s, l, what)).append(' ');
                }
            }
        }
        for (int which = 0; which <= 1; which++) {
            for (int what = 0; what <= 5; what++) {
                all.append(" d").append(x.drawn(which, what));
            }
        }
        return all.toString();
    }

    static PetitionDesk deskOf(String text) {
        PetitionDesk desk = new PetitionDesk();
        int answer = tell(desk, text);
        if (answer < 0) {
            look("text of " + text, Integer.toString(answer), "no fault");
        }
        return desk;
    }
}
