import java.nio.charset.StandardCharsets;
import java.util.NoSuchElementException;

/** What the tests share: calls looked at, texts fed. */
final class Check {
    interface Call {
        long answer();
    }

    static final String ELEMENT = "NoSuchElementException";
    static final String ARGUMENT = "IllegalArgumentException";
    static final String STATE = "IllegalStateException";

    private static int wrong = 0;

    private Check() {
    }

    static void due(String what, Call call, long want) {
        look(what, outcome(call), Long.toString(want));
    }

    static void refused(String what, Call call, String exception) {
        look(what, outcome(call), "throws." + exception);
    }

    static void look(String what, String got, String want) {
        if (!got.equals(want)) {
            wrong++;
            if (wrong <= 40) {
                System.out.println(what + " answered " + got + ", due is " + want);
            }
        }
    }

    static String outcome(Call call) {
        try {
            return Long.toString(call.answer());
        } catch (NoSuchElementException | IllegalArgumentException | IllegalStateException e) {
            // The very classes: what the machine throws by itself may be a class below them.
            return "throws." + e.getClass().getSimpleName();
        } catch (RuntimeException | Error e) {
            return "the machine threw " + e;
        }
    }

    static boolean isWrong() {
        return wrong > 0;
    }

    static void end(String name) {
        System.out.println(name + ": " + (wrong == 0 ? "all answers are as due" : wrong + " answers are not as due"));
        if (wrong != 0) {
            System.exit(1);
        }
    }

    static byte[] bytesOf(String text) {
        return text.getBytes(StandardCharsets.ISO_8859_1);
    }

    /** Feeds a text, filled up with zeros to whole twenties. */
    static int feed(PetitionDesk desk, byte[] text) {
        int answer = 0;
        for (int from = 0; from < text.length; from += 20) {
            int[] five = new int[5];
            for (int i = 0; i < 20; i++) {
                int next = from + i < text.length ? text[from + i] & 255 : 0;
                five[i / 4] = five[i / 4] << 8 | next;
            }
            answer = desk.feed(five[0], five[1], five[2], five[3], five[4]);
        }
        return answer;
    }

    /** Feeds a text and tells it. */
    static int tell(PetitionDesk desk, String text) {
        byte[] bytes = bytesOf(text);
        feed(desk, bytes);
        return desk.text(bytes.length);
    }

    static PetitionDesk deskOf(String text) {
        PetitionDesk desk = new PetitionDesk();
        int answer = tell(desk, text);
        if (answer < 0) {
            look("text of " + text, Integer.toString(answer), "no fault");
        }
        return desk;
    }
}
