/** Acts, what is taken back, what a question and a refused call leave as it is; each sentence of the document with a test of its own. */
public final class ActEdgeTest {
    private static final int NONE = PetitionDesk.NONE;
    private static final String SMALL = "voter ann 5 10;voter bob 7 0;sheet;sign ann 5 20;sign bob 7 20;sign ann 5 30;sheet;"
            + "sign dan 1 20;sign bob 7 5;need 2;span 1 500;spoilt 60;alpha 100;good day>4;";

    public static void main(String[] args) {
        acts();
        noActs();
        emptyBehindActs();
        notEmptyBehindOthers();
        takenBackEachKind();
        ofTheLatestEight();
        latestNotYet();
        nothingStaysChanged();
        firstToldIsThrown();
        refusedChangesNothing();
        Check.end("ActEdgeTest");
    }

    private static PetitionDesk sampled() {
        PetitionDesk x = Check.deskOf(SMALL);
        x.sample(0, 3, 1);
        x.sample(1, 4, 2);
        return x;
    }

    private static void acts() {
        Check.sentence("ACTS: text() without a FAULT, sample(), strike(), sign(), erase()");
        PetitionDesk x = new PetitionDesk();
        Check.due("none yet", () -> x.told(10), 0);
        x.text(0);
        Check.due("an empty text", () -> x.told(10), 1);
        Check.tell(x, SMALL);
        Check.due("a text", () -> x.told(10), 2);
        x.sample(1, 1, 1);
        Check.due("a sample", () -> x.told(10), 3);
        x.strike(0, true);
        Check.due("a strike", () -> x.told(10), 4);
        x.strike(0, true);
        Check.due("a strike of one that was so", () -> x.told(10), 5);
        x.sign(0, 0, 1);
        Check.due("a sign", () -> x.told(10), 6);
        x.erase(0, 0);
        Check.due("an erase", () -> x.told(10), 7);
    }

    private static void noActs() {
        Check.sentence("text() without a FAULT");
        PetitionDesk x = Check.deskOf(SMALL);
        Check.tell(x, "x");
        Check.due("a text with a fault is none", () -> x.told(10), 1);
        Check.feed(x, Check.bytesOf("sheet;"));
        Check.due("a feed is none", () -> x.told(10), 1);
        Check.outcome(() -> x.text(21));
        Check.outcome(() -> x.sample(0, 0, 1));
        Check.outcome(() -> x.strike(2, true));
        Check.outcome(() -> x.sign(0, 0, -1));
        Check.outcome(() -> x.erase(0, 3));
        Check.due("a refused call is none", () -> x.told(10), 1);
        Check.due("an undo is none: it takes one back", () -> x.undo(), 0);
        Check.due("and is not taken back itself", () -> x.undo(), NONE);
    }

    private static void emptyBehindActs() {
        Check.sentence("Behind text(), sign(), erase() both SAMPLES are empty");
        PetitionDesk x = sampled();
        Check.tell(x, SMALL);
        Check.due("text: sample 0", () -> x.drawn(0, 0), 0);
        Check.due("text: sample 1", () -> x.drawn(1, 0), 0);
        PetitionDesk y = sampled();
        y.sign(1, 0, 20);
        Check.due("sign: sample 0", () -> y.drawn(0, 0), 0);
        Check.due("sign: sample 1", () -> y.drawn(1, 0), 0);
        PetitionDesk z = sampled();
        z.erase(1, 1);
        Check.due("erase: sample 0", () -> z.drawn(0, 0), 0);
        Check.due("erase: sample 1", () -> z.drawn(1, 0), 0);
    }

    private static void notEmptyBehindOthers() {
        Check.sentence("both SAMPLES are empty");
        PetitionDesk x = sampled();
        x.strike(0, true);
        Check.due("strike: sample 0 stays", () -> x.drawn(0, 0), 3);
        Check.due("strike: sample 1 stays", () -> x.drawn(1, 0), 4);
        x.sample(0, 2, 9);
        Check.due("another sample: sample 1 stays", () -> x.drawn(1, 0), 4);
        x.sample(1, 1, 9);
        Check.due("another sample: sample 0 stays", () -> x.drawn(0, 0), 2);
        Check.tell(x, "y");
        Check.due("a fault: sample 0 stays", () -> x.drawn(0, 0), 2);
        Check.outcome(() -> x.sign(0, 0, 1000));
        Check.outcome(() -> x.erase(2, 0));
        Check.due("refused: sample 1 stays", () -> x.drawn(1, 0), 1);
    }

    private static void takenBackEachKind() {
        Check.sentence("undo() takes the latest one back");
        PetitionDesk x = sampled();
        x.strike(1, true);
        String before = Check.allOf(x);
        x.sample(0, 5, 7);
        x.undo();
        Check.look("sample 0", Check.allOf(x), before);
        x.sample(1, 5, 7);
        x.undo();
        Check.look("sample 1", Check.allOf(x), before);
        x.strike(0, true);
        x.undo();
        Check.look("strike", Check.allOf(x), before);
        x.strike(1, false);
        x.undo();
        Check.look("strike, no more", Check.allOf(x), before);
        x.strike(1, true);
        x.undo();
        Check.look("a strike of one that was so", Check.allOf(x), before);
        x.sign(0, 1, 77);
        x.undo();
        Check.look("sign", Check.allOf(x), before);
        x.erase(0, 0);
        x.undo();
        Check.look("erase of the first", Check.allOf(x), before);
        x.erase(1, 1);
        x.undo();
        Check.look("erase of the last", Check.allOf(x), before);
        x.text(0);
        x.undo();
        Check.look("an empty text", Check.allOf(x), before);
        Check.tell(x, "voter zed 1 1;voter yet 2 2;sheet;sign zed 1 2;sheet;sheet;need 9;span 2 3;spoilt 4;alpha 5;good day=2;");
        x.undo();
        Check.look("a text", Check.allOf(x), before);
        x.strike(0, true);
        x.erase(0, 1);
        Check.tell(x, "sheet;");
        x.undo();
        x.undo();
        x.undo();
        Check.look("three of them", Check.allOf(x), before);
        // The first of all: a new object's state.
        PetitionDesk y = Check.deskOf(SMALL);
        y.undo();
        Check.look("the first text", Check.allOf(y), Check.allOf(new PetitionDesk()));
    }

    private static void ofTheLatestEight() {
        Check.sentence("undo() takes the latest one back that is not yet, of the latest 8");
        for (int acts = 1; acts <= 20; acts++) {
            PetitionDesk x = new PetitionDesk();
            for (int i = 1; i <= acts; i++) {
                Check.tell(x, "need " + i + ";");
            }
            int most = Math.min(acts, 8);
            Check.due("that can be of " + acts, () -> x.told(10), most);
            for (int back = 1; back <= most; back++) {
                int left = most - back;
                int need = acts == back ? 1 : acts - back;
                Check.due("left of " + acts + " behind " + back, () -> x.undo(), left);
                Check.due("told of " + acts + " behind " + back, () -> x.told(10), left);
                Check.due("need of " + acts + " behind " + back, () -> x.told(3), need);
            }
            int stays = acts > 8 ? acts - 8 : 1;
            Check.due("no more of " + acts, () -> x.undo(), NONE);
            Check.due("that changes nothing, of " + acts, () -> x.told(3), stays);
        }
    }

    private static void latestNotYet() {
        Check.sentence("the latest one back that is not yet");
        PetitionDesk x = new PetitionDesk();
        for (int i = 1; i <= 5; i++) {
            Check.tell(x, "need " + (10 + i) + ";");
        }
        x.undo();
        x.undo();
        Check.tell(x, "need 20;");
        Check.due("four", () -> x.told(10), 4);
        int[] needs = {13, 12, 11, 1};
        for (int i = 0; i < 4; i++) {
            int left = 3 - i;
            Check.due("one back", () -> x.undo(), left);
            Check.due("what is taken back already is passed over", () -> x.told(3), needs[3 - left]);
        }
        Check.due("no more", () -> x.undo(), NONE);
        // One of eight taken back makes room for another: eight can be taken back again, the first of all with them.
        PetitionDesk y = new PetitionDesk();
        for (int i = 1; i <= 8; i++) {
            Check.tell(y, "need " + (10 + i) + ";");
        }
        y.undo();
        Check.tell(y, "need 20;");
        Check.due("eight again", () -> y.told(10), 8);
        Check.tell(y, "need 21;");
        Check.due("eight still", () -> y.told(10), 8);
        for (int left = 7; left >= 0; left--) {
            int still = left;
            Check.due("one back", () -> y.undo(), still);
        }
        Check.due("the first act is the one that stays", () -> y.told(3), 11);
    }

    private static void nothingStaysChanged() {
        Check.sentence("Asked, nothing stays changed");
        PetitionDesk x = sampled();
        Check.feed(x, Check.bytesOf("need 3;"));
        String before = Check.allOf(x);
        for (int k = 1; k <= 8; k++) {
            x.worst(k, 0);
            x.worst(k, 1);
        }
        for (int n = 0; n <= 5; n++) {
            x.unseen(n, 0);
            x.unseen(n, 1);
        }
        x.unlike(0);
        x.unlike(1);
        x.estimate(0, 0);
        x.estimate(1, 1);
        x.cost(3);
        x.status(0);
        x.judged(5);
        x.voter(0, 2);
        x.voter(1, 3);
        x.letter(0, 2);
        x.sheet(0, 8);
        Check.look("all questions", Check.allOf(x), before);
        Check.look("all questions once more", Check.allOf(x), before);
        Check.due("nothing was refused", () -> x.status(0) + x.status(1) + x.status(2), 0);
        Check.due("the tape is as it was", () -> x.text(7), 0);
        Check.due("its bytes, too", () -> x.told(3), 3);
    }

    private static void firstToldIsThrown() {
        Check.sentence("Of several exceptions of one call the one told first is thrown");
        PetitionDesk x = Check.deskOf("voter a 1 0;sheet;" + "sign a 1 1;".repeat(40));
        Check.refused("sign: sheet, day, forty", () -> x.sign(1, 0, 1000), Check.ELEMENT);
        Check.refused("sign: voter, day, forty", () -> x.sign(0, 1, -1), Check.ELEMENT);
        Check.refused("sign: sheet, forty", () -> x.sign(1, 0, 1), Check.ELEMENT);
        Check.refused("sign: voter, forty", () -> x.sign(0, 1, 1), Check.ELEMENT);
        Check.refused("sign: day, forty", () -> x.sign(0, 0, 1000), Check.ARGUMENT);
        Check.refused("sign: forty", () -> x.sign(0, 0, 1), Check.STATE);
        Check.refused("voter: voter, what", () -> x.voter(1, 4), Check.ELEMENT);
        Check.refused("sheet: sheet, what", () -> x.sheet(1, 9), Check.ELEMENT);
        Check.refused("line: sheet, what", () -> x.line(1, 0, 6), Check.ELEMENT);
        Check.refused("line: line, what", () -> x.line(0, 40, -1), Check.ELEMENT);
        Check.refused("estimate: which, fewer than two", () -> x.estimate(2, 0), Check.ARGUMENT);
        Check.refused("estimate: what, fewer than two", () -> x.estimate(0, 2), Check.ARGUMENT);
        Check.due("counted by what was thrown: elements", () -> x.status(0), 8);
        Check.due("counted by what was thrown: arguments", () -> x.status(1), 3);
        Check.due("counted by what was thrown: states", () -> x.status(2), 1);
    }

    private static void refusedChangesNothing() {
        Check.sentence("a call that throws changes nothing but status()");
        PetitionDesk x = sampled();
        Check.tell(x, "need 99;");
        Check.feed(x, Check.bytesOf("need 3;"));
        String before = Check.allOf(x);
        Check.Call[] calls = {
            () -> x.text(-1), () -> x.text(21), () -> x.sample(0, 0, 1), () -> x.sample(1, 6, 1), () -> x.sample(2, 1, 1),
            () -> x.strike(2, true), () -> x.strike(-1, true), () -> x.sign(2, 0, 1), () -> x.sign(0, 2, 1),
            () -> x.sign(0, 0, 1000), () -> x.erase(0, 3), () -> x.erase(2, 0), () -> x.told(11), () -> x.voter(2, 0),
            () -> x.voter(0, 4), () -> x.letter(0, 3), () -> x.sheet(2, 0), () -> x.sheet(0, 9), () -> x.line(0, 3, 0),
            () -> x.line(0, 0, 6), () -> x.judged(6), () -> x.drawn(0, 6), () -> x.estimate(0, 2), () -> x.unlike(2),
            () -> x.unseen(6, 0), () -> x.worst(9, 0), () -> x.cost(-1)};
        for (int i = 0; i < calls.length; i++) {
            Check.look("call " + i + " is refused", "" + Check.outcome(calls[i]).startsWith("throws."), "true");
            Check.look("behind call " + i, Check.allOf(x), before);
            Check.due("the fault behind call " + i, () -> x.fault(), 5);
        }
        Check.due("all of them are counted", () -> x.status(0) + x.status(1) + x.status(2), calls.length);
        Check.due("the tape's bytes are as they were", () -> x.text(7) + x.told(3), 3);
    }
}
