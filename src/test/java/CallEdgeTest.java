/** The promises, call by call; each sentence of the document that names a boundary case with a test of its own. */
public final class CallEdgeTest {
    private static final int NONE = PetitionDesk.NONE;
    private static final int LEAST = Integer.MIN_VALUE;
    private static final int GREATEST = Integer.MAX_VALUE;
    // Sheet 0: true, true, double, nobody. Sheet 1 (struck, two of three are late): late, struck, late. Sheet 2: wrong.
    private static final String SMALL = "voter ann 5 10;voter bobby 7 0;voter c 9 500;"
            + "sheet;sign ann 5 20;sign bobby 7 20;sign ann 5 30;sign dan 1 20;"
            + "sheet;sign c 9 400;sign c 9 600;sign bobby 7 700;sheet;sign ann 5 17;"
            + "need 3;span 15 650;spoilt 60;good street<9 and day>17 or day>500;";

    public static void main(String[] args) {
        newObject();
        twentyBytes();
        highestFirst();
        fullTape();
        textsOfTheTape();
        textFault();
        textRefused();
        faults();
        samples();
        strikes();
        signs();
        signAheadOfMany();
        signOfForty();
        erases();
        eraseAheadOfMany();
        eraseTellsHow();
        undos();
        tellings();
        voters();
        letters();
        sheets();
        lines();
        judgements();
        passing();
        drawn();
        estimates();
        unlikes();
        unseens();
        fewests();
        worsts();
        costs();
        prints();
        statuses();
        Check.end("CallEdgeTest");
    }

    private static void newObject() {
        Check.sentence("PetitionDesk()`: No VOTERS, no SHEETS");
        PetitionDesk x = new PetitionDesk();
        int[] told = {0, 0, 0, 1, 0, 999, 100, 50, 0, 0, 0};
        for (int i = 0; i < told.length; i++) {
            int what = i;
            Check.due("told(" + i + ")", () -> x.told(what), told[i]);
        }
        Check.refused("no voter", () -> x.voter(0, 0), Check.ELEMENT);
        Check.refused("no letter", () -> x.letter(0, 0), Check.ELEMENT);
        Check.refused("no sheet", () -> x.sheet(0, 0), Check.ELEMENT);
        Check.refused("no line", () -> x.line(0, 0, 0), Check.ELEMENT);
        Check.refused("nothing to strike", () -> x.strike(0, true), Check.ELEMENT);
        Check.refused("nothing to sign", () -> x.sign(0, 0, 0), Check.ELEMENT);
        Check.refused("nothing to erase", () -> x.erase(0, 0), Check.ELEMENT);
        Check.refused("nothing to draw", () -> x.sample(0, 1, 0), Check.ARGUMENT);
        Check.due("judged", () -> x.judged(0) + x.judged(1) + x.judged(5), 0);
        Check.due("passes", () -> x.passes(), 0);
        Check.due("fewest", () -> x.fewest(), NONE);
        Check.due("worst", () -> x.worst(1, 0), NONE);
        Check.due("unlike", () -> x.unlike(0), NONE);
        Check.due("print", () -> x.print(), 0);
        Check.due("another object shares nothing", () -> Check.deskOf(SMALL).told(2) + x.told(2), 8);
    }

    private static void twentyBytes() {
        Check.sentence("Twenty bytes come on the TAPE");
        PetitionDesk x = new PetitionDesk();
        Check.due("the first", () -> x.feed(0, 0, 0, 0, 0), 20);
        Check.due("more", () -> x.feed(-1, -1, -1, -1, -1), 40);
        Check.due("told", () -> x.told(9), 40);
    }

    private static void highestFirst() {
        Check.sentence("of each number the highest first");
        // Five numbers of four bytes each; every place matters to the text.
        PetitionDesk x = new PetitionDesk();
        x.feed(0x766f7465, 0x72206220, 0x31203939, 0x393b6e65, 0x65642037);
        Check.due("voter b 1 999;need 7", () -> x.text(20), 1 - 10);
        Check.due("it ends at the twentieth", () -> x.fault(), 20);
        x.feed(0x766f7465, 0x72206220, 0x31203939, 0x393b6e65, 0x65642037);
        x.feed(0x3b000000, 0, 0, 0, 0);
        Check.due("with its end", () -> x.text(21), 0);
        Check.due("since", () -> x.voter(0, 1), 999);
        Check.due("need", () -> x.told(3), 7);
        // A highest byte of 128 or more is no blank and no letter.
        PetitionDesk y = new PetitionDesk();
        y.feed(0xe1000000, 0, 0, 0, 0);
        Check.due("a byte of 225", () -> y.text(1), 1 - 10);
        PetitionDesk z = new PetitionDesk();
        z.feed(0x20202020, 0x202020a0, 0, 0, 0);
        Check.due("a byte of 160", () -> z.text(8), 1 - 10);
        Check.due("its place", () -> z.fault(), 7);
    }

    private static void fullTape() {
        Check.sentence("how many there are; NONE, doing nothing, if there would be more than 600");
        PetitionDesk x = new PetitionDesk();
        for (int i = 1; i <= 29; i++) {
            int due = 20 * i;
            Check.due("feed " + i, () -> x.feed(0x20202020, 0x20202020, 0x20202020, 0x20202020, 0x20202020), due);
        }
        Check.due("600 are no more than 600", () -> x.feed(0x20202020, 0x20202020, 0x20206e65, 0x65642031, 0x32202020 + 0x1b), 600);
        Check.due("a 31st", () -> x.feed(0x78787878, 0x78787878, 0x78787878, 0x78787878, 0x78787878), NONE);
        Check.due("a 32nd", () -> x.feed(0x78787878, 0x78787878, 0x78787878, 0x78787878, 0x78787878), NONE);
        Check.due("there are 600", () -> x.told(9), 600);
        Check.due("nothing else was done", () -> x.status(0) + x.status(1) + x.status(2), 0);
        Check.due("the bytes are what they were", () -> x.text(600), 0);
        Check.due("need 12", () -> x.told(3), 12);
        Check.due("there is room again", () -> x.feed(0, 0, 0, 0, 0), 20);
    }

    private static void textsOfTheTape() {
        Check.sentence("The first n bytes of the TAPE (empty then) tell all anew: how many LINES");
        PetitionDesk x = Check.deskOf(SMALL);
        x.strike(0, true);
        Check.feed(x, Check.bytesOf("need 7;sheet;"));
        Check.due("the first seven bytes", () -> x.text(7), 0);
        Check.due("need", () -> x.told(3), 7);
        Check.due("no voters of the text ahead", () -> x.told(0), 0);
        Check.due("no sheets", () -> x.told(1), 0);
        Check.due("no sheet is struck", () -> x.told(8), 0);
        Check.due("the tape is empty", () -> x.told(9), 0);
        Check.due("the fault is none", () -> x.fault(), NONE);
        Check.due("how many lines", () -> Check.tell(x, SMALL), 8);
        Check.due("nothing is struck by hand", () -> x.sheet(0, 2), 0);
        Check.feed(x, Check.bytesOf("need 7;sheet;"));
        Check.due("none of its bytes", () -> x.text(0), 0);
        Check.due("all is told anew", () -> x.told(2), 0);
        Check.due("the tape is empty, too", () -> x.told(9), 0);
        Check.feed(x, Check.bytesOf("need 7;sheet;need 8;"));
        Check.due("all of its bytes", () -> x.text(20), 1 - 10);
        Check.due("none of an empty tape", () -> x.text(0), 0);
    }

    private static void textFault() {
        Check.sentence("or the FAULT less 10 (all but the TAPE stays)");
        String[] texts = {"x", "need 41;", "voter a 1 1;voter a 1 1;", "sheet;".repeat(9), "good (((((1=1)))));"};
        for (int i = 0; i < texts.length; i++) {
            PetitionDesk x = Check.deskOf(SMALL);
            x.strike(0, true);
            x.sample(1, 4, 4);
            String before = Check.allOf(x);
            String text = texts[i];
            int due = i + 1 - 10;
            Check.due("fault " + (i + 1), () -> Check.tell(x, text), due);
            Check.due("the tape is empty", () -> x.told(9), 0);
            Check.look("all else stays", Check.allOf(x), before);
            Check.due("it is not refused", () -> x.status(1), 0);
            Check.due("nothing more is taken back", () -> x.undo(), 2);
        }
        // What a faulty text told ahead of its fault is not kept for the next one.
        PetitionDesk y = new PetitionDesk();
        Check.tell(y, "voter a 1 1;sheet;sign a 1 1;need 5;x");
        Check.due("the next one", () -> Check.tell(y, "voter a 1 1;sheet;sign a 1 1;"), 1);
        Check.due("its need", () -> y.told(3), 1);
    }

    private static void textRefused() {
        Check.sentence("IllegalArgumentException: n is not 0 to the TAPE's bytes (it stays)");
        PetitionDesk x = new PetitionDesk();
        for (int n : new int[] {-1, 1, 600, 601, LEAST, GREATEST}) {
            Check.refused("text(" + n + ") of none", () -> x.text(n), Check.ARGUMENT);
        }
        Check.feed(x, Check.bytesOf("need 7;             "));
        for (int n : new int[] {-1, 21, 40, 600, LEAST, GREATEST}) {
            Check.refused("text(" + n + ") of twenty", () -> x.text(n), Check.ARGUMENT);
            Check.due("it stays", () -> x.told(9), 20);
        }
        Check.due("text(20) of twenty", () -> x.text(20), 0);
        Check.due("its bytes were there", () -> x.told(3), 7);
        PetitionDesk y = new PetitionDesk();
        Check.feed(y, new byte[600]);
        Check.refused("text(601) of 600", () -> y.text(601), Check.ARGUMENT);
        Check.due("text(600) of 600", () -> y.text(600), 1 - 10);
    }

    private static void faults() {
        Check.sentence("The place of the FAULT of the latest text() that threw nothing; NONE without one, and ahead of any");
        PetitionDesk x = new PetitionDesk();
        Check.due("ahead of any", () -> x.fault(), NONE);
        Check.outcome(() -> x.text(1));
        Check.due("ahead of any, one refused", () -> x.fault(), NONE);
        Check.tell(x, "x");
        Check.due("at 0", () -> x.fault(), 0);
        Check.outcome(() -> x.text(-1));
        Check.due("a refused one tells none", () -> x.fault(), 0);
        Check.tell(x, " ".repeat(599) + "x");
        Check.due("at 599", () -> x.fault(), 599);
        x.undo();
        Check.due("an undo tells none", () -> x.fault(), 599);
        Check.tell(x, "sheet;");
        Check.due("without one", () -> x.fault(), NONE);
        Check.tell(x, "sheet");
        Check.due("at the length", () -> x.fault(), 5);
        x.undo();
        Check.due("a text taken back has none either way", () -> x.fault(), 5);
        x.text(0);
        Check.due("an empty one is without", () -> x.fault(), NONE);
    }

    private static void samples() {
        Check.sentence("A SAMPLE (0, 1) is DRAWN anew of n LINES (1 to all there are): how many are GOOD");
        PetitionDesk x = Check.deskOf(SMALL);
        for (int n : new int[] {0, -1, 9, LEAST, GREATEST}) {
            Check.refused("n " + n, () -> x.sample(0, n, 1), Check.ARGUMENT);
        }
        for (int which : new int[] {-1, 2, LEAST, GREATEST}) {
            Check.refused("which " + which, () -> x.sample(which, 1, 1), Check.ARGUMENT);
        }
        Check.due("nothing is drawn", () -> x.drawn(0, 0), 0);
        Check.due("all there are", () -> x.sample(0, 8, 1), 3);
        Check.due("so many", () -> x.drawn(0, 0), 8);
        x.sample(0, 1, 1);
        Check.due("anew: one", () -> x.drawn(0, 0), 1);
        x.sample(0, 3, 1);
        Check.due("anew: three", () -> x.drawn(0, 0), 3);
        PetitionDesk y = Check.deskOf("sheet;");
        Check.refused("no lines", () -> y.sample(0, 1, 1), Check.ARGUMENT);
        Check.refused("no lines, none drawn", () -> y.sample(0, 0, 1), Check.ARGUMENT);
        PetitionDesk z = Check.deskOf("voter a 1 0;sheet;" + "sign a 1 1;".repeat(40));
        Check.refused("41 of forty", () -> z.sample(1, 41, 1), Check.ARGUMENT);
        Check.due("forty of forty", () -> z.sample(1, 40, 1), 40);
    }

    private static void strikes() {
        Check.sentence("A SHEET is STRUCK by hand, or no more: 1 that is another, 0 it was so");
        PetitionDesk x = Check.deskOf(SMALL);
        Check.due("not by hand", () -> x.strike(0, false), 0);
        Check.due("by hand", () -> x.strike(0, true), 1);
        Check.due("it is", () -> x.sheet(0, 2), 1);
        Check.due("by hand once more", () -> x.strike(0, true), 0);
        Check.due("it is still", () -> x.sheet(0, 2), 1);
        Check.due("no more", () -> x.strike(0, false), 1);
        Check.due("it is not", () -> x.sheet(0, 2), 0);
        // Struck by its wrongs is not by hand.
        Check.due("sheet 1 by hand", () -> x.strike(1, true), 1);
        Check.due("sheet 1 no more", () -> x.strike(1, false), 1);
        Check.due("sheet 1 is struck all the same", () -> x.sheet(1, 1), 1);
        Check.sentence("NoSuchElementException: no such SHEET, LINE, VOTER, letter (so below)");
        for (int sheet : new int[] {-1, 3, 7, 8, 32, 64, LEAST, GREATEST}) {
            Check.refused("strike " + sheet, () -> x.strike(sheet, true), Check.ELEMENT);
            Check.refused("strike no more " + sheet, () -> x.strike(sheet, false), Check.ELEMENT);
        }
        Check.due("nothing is by hand", () -> x.sheet(0, 2) + x.sheet(1, 2) + x.sheet(2, 2), 0);
    }

    private static void signs() {
        Check.sentence("A LINE comes to a SHEET, behind its others: a VOTER's NAME and STREET, a DAY: its number there");
        PetitionDesk x = Check.deskOf("voter a 1 0;voter bcdef 99 0;sheet;sign z 3 3;sheet;sheet;sign y 4 4;");
        Check.due("behind one", () -> x.sign(0, 1, 999), 1);
        Check.due("behind two", () -> x.sign(0, 0, 0), 2);
        Check.due("on a sheet without lines", () -> x.sign(1, 1, 5), 0);
        Check.due("on the last sheet", () -> x.sign(2, 0, 6), 1);
        int[][] due = {{0, 0, 3, 3, NONE}, {0, 1, 99, 999, 1}, {0, 2, 1, 0, 0}, {1, 0, 99, 5, 1}, {2, 0, 4, 4, NONE}, {2, 1, 1, 6, 0}};
        for (int[] row : due) {
            for (int what = 0; what < 3; what++) {
                int of = what;
                Check.due("line " + row[1] + " of sheet " + row[0] + ", " + what, () -> x.line(row[0], row[1], of), row[2 + what]);
            }
        }
        for (int none : new int[] {-1, 3, 8, LEAST, GREATEST}) {
            Check.refused("sheet " + none, () -> x.sign(none, 0, 5), Check.ELEMENT);
        }
        for (int none : new int[] {-1, 2, 16, LEAST, GREATEST}) {
            Check.refused("voter " + none, () -> x.sign(0, none, 5), Check.ELEMENT);
        }
        for (int none : new int[] {-1, 1000, LEAST, GREATEST}) {
            Check.refused("day " + none, () -> x.sign(0, 0, none), Check.ARGUMENT);
        }
    }

    // Thirty lines on sheet 0 with the days 0 to 29, nine on sheet 1 with the days 100 to 108.
    private static PetitionDesk thirtyNine() {
        PetitionDesk x = Check.deskOf("voter a 1 0;sheet;sheet;");
        for (int i = 0; i < 39; i++) {
            x.sign(i < 30 ? 0 : 1, 0, i < 30 ? i : 70 + i);
        }
        return x;
    }

    private static void days(PetitionDesk x, int sheet, int first, int last, int day) {
        for (int l = first; l <= last; l++) {
            int line = l;
            Check.due("day of line " + l + " of sheet " + sheet, () -> x.line(sheet, line, 1), day + l - first);
        }
    }

    private static void signAheadOfMany() {
        Check.sentence("A LINE comes to a SHEET, behind its others");
        PetitionDesk x = thirtyNine();
        Check.due("the fortieth, in the middle", () -> x.sign(0, 0, 500), 30);
        days(x, 0, 0, 29, 0);
        days(x, 0, 30, 30, 500);
        days(x, 1, 0, 8, 100);
    }

    private static void eraseAheadOfMany() {
        Check.sentence("those behind it on its SHEET are numbered anew");
        PetitionDesk x = thirtyNine();
        x.erase(0, 25);
        days(x, 0, 0, 24, 0);
        days(x, 0, 25, 28, 26);
        days(x, 1, 0, 8, 100);
        Check.refused("no line 29", () -> x.line(0, 29, 1), Check.ELEMENT);
    }

    private static void signOfForty() {
        Check.sentence("IllegalStateException: there are 40");
        PetitionDesk x = Check.deskOf("voter a 1 0;voter b 2 0;sheet;sheet;" + "sign a 1 1;".repeat(38) + "sign b 2 4;");
        Check.due("the fortieth", () -> x.sign(0, 1, 9), 0);
        Check.due("it stands ahead", () -> x.line(0, 0, 0), 2);
        Check.due("the last is behind", () -> x.line(1, 38, 1), 4);
        Check.refused("a 41st", () -> x.sign(0, 0, 0), Check.STATE);
        Check.refused("a 41st on the other sheet", () -> x.sign(1, 0, 0), Check.STATE);
        Check.due("there are forty", () -> x.told(2), 40);
        x.erase(0, 0);
        Check.due("one gone, one comes", () -> x.sign(1, 0, 0), 39);
        Check.refused("a 41st again", () -> x.sign(1, 0, 0), Check.STATE);
    }

    private static void erases() {
        Check.sentence("A LINE is gone (those behind it on its SHEET are numbered anew)");
        PetitionDesk x = Check.deskOf("voter a 1 0;sheet;sign a 1 1;sign a 1 2;sign a 1 3;sheet;sign a 1 4;sign a 1 5;");
        x.erase(0, 1);
        Check.due("ahead of it", () -> x.line(0, 0, 1), 1);
        Check.due("behind it", () -> x.line(0, 1, 1), 3);
        Check.due("the other sheet", () -> 10 * x.line(1, 0, 1) + x.line(1, 1, 1), 45);
        Check.refused("no third", () -> x.line(0, 2, 1), Check.ELEMENT);
        Check.due("lines", () -> x.told(2), 4);
        x.erase(1, 1);
        Check.due("the last of all", () -> x.sheet(1, 0), 1);
        x.erase(0, 0);
        Check.due("the first of all", () -> x.line(0, 0, 1), 3);
        x.erase(1, 0);
        x.erase(0, 0);
        Check.due("no lines", () -> x.told(2), 0);
        Check.due("the sheets stay", () -> x.told(1), 2);
        Check.refused("none is left", () -> x.erase(0, 0), Check.ELEMENT);
        PetitionDesk y = Check.deskOf("sheet;" + "sign a 1 1;".repeat(39) + "sign a 9 9;");
        for (int none : new int[] {-1, 40, 41, LEAST, GREATEST}) {
            Check.refused("line " + none, () -> y.erase(0, none), Check.ELEMENT);
        }
        for (int none : new int[] {-1, 1, 8, LEAST, GREATEST}) {
            Check.refused("sheet " + none, () -> y.erase(none, 0), Check.ELEMENT);
        }
        y.erase(0, 0);
        Check.due("of forty the last is 38", () -> y.line(0, 38, 0), 9);
        Check.refused("39 is gone", () -> y.line(0, 39, 0), Check.ELEMENT);
    }

    private static void eraseTellsHow() {
        Check.sentence("how it was JUDGED");
        int[][] lines = {{0, 0, 0}, {0, 1, 0}, {0, 2, 5}, {0, 3, 1}, {1, 0, 2}, {1, 1, 4}, {1, 2, 2}, {2, 0, 3}};
        for (int[] line : lines) {
            PetitionDesk x = Check.deskOf(SMALL);
            Check.due("line " + line[1] + " of sheet " + line[0], () -> x.erase(line[0], line[1]), line[2]);
        }
    }

    private static void undos() {
        Check.sentence("How many ACTS still can be taken back behind it; NONE: none could");
        PetitionDesk x = new PetitionDesk();
        Check.due("none could", () -> x.undo(), NONE);
        Check.due("none could again", () -> x.undo(), NONE);
        x.text(0);
        Check.due("none behind it", () -> x.undo(), 0);
        Check.due("none could any more", () -> x.undo(), NONE);
        x.text(0);
        x.text(0);
        Check.due("one behind it", () -> x.undo(), 1);
        Check.due("it is not refused", () -> x.status(0) + x.status(1) + x.status(2), 0);
    }

    private static void tellings() {
        Check.sentence("0 VOTERS, 1 SHEETS, 2 LINES, 3 NEED, 4, 5 SPAN, 6 SPOILT, 7 ALPHA, 8 SHEETS that are STRUCK (bits), "
                + "9 bytes of the TAPE, 10 ACTS that can be taken back");
        PetitionDesk x = Check.deskOf(SMALL + "alpha 33;");
        int[] told = {3, 3, 8, 3, 15, 650, 60, 33, 6, 0, 1};
        for (int i = 0; i < told.length; i++) {
            int what = i;
            Check.due("told(" + i + ")", () -> x.told(what), told[i]);
        }
        for (int what : new int[] {-1, 11, LEAST, GREATEST}) {
            Check.refused("told(" + what + ")", () -> x.told(what), Check.ARGUMENT);
        }
        PetitionDesk y = Check.deskOf("sheet;".repeat(8));
        for (int s = 0; s < 8; s++) {
            y.strike(s, true);
        }
        Check.due("all eight struck", () -> y.told(8), 255);
        Check.due("eight acts", () -> y.told(10), 8);
        y.strike(0, false);
        Check.due("all but the first", () -> y.told(8), 254);
        Check.due("eight acts still", () -> y.told(10), 8);
    }

    private static void voters() {
        Check.sentence("Of a VOTER: 0 STREET, 1 SINCE, 2 how many LINES it has, 3 how many TRUE ones");
        PetitionDesk x = Check.deskOf(SMALL);
        int[][] due = {{5, 10, 3, 1}, {7, 0, 2, 1}, {9, 500, 2, 0}};
        for (int v = 0; v < 3; v++) {
            for (int w = 0; w < 4; w++) {
                int voter = v;
                int what = w;
                Check.due("voter(" + v + ", " + w + ")", () -> x.voter(voter, what), due[v][w]);
            }
        }
        for (int none : new int[] {-1, 3, 15, 16, LEAST, GREATEST}) {
            Check.refused("voter " + none, () -> x.voter(none, 0), Check.ELEMENT);
        }
        for (int none : new int[] {-1, 4, LEAST, GREATEST}) {
            Check.refused("what " + none, () -> x.voter(0, none), Check.ARGUMENT);
        }
        PetitionDesk y = Check.deskOf("voter a 1 0;voter b 1 0;sheet;" + "sign a 1 1;".repeat(40));
        Check.due("forty lines", () -> y.voter(0, 2), 40);
        Check.due("one is true", () -> y.voter(0, 3), 1);
        Check.due("no lines", () -> y.voter(1, 2) + y.voter(1, 3), 0);
        y.strike(0, true);
        Check.due("none is true", () -> y.voter(0, 3), 0);
        Check.due("forty lines still", () -> y.voter(0, 2), 40);
    }

    private static void letters() {
        Check.sentence("Letter i of a VOTER's NAME");
        PetitionDesk x = Check.deskOf("voter azbyc 1 0;voter q 1 0;voter zz 1 0;");
        String[] names = {"azbyc", "q", "zz"};
        for (int v = 0; v < 3; v++) {
            int voter = v;
            for (int i = 0; i < names[v].length(); i++) {
                int at = i;
                Check.due("letter(" + v + ", " + i + ")", () -> x.letter(voter, at), names[v].charAt(i));
            }
            for (int none : new int[] {-1, names[v].length(), names[v].length() + 1, 5, 6, 7, 32, LEAST, GREATEST}) {
                Check.refused("letter(" + v + ", " + none + ")", () -> x.letter(voter, none), Check.ELEMENT);
            }
        }
        for (int none : new int[] {-1, 3, 16, LEAST, GREATEST}) {
            Check.refused("voter " + none, () -> x.letter(none, 0), Check.ELEMENT);
        }
    }

    private static void sheets() {
        Check.sentence("Of a SHEET: 0 LINES, 1 1 STRUCK, 2 1 by hand, 3 + j how many are JUDGED j (0 to 5)");
        PetitionDesk x = Check.deskOf(SMALL);
        int[][] due = {{4, 0, 0, 2, 1, 0, 0, 0, 1}, {3, 1, 0, 0, 0, 2, 0, 1, 0}, {1, 1, 0, 0, 0, 0, 1, 0, 0}};
        for (int s = 0; s < 3; s++) {
            for (int w = 0; w < 9; w++) {
                int sheet = s;
                int what = w;
                Check.due("sheet(" + s + ", " + w + ")", () -> x.sheet(sheet, what), due[s][w]);
            }
        }
        x.strike(0, true);
        Check.due("struck by hand", () -> x.sheet(0, 1), 1);
        Check.due("by hand", () -> x.sheet(0, 2), 1);
        for (int none : new int[] {-1, 3, 8, 32, LEAST, GREATEST}) {
            Check.refused("sheet " + none, () -> x.sheet(none, 0), Check.ELEMENT);
        }
        for (int none : new int[] {-1, 9, LEAST, GREATEST}) {
            Check.refused("what " + none, () -> x.sheet(0, none), Check.ARGUMENT);
        }
        PetitionDesk y = Check.deskOf("sheet;".repeat(8));
        for (int w = 0; w < 9; w++) {
            int what = w;
            Check.due("no lines, " + w, () -> y.sheet(7, what), 0);
        }
    }

    private static void lines() {
        Check.sentence("Of a LINE: 0 STREET, 1 DAY, 2 its VOTER (NONE), 3 how it is JUDGED, 4, 5 1 it is in SAMPLE 0, 1");
        PetitionDesk x = Check.deskOf(SMALL);
        int[][] due = {
            {0, 0, 5, 20, 0, 0}, {0, 1, 7, 20, 1, 0}, {0, 2, 5, 30, 0, 5}, {0, 3, 1, 20, NONE, 1},
            {1, 0, 9, 400, 2, 2}, {1, 1, 9, 600, 2, 4}, {1, 2, 7, 700, 1, 2}, {2, 0, 5, 17, 0, 3}};
        x.sample(1, 8, 1);
        for (int[] row : due) {
            for (int w = 0; w < 6; w++) {
                int what = w;
                int want = w < 4 ? row[2 + w] : w - 4;
                Check.due("line(" + row[0] + ", " + row[1] + ", " + w + ")", () -> x.line(row[0], row[1], what), want);
            }
        }
        for (int none : new int[] {-1, 4, 40, LEAST, GREATEST}) {
            Check.refused("line " + none, () -> x.line(0, none, 0), Check.ELEMENT);
        }
        for (int none : new int[] {-1, 3, 8, LEAST, GREATEST}) {
            Check.refused("sheet " + none, () -> x.line(none, 0, 0), Check.ELEMENT);
        }
        for (int none : new int[] {-1, 6, LEAST, GREATEST}) {
            Check.refused("what " + none, () -> x.line(0, 0, none), Check.ARGUMENT);
        }
    }

    private static void judgements() {
        Check.sentence("How many LINES are JUDGED so (0 to 5)");
        PetitionDesk x = Check.deskOf(SMALL);
        int[] due = {2, 1, 2, 1, 1, 1};
        for (int j = 0; j < 6; j++) {
            int how = j;
            Check.due("judged(" + j + ")", () -> x.judged(how), due[j]);
        }
        for (int none : new int[] {-1, 6, LEAST, GREATEST}) {
            Check.refused("judged(" + none + ")", () -> x.judged(none), Check.ARGUMENT);
        }
        PetitionDesk y = Check.deskOf("sheet;" + "sign a 1 1;".repeat(40));
        Check.due("all forty", () -> y.judged(1), 40);
    }

    private static void passing() {
        Check.sentence("1 as many are TRUE as NEED, or more");
        String two = "voter a 1 0;voter b 1 0;sheet;sign a 1 1;sign b 1 1;sign b 1 1;";
        Check.due("fewer are needed", () -> Check.deskOf(two + "need 1;").passes(), 1);
        Check.due("as many", () -> Check.deskOf(two + "need 2;").passes(), 1);
        Check.due("more are needed", () -> Check.deskOf(two + "need 3;").passes(), 0);
        Check.due("none needed, none there", () -> Check.deskOf("need 0;").passes(), 1);
        Check.due("one needed, none there", () -> Check.deskOf("sheet;").passes(), 0);
    }

    private static void drawn() {
        Check.sentence("Of a SAMPLE: 0 LINES, 1 GOOD, 2 PAIRS, 3 LOW, 4 HIGH, 5 VERDICT (3 to 5 NONE, if it is empty)");
        PetitionDesk x = Check.deskOf("voter a 1 0;sheet;" + "sign a 1 1;".repeat(10) + "need 11;");
        int[] empty = {0, 0, 0, NONE, NONE, NONE};
        int[] four = {4, 4, 6, 6, 10, 2};
        x.sample(1, 4, 1);
        for (int w = 0; w < 6; w++) {
            int what = w;
            Check.due("empty, " + w, () -> x.drawn(0, what), empty[w]);
            Check.due("of four, " + w, () -> x.drawn(1, what), four[w]);
        }
        for (int none : new int[] {-1, 2, LEAST, GREATEST}) {
            Check.refused("which " + none, () -> x.drawn(none, 0), Check.ARGUMENT);
        }
        for (int none : new int[] {-1, 6, LEAST, GREATEST}) {
            Check.refused("what " + none, () -> x.drawn(0, none), Check.ARGUMENT);
            Check.refused("what " + none + " of one that is not empty", () -> x.drawn(1, none), Check.ARGUMENT);
        }
        PetitionDesk y = new PetitionDesk();
        Check.due("empty, no lines at all", () -> y.drawn(1, 5), NONE);
    }

    private static void estimates() {
        Check.sentence("IllegalStateException: it has fewer than two LINES");
        PetitionDesk x = Check.deskOf("voter a 1 0;voter b 1 0;sheet;sign a 1 1;sign b 1 1;sign b 1 1;");
        x.sample(1, 2, 1);
        Check.refused("none", () -> x.estimate(0, 0), Check.STATE);
        Check.refused("none", () -> x.estimate(0, 1), Check.STATE);
        x.sample(0, 1, 1);
        Check.refused("one", () -> x.estimate(0, 0), Check.STATE);
        Check.refused("one", () -> x.estimate(0, 1), Check.STATE);
        x.sample(0, 2, 0);
        Check.due("two", () -> x.estimate(0, 1), 1);
        x.sample(1, 1, 1);
        Check.refused("one of sample 1", () -> x.estimate(1, 0), Check.STATE);
        Check.sentence("ESTIMATE of a SAMPLE: 0 the number above, 1 below");
        x.sample(0, 3, 1);
        // 3 * 3 / 3 less 3 * 2 * 1 / (3 * 2) = 2.
        Check.due("above", () -> x.estimate(0, 0), 2);
        Check.due("below", () -> x.estimate(0, 1), 1);
        for (int none : new int[] {-1, 2, LEAST, GREATEST}) {
            Check.refused("which " + none, () -> x.estimate(none, 0), Check.ARGUMENT);
            Check.refused("what " + none, () -> x.estimate(0, none), Check.ARGUMENT);
        }
    }

    private static void unlikes() {
        Check.sentence("UNLIKE: 0 the number above, 1 below; NONE: no VOTER is in both");
        PetitionDesk x = Check.deskOf("voter a 1 0;voter b 1 0;sheet;sign a 1 1;sign b 1 1;sheet;sign b 1 1;");
        Check.due("both empty, above", () -> x.unlike(0), NONE);
        Check.due("both empty, below", () -> x.unlike(1), NONE);
        x.sample(0, 3, 1);
        Check.due("one empty, above", () -> x.unlike(0), NONE);
        x.sample(1, 3, 2);
        Check.due("two times two by two, above", () -> x.unlike(0), 2);
        Check.due("two times two by two, below", () -> x.unlike(1), 1);
        x.strike(0, true);
        Check.due("b's other line, above", () -> x.unlike(0), 1);
        x.strike(1, true);
        Check.due("no line is good, above", () -> x.unlike(0), NONE);
        Check.due("no line is good, below", () -> x.unlike(1), NONE);
        PetitionDesk y = Check.deskOf("voter a 1 0;voter b 1 0;sheet;sign a 1 1;sign b 1 1;");
        boolean[] seen = new boolean[2];
        for (int seed = 0; seed < 8; seed++) {
            y.sample(0, 1, 1);
            y.sample(1, 1, seed);
            boolean same = y.line(0, 0, 4) == y.line(0, 0, 5);
            seen[same ? 1 : 0] = true;
            Check.due("one line each, seed " + seed, () -> y.unlike(0), same ? 1 : NONE);
        }
        Check.look("alike and unlike", "" + (seen[0] && seen[1]), "true");
        for (int none : new int[] {-1, 2, LEAST, GREATEST}) {
            Check.refused("what " + none, () -> y.unlike(none), Check.ARGUMENT);
        }
        PetitionDesk z = new PetitionDesk();
        Check.refused("empty, no what", () -> z.unlike(2), Check.ARGUMENT);
    }

    private static void unseens() {
        Check.sentence("UNSEEN of n (0 to all LINES): 0 the number above, 1 below");
        PetitionDesk x = Check.deskOf("voter a 1 0;sheet;sign a 1 1;sign a 1 1;sign b 1 1;");
        Check.due("none, above", () -> x.unseen(0, 0), 1);
        Check.due("none, below", () -> x.unseen(0, 1), 1);
        Check.due("two, above", () -> x.unseen(2, 0), 2);
        Check.due("two, below", () -> x.unseen(2, 1), 3);
        Check.due("all, above", () -> x.unseen(3, 0), 0);
        Check.due("all, below", () -> x.unseen(3, 1), 1);
        for (int none : new int[] {-1, 4, 41, LEAST, GREATEST}) {
            Check.refused("n " + none, () -> x.unseen(none, 0), Check.ARGUMENT);
        }
        for (int none : new int[] {-1, 2, LEAST, GREATEST}) {
            Check.refused("what " + none, () -> x.unseen(1, none), Check.ARGUMENT);
        }
        PetitionDesk y = new PetitionDesk();
        Check.refused("one of no lines", () -> y.unseen(1, 0), Check.ARGUMENT);
        Check.due("none of no lines", () -> y.unseen(0, 1), 1);
    }

    private static void fewests() {
        Check.sentence("FEWEST; NONE: by none of 1 to all LINES");
        Check.due("no lines, none needed", () -> Check.deskOf("need 0;").fewest(), NONE);
        String three = "sheet;sign a 1 1;sign a 1 1;sign a 1 1;";
        Check.due("none needed", () -> Check.deskOf(three + "need 0;").fewest(), 1);
        Check.due("all needed", () -> Check.deskOf(three + "need 3;").fewest(), 3);
        Check.due("more needed", () -> Check.deskOf(three + "need 4;").fewest(), NONE);
        String forty = "sheet;" + "sign a 1 1;".repeat(40);
        Check.due("forty of forty", () -> Check.deskOf(forty + "need 40;alpha 1;").fewest(), 40);
        // 1000 * C(39, n) / C(40, n) = 1000 * (40 - n) / 40: no more than 499 from 21 on (475; 500 at 20).
        Check.due("forty of forty, alpha 499", () -> Check.deskOf(forty + "need 40;alpha 499;").fewest(), 21);
        Check.due("of 39", () -> Check.deskOf("sheet;" + "sign a 1 1;".repeat(39) + "need 40;alpha 499;").fewest(), NONE);
    }

    private static void worsts() {
        Check.sentence("WORST of k (1 to 8): 0 the set, 1 how many are TRUE then; NONE: there are not so many SHEETS that are not STRUCK");
        PetitionDesk x = Check.deskOf("voter a 1 0;voter b 1 0;sheet;sign a 1 1;sheet;sign b 1 1;sign a 1 1;");
        Check.due("one, the set", () -> x.worst(1, 0), 2);
        Check.due("one, true then", () -> x.worst(1, 1), 1);
        Check.due("two, the set", () -> x.worst(2, 0), 3);
        Check.due("two, true then", () -> x.worst(2, 1), 0);
        for (int k = 3; k <= 8; k++) {
            int many = k;
            Check.due("not so many, the set, " + k, () -> x.worst(many, 0), NONE);
            Check.due("not so many, true then, " + k, () -> x.worst(many, 1), NONE);
        }
        x.strike(0, true);
        Check.due("not so many that are not struck", () -> x.worst(2, 0), NONE);
        Check.due("one that is not", () -> x.worst(1, 0), 2);
        x.strike(1, true);
        Check.due("all are struck, the set", () -> x.worst(1, 0), NONE);
        Check.due("all are struck, true then", () -> x.worst(1, 1), NONE);
        for (int none : new int[] {0, -1, 9, LEAST, GREATEST}) {
            Check.refused("k " + none, () -> x.worst(none, 0), Check.ARGUMENT);
        }
        for (int none : new int[] {-1, 2, LEAST, GREATEST}) {
            Check.refused("what " + none, () -> x.worst(1, none), Check.ARGUMENT);
        }
    }

    private static void costs() {
        Check.sentence("What it costs to judge all LINES, so much (0 or more) each, as an int");
        PetitionDesk x = Check.deskOf("sheet;" + "sign a 1 1;".repeat(40));
        Check.due("nothing", () -> x.cost(0), 0);
        Check.due("one each", () -> x.cost(1), 40);
        Check.sentence("IllegalArgumentException: it is below 0, or the product is above the greatest int");
        Check.due("the most", () -> x.cost(53687091), 2147483640);
        for (int none : new int[] {53687092, 107374183, 1 << 30, GREATEST}) {
            Check.refused("above: " + none, () -> x.cost(none), Check.ARGUMENT);
        }
        for (int none : new int[] {-1, -53687092, LEAST}) {
            Check.refused("below 0: " + none, () -> x.cost(none), Check.ARGUMENT);
        }
        PetitionDesk y = Check.deskOf("sheet;sign a 1 1;");
        Check.due("the greatest int is not above it", () -> y.cost(GREATEST), GREATEST);
        PetitionDesk z = new PetitionDesk();
        Check.due("no lines cost nothing", () -> z.cost(GREATEST), 0);
        Check.refused("no lines, below 0", () -> z.cost(-1), Check.ARGUMENT);
        Check.refused("no lines, least", () -> z.cost(LEAST), Check.ARGUMENT);
    }

    private static void prints() {
        Check.sentence("From 0 on, of LINE by LINE: 31 times what there is, and STREET, 31 times, and how it is JUDGED");
        Check.due("no lines", () -> new PetitionDesk().print(), 0);
        Check.due("one line", () -> Check.deskOf("sheet;sign a 7 1;").print(), 7 * 31 + 1);
        Check.due("all of them", () -> Check.deskOf(SMALL).print(), Check.printOf(5, 0, 7, 0, 5, 5, 1, 1, 9, 2, 9, 4, 7, 2, 5, 3));
        // Of fourteen lines on, 31 to the 28, a long wraps.
        PetitionDesk x = Check.deskOf("voter a 99 0;sheet;" + "sign a 99 1;".repeat(40));
        int[] forty = new int[80];
        for (int i = 0; i < 80; i++) {
            forty[i] = i % 2 == 0 ? 99 : i == 1 ? 0 : 5;
        }
        Check.due("forty lines, wrapping", () -> x.print(), Check.printOf(forty));
        Check.due("a street of 0", () -> Check.deskOf("voter a 0 0;sheet;sign a 0 0;").print(), 0);
    }

    private static void statuses() {
        Check.sentence("How many calls were refused: 0 NoSuchElementException, 1 IllegalArgumentException, 2 IllegalStateException; "
                + "NONE for others");
        PetitionDesk x = new PetitionDesk();
        for (int what : new int[] {-1, 3, LEAST, GREATEST}) {
            Check.due("status(" + what + ")", () -> x.status(what), NONE);
        }
        Check.due("none yet", () -> x.status(0) + x.status(1) + x.status(2), 0);
        for (int i = 0; i < 3; i++) {
            Check.outcome(() -> x.letter(0, 0));
        }
        Check.outcome(() -> x.told(-1));
        Check.outcome(() -> x.estimate(0, 0));
        Check.outcome(() -> x.estimate(1, 0));
        Check.due("elements", () -> x.status(0), 3);
        Check.due("arguments", () -> x.status(1), 1);
        Check.due("states", () -> x.status(2), 2);
        // What answers NONE, a fault or 0 is not refused.
        x.undo();
        x.fewest();
        x.worst(1, 0);
        x.unlike(0);
        x.drawn(0, 5);
        Check.tell(x, "x");
        Check.tell(x, "sheet;");
        x.strike(0, false);
        x.undo();
        x.undo();
        Check.due("elements still", () -> x.status(0), 3);
        Check.due("arguments still", () -> x.status(1), 1);
        Check.due("states still", () -> x.status(2), 2);
    }
}
