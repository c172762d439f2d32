/** For each promise ordinary inputs, the edges that the document names, and wrong inputs, with answers worked out by hand. */
public final class PromiseTest {
    private static final int NONE = PetitionDesk.NONE;

    // Sheet 0: true, true, double, nobody. Sheet 1 (struck, two of three are late): late, struck, late.
    private static final String SMALL = "voter ann 5 10;voter bob 7 0;voter cyd 9 500;"
            + "sheet;sign ann 5 20;sign bob 7 20;sign ann 5 30;sign dan 1 20;"
            + "sheet;sign cyd 9 400;sign cyd 9 600;sign bob 7 700;"
            + "need 3;span 15 650;spoilt 60;good street<9 or day>500;";

    public static void main(String[] args) {
        newObject();
        feeding();
        texts();
        faultsOfOne();
        faultsOfTwoToFive();
        faultsOfSeveral();
        faultPlaces();
        samples();
        strikes();
        signing();
        erasing();
        undoing();
        undoneTexts();
        tellings();
        votersAndLetters();
        sheets();
        lines();
        judgements();
        rules();
        passing();
        drawings();
        estimates();
        unlikes();
        unseens();
        fewests();
        worsts();
        costs();
        prints();
        statuses();
        Check.end("PromiseTest");
    }

    private static void newObject() {
        PetitionDesk x = new PetitionDesk();
        int[] told = {0, 0, 0, 1, 0, 999, 100, 50, 0, 0, 0};
        for (int i = 0; i < told.length; i++) {
            int what = i;
            Check.due("new told(" + i + ")", () -> x.told(what), told[i]);
        }
        Check.due("new fault", () -> x.fault(), NONE);
        Check.due("new undo", () -> x.undo(), NONE);
        Check.due("new passes", () -> x.passes(), 0);
        Check.due("new print", () -> x.print(), 0);
        Check.due("NONE", () -> PetitionDesk.NONE, -1);
    }

    private static void feeding() {
        PetitionDesk x = new PetitionDesk();
        for (int i = 1; i <= 30; i++) {
            Check.due("feed " + i, () -> x.feed(0x20202020, 0x20202020, 0x20202020, 0x20202020, 0x20202020), 20 * i);
        }
        Check.due("feed beyond 600", () -> x.feed(0, 0, 0, 0, 0), NONE);
        Check.due("tape is full", () -> x.told(9), 600);
        Check.due("a text of 600 blanks", () -> x.text(600), 0);
        Check.due("tape is empty", () -> x.told(9), 0);
        // The highest byte of each number comes first.
        x.feed('n' << 24 | 'e' << 16 | 'e' << 8 | 'd', ' ' << 24 | '2' << 16 | '3' << 8 | ';', 0, 0, 0);
        Check.due("text", () -> x.text(8), 0);
        Check.due("need 23", () -> x.told(3), 23);
    }

    private static void texts() {
        PetitionDesk x = Check.deskOf(SMALL);
        Check.refused("text(-1)", () -> x.text(-1), Check.ARGUMENT);
        Check.refused("text(1) of none", () -> x.text(1), Check.ARGUMENT);
        Check.feed(x, Check.bytesOf("need 7;sheet;"));
        Check.refused("text(21) of 20", () -> x.text(21), Check.ARGUMENT);
        Check.due("the tape stays", () -> x.told(9), 20);
        Check.due("lines stay", () -> x.told(2), 7);
        x.sample(0, 3, 3);
        Check.due("the first bytes alone", () -> x.text(7), 0);
        Check.due("need", () -> x.told(3), 7);
        Check.due("no sheet of the bytes behind", () -> x.told(1), 0);
        Check.due("all is told anew: span", () -> x.told(5), 999);
        Check.due("all is told anew: spoilt", () -> x.told(6), 100);
        Check.due("samples are empty", () -> x.drawn(0, 0), 0);

        PetitionDesk y = Check.deskOf(SMALL);
        y.sample(1, 4, 4);
        y.strike(0, true);
        long before = y.print();
        Check.due("a fault", () -> Check.tell(y, "sheet;x"), 1 - 10);
        Check.due("all but the tape stays: print", () -> y.print(), before);
        Check.due("all but the tape stays: sample", () -> y.drawn(1, 0), 4);
        Check.due("all but the tape stays: by hand", () -> y.sheet(0, 2), 1);
        Check.due("all but the tape stays: acts", () -> y.told(10), 3);
        Check.due("the tape is empty", () -> y.told(9), 0);
        Check.due("a text strikes no sheet", () -> Check.tell(y, SMALL) + 10 * y.sheet(0, 2), 7);

        Check.due("blanks where they may be left out", () ->
                Check.tell(y, "voter  a1  2 ; sheet;sign a01 002;good(1=1or 2<1)and not(day>3)and line=0  ;  "), 1);
        Check.due("it is true", () -> y.judged(0), 1);
        Check.due("words told here as names", () ->
                Check.tell(y, "voter voter 1 1;voter sheet 1 1;sheet;sign sign 1 1;sign good 1 1;sign sheet 1 1;"), 3);
        Check.due("one of them has a voter", () -> y.judged(1), 2);
        Check.due("a letter five bytes behind a short name", () -> Check.tell(y, "sheet;sign ab 0 1;sign ab00a"), 1 - 10);
        Check.due("it is no part of it", () -> y.fault(), 27);
        Check.due("one name on two streets", () -> Check.tell(y, "voter a 1 1;voter a 2 1;"), 0);
        Check.due("two voters", () -> y.told(0), 2);
        Check.due("a number with many zeros", () -> Check.tell(y, "need 0000000000000000000000000000000000040;"), 0);
        Check.due("need 40", () -> y.told(3), 40);
        Check.due("the greatest numbers", () -> Check.tell(y,
                "voter zzzzz 99 999;sheet;sign zzzzz 99 999;need 40;span 999 999;spoilt 100;alpha 499;good 999=999;"), 1);
        Check.due("the least numbers", () -> Check.tell(y,
                "voter a 0 0;sheet;sign a 0 0;need 0;span 0 0;spoilt 0;alpha 1;good 0=0;"), 1);
    }

    private static void faultsOfOne() {
        Check.fault(";", 1, 0);
        Check.fault("7", 1, 0);
        Check.fault("Sheet;", 1, 0);
        Check.fault("  sheets;", 1, 2);
        Check.fault("sheet", 1, 5);
        Check.fault("sheet  ", 1, 7);
        Check.fault("sheet 1;", 1, 6);
        Check.fault("sheet;;", 1, 6);
        Check.fault("voter", 1, 5);
        Check.fault("voter 1", 1, 6);
        Check.fault("voter a b", 1, 8);
        Check.fault("voter a 1;", 1, 9);
        Check.fault("voter a 1 1 1;", 1, 12);
        Check.fault("votera 1 1;", 1, 0);
        Check.fault("voter abcdef 1 1;", 1, 6);
        Check.fault("sign a 1 1;sheet;", 1, 0);
        Check.fault("sheet;sign sheets 1 1;", 1, 11);
        Check.fault("need;", 1, 4);
        Check.fault("need x;", 1, 5);
        Check.fault("need 1x;", 1, 6);
        Check.fault("need -1;", 1, 5);
        Check.fault("span 1;", 1, 6);
        Check.fault("span 1 2 3;", 1, 9);
        Check.fault("need 1;need 1;", 1, 7);
        Check.fault("span 1 1;span 1 1;", 1, 9);
        Check.fault("spoilt 1;spoilt 1;", 1, 9);
        Check.fault("alpha 1;alpha 1;", 1, 8);
        Check.fault("good 1=1;good 1=1;", 1, 9);
        Check.fault("need\t1;", 1, 4);
        Check.fault("good;", 1, 4);
        Check.fault("good 1;", 1, 6);
        Check.fault("good 1=;", 1, 7);
        Check.fault("good 1==1;", 1, 7);
        Check.fault("good 1=1", 1, 8);
        Check.fault("good 1=1=1;", 1, 8);
        Check.fault("good 1=1);", 1, 8);
        Check.fault("good (1=1;", 1, 9);
        Check.fault("good ();", 1, 6);
        Check.fault("good 1=1 and;", 1, 12);
        Check.fault("good or 1=1;", 1, 5);
        Check.fault("good 1=1 xor 1=1;", 1, 9);
        Check.fault("good 1=1 andday=1;", 1, 9);
        Check.fault("good days=1;", 1, 5);
        Check.fault("good 1=not 1=1;", 1, 7);
        Check.fault("good 1=(1);", 1, 7);
        Check.fault("good need=1;", 1, 5);
        Check.fault("" + (char) 233, 1, 0);
        Check.fault("" + (char) 255, 1, 0);
        Check.fault("sheet;" + (char) 0, 1, 6);
        Check.fault(";".repeat(600), 1, 0);
        Check.fault("good 1" + "<1".repeat(297), 1, 8);
        Check.fault("good 1=1" + "or 1=1".repeat(98) + "and", 1, 599);
    }

    private static void faultsOfTwoToFive() {
        Check.fault("voter a 100 1;", 2, 8);
        Check.fault("voter a 1 1000;", 2, 10);
        Check.fault("sheet;sign a 100 1;", 2, 13);
        Check.fault("sheet;sign a 1 1000;", 2, 15);
        Check.fault("need 41;", 2, 5);
        Check.fault("need 4294967297;", 2, 5);
        Check.fault("need 18446744073709551617;", 2, 5);
        Check.fault("span 1000 1000;", 2, 5);
        Check.fault("span 5 1000;", 2, 7);
        Check.fault("span 5 4;", 2, 7);
        Check.fault("spoilt 101;", 2, 7);
        Check.fault("alpha 0;", 2, 6);
        Check.fault("alpha 500;", 2, 6);
        Check.fault("good 1000=1;", 2, 5);
        Check.fault("good 1=1000;", 2, 7);
        Check.fault("voter a 1 1;voter a 01 2;", 3, 18);
        Check.fault("voter a 1 1;voter  a 1", 3, 19);
        StringBuilder voters = new StringBuilder();
        for (int i = 0; i < 16; i++) {
            voters.append("voter a ").append(i).append(" 1;");
        }
        Check.fault(voters + " voter b 1 1;", 4, voters.length() + 1);
        Check.fault(voters + "voter", 4, voters.length());
        Check.fault("sheet;".repeat(8) + "sheet;", 4, 48);
        Check.fault("sheet;" + "sign a 1 1;".repeat(40) + "sign a 1 1;", 4, 446);
        Check.fault("good not not not not not 1=1;", 5, 21);
        Check.fault("good ((((1=1 and (1=1)))));", 5, 17);
        Check.fault("good not(not(not 1=1));", 5, 13);
        Check.fault("good ((((not 1=1))));", 5, 9);
        Check.fault("good not((((1=1))));", 5, 11);
    }

    private static void faultsOfSeveral() {
        Check.fault("voter a 1 1;voter a 1 1000;", 3, 18);
        Check.fault("voter a 1 1;voter a 1 x;", 3, 18);
        Check.fault("voter a 1 1;voter a 100 x;", 2, 20);
        Check.fault("need 41;x", 2, 5);
        Check.fault("good ((((1=not 1=1", 1, 11);
        Check.fault("good ((((1=(1", 1, 11);
        Check.fault("good not not not not not", 5, 21);
        Check.fault("sheet;".repeat(8) + "sheet x", 4, 48);
        PetitionDesk x = new PetitionDesk();
        Check.due("four nested, twice, and a not that has ended", () ->
                Check.tell(x, "good ((not(1=1)))and not not not not 1=1 or not 1=2 and not 1=3 and((((1=1))));"), 0);
        Check.due("limits are no faults", () -> Check.tell(x,
                "sheet;".repeat(8) + "sign a 1 1;".repeat(40)), 40);
    }

    private static void faultPlaces() {
        PetitionDesk x = new PetitionDesk();
        Check.tell(x, "sheet;x");
        Check.due("fault stands", () -> x.fault(), 6);
        Check.refused("text that throws", () -> x.text(-5), Check.ARGUMENT);
        Check.due("fault stands still", () -> x.fault(), 6);
        Check.tell(x, "sheet;");
        Check.due("no fault", () -> x.fault(), NONE);
        Check.tell(x, "y");
        x.undo();
        Check.due("fault is not taken back", () -> x.fault(), 0);
    }

    private static void samples() {
        PetitionDesk x = Check.deskOf(SMALL);
        Check.refused("sample(-1, ..)", () -> x.sample(-1, 1, 1), Check.ARGUMENT);
        Check.refused("sample(2, ..)", () -> x.sample(2, 1, 1), Check.ARGUMENT);
        Check.refused("sample(0, 0, ..)", () -> x.sample(0, 0, 1), Check.ARGUMENT);
        Check.refused("sample(0, 8, ..)", () -> x.sample(0, 8, 1), Check.ARGUMENT);
        Check.due("no act", () -> x.told(10), 1);
        Check.due("all lines", () -> x.sample(0, 7, Integer.MIN_VALUE), 3);
        // 1103515245 + 12345 = 1103527590, >>> 8 4310654, modulo 7 5.
        Check.due("one line", () -> x.sample(1, 1, 1), 0);
        Check.due("it is the sixth", () -> x.line(1, 1, 5), 1);
        Check.due("it is not the other sample's", () -> x.drawn(0, 0), 7);
        // 0: 12345 >>> 8 is 48, modulo 7 6; the next one -740551042, >>> 8 13884438, modulo 6 0.
        Check.due("two lines", () -> x.sample(1, 2, 0), 1);
        Check.due("the seventh", () -> x.line(1, 2, 5), 1);
        Check.due("the first", () -> x.line(0, 0, 5), 1);
        Check.due("drawn anew", () -> x.line(1, 1, 5), 0);
    }

    private static void strikes() {
        PetitionDesk x = Check.deskOf(SMALL);
        Check.refused("strike(-1)", () -> x.strike(-1, true), Check.ELEMENT);
        Check.refused("strike(2)", () -> x.strike(2, false), Check.ELEMENT);
        Check.due("it was so", () -> x.strike(0, false), 0);
        Check.due("that is an act, too", () -> x.told(10), 2);
        x.sample(0, 7, 1);
        Check.due("another", () -> x.strike(0, true), 1);
        Check.due("true ones", () -> x.judged(0), 0);
        Check.due("struck ones", () -> x.judged(4), 4);
        Check.due("the sample stays", () -> x.drawn(0, 0), 7);
        Check.due("none of it is good", () -> x.drawn(0, 1), 0);
        Check.due("it was so", () -> x.strike(0, true), 0);
        Check.due("no more", () -> x.strike(0, false), 1);
        Check.due("true ones", () -> x.judged(0), 2);
        // Sheet 1 is struck by its wrongs; by hand it is not yet.
        Check.due("by hand, too", () -> x.strike(1, true), 1);
        Check.due("by hand no more", () -> x.strike(1, false), 1);
        Check.due("still struck", () -> x.sheet(1, 1), 1);
        PetitionDesk y = Check.deskOf("sheet;sheet;");
        Check.due("a sheet without lines", () -> y.strike(1, true), 1);
        Check.due("bits", () -> y.told(8), 2);
    }

    private static void signing() {
        PetitionDesk x = Check.deskOf(SMALL);
        Check.refused("no sheet, no day", () -> x.sign(2, 0, 1000), Check.ELEMENT);
        Check.refused("no voter, no day", () -> x.sign(0, 3, -1), Check.ELEMENT);
        Check.refused("voter -1", () -> x.sign(0, -1, 5), Check.ELEMENT);
        Check.refused("sheet -1", () -> x.sign(-1, 0, 5), Check.ELEMENT);
        Check.refused("day 1000", () -> x.sign(0, 0, 1000), Check.ARGUMENT);
        Check.refused("day -1", () -> x.sign(0, 0, -1), Check.ARGUMENT);
        x.sample(0, 2, 2);
        x.sample(1, 2, 2);
        Check.due("behind the lines of sheet 0", () -> x.sign(0, 2, 999), 4);
        Check.due("its street", () -> x.line(0, 4, 0), 9);
        Check.due("its day", () -> x.line(0, 4, 1), 999);
        Check.due("its voter", () -> x.line(0, 4, 2), 2);
        Check.due("sheet 1 is as it was", () -> x.line(1, 2, 1), 700);
        Check.due("sample 0 is empty", () -> x.drawn(0, 0), 0);
        Check.due("sample 1 is empty", () -> x.drawn(1, 0), 0);
        for (int i = 9; i <= 40; i++) {
            x.sign(1, 0, 0);
        }
        Check.refused("a 41st", () -> x.sign(0, 0, 0), Check.STATE);
        Check.refused("a 41st, no day", () -> x.sign(0, 0, 1000), Check.ARGUMENT);
        Check.due("40", () -> x.told(2), 40);
        PetitionDesk y = Check.deskOf("voter b 2 0;sheet;sheet;" + "sign a 1 1;".repeat(38) + "sign a 3 4;");
        Check.due("the fortieth, ahead of all others", () -> y.sign(0, 0, 9), 0);
        Check.due("it stands there", () -> y.line(0, 0, 0), 2);
        Check.due("the others behind it", () -> y.line(1, 38, 0), 3);
        Check.due("with their days", () -> y.line(1, 38, 1), 4);
    }

    private static void erasing() {
        PetitionDesk x = Check.deskOf(SMALL);
        Check.refused("no sheet", () -> x.erase(2, 0), Check.ELEMENT);
        Check.refused("no line", () -> x.erase(0, 4), Check.ELEMENT);
        Check.refused("line -1", () -> x.erase(1, -1), Check.ELEMENT);
        x.sample(0, 7, 7);
        Check.due("it was true", () -> x.erase(0, 0), 0);
        Check.due("the sample is empty", () -> x.drawn(0, 0), 0);
        Check.due("the double is true now", () -> x.line(0, 1, 3), 0);
        Check.due("numbered anew", () -> x.line(0, 0, 2), 1);
        Check.due("sheet 1 is as it was", () -> x.line(1, 0, 1), 400);
        Check.due("it was nobody's", () -> x.erase(0, 2), 1);
        Check.due("it was late", () -> x.erase(1, 2), 2);
        Check.due("sheet 1 is struck no more", () -> x.told(8), 0);
        Check.due("lines", () -> x.told(2), 4);
        PetitionDesk y = Check.deskOf("voter a 1 0;sheet;sign a 1 1;sheet;good line>5;");
        Check.due("it was wrong", () -> y.erase(0, 0), 3);
        Check.refused("gone", () -> y.erase(0, 0), Check.ELEMENT);
        Check.due("the sheets stay", () -> y.told(1), 2);
    }

    private static void undoing() {
        PetitionDesk x = Check.deskOf(SMALL);
        long first = x.print();
        x.sample(0, 3, 1);
        x.sample(0, 4, 1);
        Check.due("sample taken back", () -> x.undo(), 2);
        Check.due("the one ahead of it", () -> x.drawn(0, 0), 3);
        x.strike(0, true);
        Check.due("strike taken back", () -> x.undo(), 2);
        Check.due("as it was", () -> x.print(), first);
        Check.due("the sample is still there", () -> x.drawn(0, 0), 3);
        x.erase(0, 0);
        Check.due("erase taken back", () -> x.undo(), 2);
        Check.due("as it was", () -> x.print(), first);
        Check.due("the sample is there again", () -> x.drawn(0, 0), 3);
        x.sign(0, 0, 1);
        Check.due("sign taken back", () -> x.undo(), 2);
        Check.due("as it was", () -> x.print(), first);
        Check.due("the sample is there again", () -> x.drawn(0, 0), 3);
        for (int i = 0; i < 20; i++) {
            x.strike(0, i % 2 == 0);
        }
        Check.due("eight at most", () -> x.told(10), 8);
        for (int left = 7; left >= 0; left--) {
            Check.due("one more back", () -> x.undo(), left);
            int by = left % 2;
            Check.due("by hand", () -> x.sheet(0, 2), by);
        }
        Check.due("no more", () -> x.undo(), NONE);
        Check.due("none", () -> x.told(10), 0);
        x.strike(0, true);
        Check.due("another one", () -> x.undo(), 0);
    }

    private static void undoneTexts() {
        PetitionDesk x = Check.deskOf(SMALL);
        x.strike(0, true);
        x.sample(1, 5, 5);
        long before = x.print();
        Check.tell(x, "voter z 1 1;sheet;sign z 1 2;good day=2;need 9;alpha 9;");
        Check.due("told anew", () -> x.judged(0), 1);
        Check.feed(x, Check.bytesOf("sheet;"));
        Check.due("text taken back", () -> x.undo(), 3);
        Check.due("lines as they were", () -> x.print(), before);
        Check.due("the rule as it was", () -> x.line(1, 1, 3), 4);
        Check.due("need as it was", () -> x.told(3), 3);
        Check.due("alpha as it was", () -> x.told(7), 50);
        Check.due("by hand as it was", () -> x.sheet(0, 2), 1);
        Check.due("the sample as it was", () -> x.drawn(1, 0), 5);
        Check.due("letters as they were", () -> x.letter(2, 2), 'd');
        Check.due("feed is no act: the tape stays", () -> x.told(9), 20);
        x.undo();
        x.undo();
        Check.due("the first text taken back", () -> x.undo(), 0);
        Check.due("no voters", () -> x.told(0), 0);
        Check.due("no sheets", () -> x.told(1), 0);
        Check.due("the tape stays", () -> x.told(9), 20);
    }

    private static void tellings() {
        PetitionDesk x = Check.deskOf(SMALL);
        int[] told = {3, 2, 7, 3, 15, 650, 60, 50, 2, 0, 1};
        for (int i = 0; i < told.length; i++) {
            int what = i;
            Check.due("told(" + i + ")", () -> x.told(what), told[i]);
        }
        Check.refused("told(-1)", () -> x.told(-1), Check.ARGUMENT);
        Check.refused("told(11)", () -> x.told(11), Check.ARGUMENT);
        Check.refused("told(least)", () -> x.told(Integer.MIN_VALUE), Check.ARGUMENT);
    }

    private static void votersAndLetters() {
        PetitionDesk x = Check.deskOf(SMALL);
        int[][] due = {{5, 10, 2, 1}, {7, 0, 2, 1}, {9, 500, 2, 0}};
        for (int v = 0; v < 3; v++) {
            for (int w = 0; w < 4; w++) {
                int voter = v;
                int what = w;
                Check.due("voter(" + v + ", " + w + ")", () -> x.voter(voter, what), due[v][w]);
            }
        }
        Check.refused("voter 3", () -> x.voter(3, 0), Check.ELEMENT);
        Check.refused("voter -1, what 9", () -> x.voter(-1, 9), Check.ELEMENT);
        Check.refused("what 4", () -> x.voter(0, 4), Check.ARGUMENT);
        Check.refused("what -1", () -> x.voter(0, -1), Check.ARGUMENT);
        Check.due("letter(1, 0)", () -> x.letter(1, 0), 'b');
        Check.due("letter(1, 1)", () -> x.letter(1, 1), 'o');
        Check.refused("letter(1, 3)", () -> x.letter(1, 3), Check.ELEMENT);
        Check.refused("letter(1, -1)", () -> x.letter(1, -1), Check.ELEMENT);
        Check.refused("letter(3, 0)", () -> x.letter(3, 0), Check.ELEMENT);
        Check.refused("letter(-1, 0)", () -> x.letter(-1, 0), Check.ELEMENT);
        PetitionDesk y = Check.deskOf("voter azmyz 1 1;");
        String name = "azmyz";
        for (int i = 0; i < 5; i++) {
            int at = i;
            Check.due("letter " + i, () -> y.letter(0, at), name.charAt(i));
        }
        Check.refused("letter 5", () -> y.letter(0, 5), Check.ELEMENT);
        Check.refused("letter 6", () -> y.letter(0, 6), Check.ELEMENT);
    }

    private static void sheets() {
        PetitionDesk x = Check.deskOf(SMALL);
        int[][] due = {{4, 0, 0, 2, 1, 0, 0, 0, 1}, {3, 1, 0, 0, 0, 2, 0, 1, 0}};
        for (int s = 0; s < 2; s++) {
            for (int w = 0; w < 9; w++) {
                int sheet = s;
                int what = w;
                Check.due("sheet(" + s + ", " + w + ")", () -> x.sheet(sheet, what), due[s][w]);
            }
        }
        Check.refused("sheet 2, what 9", () -> x.sheet(2, 9), Check.ELEMENT);
        Check.refused("sheet -1", () -> x.sheet(-1, 0), Check.ELEMENT);
        Check.refused("what 9", () -> x.sheet(0, 9), Check.ARGUMENT);
        Check.refused("what -1", () -> x.sheet(0, -1), Check.ARGUMENT);
        // More than SPOILT of a hundred: two of four are fifty.
        Check.due("as many as spoilt", () -> Check.deskOf(
                "voter a 1 0;sheet;sign a 1 1;sign b 1 1;sign b 1 1;sign a 1 1;spoilt 50;").told(8), 0);
        Check.due("more than spoilt", () -> Check.deskOf(
                "voter a 1 0;sheet;sign a 1 1;sign b 1 1;sign b 1 1;sign a 1 1;spoilt 49;").told(8), 1);
        Check.due("all of them, spoilt 100", () -> Check.deskOf("sheet;sign b 1 1;").told(8), 0);
        Check.due("all of them, spoilt 99", () -> Check.deskOf("sheet;sign b 1 1;spoilt 99;").told(8), 1);
        Check.due("no lines, spoilt 0", () -> Check.deskOf("sheet;spoilt 0;").told(8), 0);
        Check.due("a double is no wrong", () -> Check.deskOf(
                "voter a 1 0;sheet;sign a 1 1;sign a 1 1;spoilt 0;").told(8), 0);
        Check.due("the wrongs of a rule", () -> Check.deskOf(
                "voter a 1 0;sheet;sheet;sign a 1 1;sign a 1 1;sheet;spoilt 49;good ahead=0;").told(8), 2);
    }

    private static void lines() {
        PetitionDesk x = Check.deskOf(SMALL);
        x.sample(0, 1, 1);
        x.sample(1, 2, 0);
        int[][] due = {
            {0, 0, 5, 20, 0, 0, 0, 1}, {0, 1, 7, 20, 1, 0, 0, 0}, {0, 2, 5, 30, 0, 5, 0, 0}, {0, 3, 1, 20, -1, 1, 0, 0},
            {1, 0, 9, 400, 2, 2, 0, 0}, {1, 1, 9, 600, 2, 4, 1, 0}, {1, 2, 7, 700, 1, 2, 0, 1}};
        for (int[] row : due) {
            for (int w = 0; w < 6; w++) {
                int what = w;
                Check.due("line(" + row[0] + ", " + row[1] + ", " + w + ")", () -> x.line(row[0], row[1], what), row[2 + w]);
            }
        }
        Check.refused("no sheet, no what", () -> x.line(2, 0, 6), Check.ELEMENT);
        Check.refused("no line", () -> x.line(1, 3, 0), Check.ELEMENT);
        Check.refused("line -1", () -> x.line(1, -1, 0), Check.ELEMENT);
        Check.refused("sheet -1", () -> x.line(-1, 0, 0), Check.ELEMENT);
        Check.refused("what 6", () -> x.line(1, 2, 6), Check.ARGUMENT);
        Check.refused("what -1", () -> x.line(1, 2, -1), Check.ARGUMENT);
    }

    private static void judgements() {
        PetitionDesk x = Check.deskOf(SMALL);
        int[] due = {2, 1, 2, 0, 1, 1};
        for (int j = 0; j < 6; j++) {
            int how = j;
            Check.due("judged(" + j + ")", () -> x.judged(how), due[j]);
        }
        Check.refused("judged(-1)", () -> x.judged(-1), Check.ARGUMENT);
        Check.refused("judged(6)", () -> x.judged(6), Check.ARGUMENT);
        Check.due("another street is nobody", () -> Check.deskOf("voter a 1 0;sheet;sign a 2 1;").judged(1), 1);
        Check.due("part of a name is nobody", () -> Check.deskOf("voter ab 1 0;sheet;sign a 1 1;sign abc 1 1;").judged(1), 2);
        Check.due("nobody ahead of late", () -> Check.deskOf("sheet;sign a 2 1;span 5 6;").judged(1), 1);
        String days = "voter a 1 4;sheet;sign a 1 3;sign a 1 4;sign a 1 5;sign a 1 6;sign a 1 7;";
        Check.due("since", () -> Check.deskOf(days).judged(2), 1);
        Check.due("span", () -> Check.deskOf(days + "span 5 6;").judged(2), 3);
        Check.due("late ahead of wrong", () -> Check.deskOf(days + "span 5 6;good 1=2;").judged(3), 2);
        PetitionDesk y = Check.deskOf("voter a 1 0;sheet;sign a 1 1;sheet;sign a 1 1;sign b 1 1;sign c 1 1;spoilt 60;");
        Check.due("wrongs of a struck sheet are what they are", () -> y.sheet(1, 4), 2);
        Check.due("struck ahead of double", () -> y.line(1, 0, 3), 4);
        y.strike(0, true);
        Check.due("a struck line makes no double", () -> Check.deskOf(
                "voter a 1 0;sheet;sign a 1 1;sign b 1 1;sheet;sign a 1 1;spoilt 0;").line(1, 0, 3), 0);
        Check.due("a late line makes no double", () -> Check.deskOf(
                "voter a 1 5;sheet;sign a 1 1;sign a 1 6;").line(0, 1, 3), 0);
        Check.due("a third is a double", () -> Check.deskOf(
                "voter a 1 5;sheet;sign a 1 6;sign a 1 6;sign a 1 6;").judged(5), 2);
    }

    private static void rule(String rule, int holds) {
        // Lines: 0 of sheet 1 (day 30, street 4, ahead 0), 0 of sheet 2 (day 20, ahead 1), 1 of sheet 2 (day 40, ahead 2).
        PetitionDesk x = Check.deskOf("voter a 4 25;voter b 4 10;sheet;sheet;sign b 4 30;sheet;sign b 4 20;sign b 4 40;good "
                + rule + ";");
        for (int i = 0; i < 3; i++) {
            int sheet = i == 0 ? 1 : 2;
            int line = i == 2 ? 1 : 0;
            int bit = holds >> i & 1;
            Check.due("rule \"" + rule + "\" of line " + i, () -> x.line(sheet, line, 3) == 3 ? 0 : 1, bit);
        }
    }

    private static void rules() {
        rule("1=1", 7);
        rule("1=2", 0);
        rule("day=30", 1);
        rule("day>25", 5);
        rule("day<25", 2);
        rule("25<day", 5);
        rule("street=4", 7);
        rule("line=1", 4);
        rule("sheet=1", 1);
        rule("sheet>1", 6);
        rule("since=10", 7);
        rule("since<day", 7);
        rule("ahead=0", 1);
        rule("ahead>1", 4);
        rule("line<ahead", 6);
        rule("not day=30", 6);
        rule("not not day=30", 1);
        rule("day=30 or day=20", 3);
        rule("day=30 and day=20", 0);
        rule("day=30 or day=20 and 1=2", 1);
        rule("(day=30 or day=20)and 1=2", 0);
        rule("1=2 and 1=1 or 1=1", 7);
        rule("1=2 and(1=1 or 1=1)", 0);
        rule("not day=30 and day=20", 2);
        rule("not(day=30 and day=20)", 7);
        rule("not 1=1 or 1=1", 7);
        rule("not(1=1 or 1=1)", 0);
        rule("day=30 or(day=20 and(line=0 and(sheet=2 or(1=2))))", 3);
        // "ahead" counts lines ahead whatever they are, of this voter alone.
        PetitionDesk x = Check.deskOf(
                "voter a 1 5;voter b 1 0;sheet;sign a 1 1;sign b 1 1;sheet;sign a 1 6;good ahead=1;");
        Check.due("a late one ahead", () -> x.line(1, 0, 3), 0);
        Check.due("none ahead", () -> x.line(0, 1, 3), 3);
    }

    private static void passing() {
        String lines = "voter a 1 0;voter b 1 0;sheet;sign a 1 1;sign b 1 1;sign b 1 1;";
        Check.due("need 1 without", () -> Check.deskOf(lines).passes(), 1);
        Check.due("as many", () -> Check.deskOf(lines + "need 2;").passes(), 1);
        Check.due("fewer", () -> Check.deskOf(lines + "need 3;").passes(), 0);
        Check.due("none needed", () -> Check.deskOf("need 0;").passes(), 1);
    }

    private static void drawings() {
        PetitionDesk x = Check.deskOf(SMALL);
        Check.refused("drawn(-1, 0)", () -> x.drawn(-1, 0), Check.ARGUMENT);
        Check.refused("drawn(2, 0)", () -> x.drawn(2, 0), Check.ARGUMENT);
        Check.refused("drawn(0, -1)", () -> x.drawn(0, -1), Check.ARGUMENT);
        Check.refused("drawn(0, 6)", () -> x.drawn(0, 6), Check.ARGUMENT);
        int[] empty = {0, 0, 0, -1, -1, -1};
        for (int w = 0; w < 6; w++) {
            int what = w;
            Check.due("empty drawn(1, " + w + ")", () -> x.drawn(1, what), empty[w]);
        }
        // Ten lines of one voter, four drawn, all good. LOW: C(K, 4) * 1000 > 50 * 210, K = 6 gives 15000.
        String ten = "voter a 1 0;sheet;" + "sign a 1 1;".repeat(10);
        PetitionDesk y = Check.deskOf(ten);
        y.sample(0, 4, 99);
        int[] due = {4, 4, 6, 6, 10, 1};
        for (int w = 0; w < 6; w++) {
            int what = w;
            Check.due("drawn(0, " + w + ")", () -> y.drawn(0, what), due[w]);
        }
        // C(7, 4) * 1000 = 35000 and 166 * 210 = 34860, 167 * 210 = 35070: more, not as many.
        PetitionDesk z = Check.deskOf(ten + "alpha 166;need 8;");
        z.sample(1, 4, 99);
        Check.due("low by alpha 166", () -> z.drawn(1, 3), 7);
        Check.due("count them all", () -> z.drawn(1, 5), 0);
        PetitionDesk w = Check.deskOf(ten + "alpha 167;need 8;");
        w.sample(1, 4, 99);
        Check.due("low by alpha 167", () -> w.drawn(1, 3), 8);
        Check.due("it passes", () -> w.drawn(1, 5), 1);
        // None good: HIGH: C(10 - K, 4) * 1000 > 10500, K = 4.
        PetitionDesk v = Check.deskOf(ten + "good 1=2;need 5;");
        v.sample(0, 4, 99);
        Check.due("high of none", () -> v.drawn(0, 4), 4);
        Check.due("low of none", () -> v.drawn(0, 3), 0);
        Check.due("it fails", () -> v.drawn(0, 5), 2);
        // Exactly alpha is not more: one of two lines, 1000 * 1 against 250 * 2 and 499 * 2.
        PetitionDesk u = Check.deskOf("voter a 1 0;sheet;sign a 1 1;sign a 1 1;sign a 1 1;sign a 1 1;alpha 250;");
        u.sample(0, 1, 1);
        Check.due("a low bound that is just not reached", () -> u.drawn(0, 3), 2);
        PetitionDesk t = Check.deskOf("sheet;sign a 1 1;sign a 1 1;sign a 1 1;sign a 1 1;alpha 250;");
        t.sample(0, 1, 1);
        Check.due("a high bound that is just not reached", () -> t.drawn(0, 4), 2);
    }

    private static void estimates() {
        PetitionDesk x = Check.deskOf("voter a 1 0;voter b 1 0;sheet;sign a 1 1;sign b 1 1;sign c 1 1;sign a 1 1;sign a 1 1;");
        Check.refused("empty, no what", () -> x.estimate(0, 2), Check.ARGUMENT);
        Check.refused("empty", () -> x.estimate(0, 0), Check.STATE);
        Check.refused("which 2", () -> x.estimate(2, 0), Check.ARGUMENT);
        Check.refused("which -1", () -> x.estimate(-1, 0), Check.ARGUMENT);
        Check.refused("what -1", () -> x.estimate(1, -1), Check.ARGUMENT);
        x.sample(0, 1, 1);
        Check.refused("one line", () -> x.estimate(0, 1), Check.STATE);
        x.sample(0, 5, 1);
        // 5 * 4 / 5 less 5 * 4 * 3 / (5 * 4) = 1.
        Check.due("above", () -> x.estimate(0, 0), 1);
        Check.due("below", () -> x.estimate(0, 1), 1);
        // All lines of one voter, two of ten drawn: 10 * 2 / 2 less 10 * 9 * 1 / 2 = -35; three: 10 less 10 * 9 * 3 / 6.
        PetitionDesk y = Check.deskOf("voter a 1 0;sheet;" + "sign a 1 1;".repeat(10));
        y.sample(1, 2, 5);
        Check.due("below 0", () -> y.estimate(1, 0), -35);
        Check.due("its number below", () -> y.estimate(1, 1), 1);
        // None good: 0 of 1.
        PetitionDesk z = Check.deskOf("sheet;" + "sign a 1 1;".repeat(10));
        z.sample(1, 3, 5);
        Check.due("nothing", () -> z.estimate(1, 0), 0);
        Check.due("by one", () -> z.estimate(1, 1), 1);
        // Unlike voters, 3 of 4 drawn: at n = 3 g = 3: 4. With one nobody in it: 4 * 2 / 3 = 8 / 3.
        PetitionDesk w = Check.deskOf("voter a 1 0;voter b 1 0;voter c 1 0;sheet;sign a 1 1;sign b 1 1;sign c 1 1;sign d 1 1;");
        for (int seed = 0; seed < 8; seed++) {
            w.sample(0, 3, seed);
            boolean all = w.line(0, 3, 4) == 0;
            Check.due("above by seed " + seed, () -> w.estimate(0, 0), all ? 4 : 8);
            Check.due("below by seed " + seed, () -> w.estimate(0, 1), all ? 1 : 3);
        }
    }

    private static void unlikes() {
        PetitionDesk x = Check.deskOf("voter a 1 0;voter b 1 0;voter c 1 0;sheet;"
                + "sign a 1 1;sign b 1 1;sign c 1 1;sign a 1 1;sign z 1 1;");
        Check.refused("what 2", () -> x.unlike(2), Check.ARGUMENT);
        Check.refused("what -1", () -> x.unlike(-1), Check.ARGUMENT);
        Check.due("empty", () -> x.unlike(0), NONE);
        Check.due("empty", () -> x.unlike(1), NONE);
        x.sample(0, 5, 1);
        Check.due("one of them is empty", () -> x.unlike(1), NONE);
        x.sample(1, 5, 2);
        Check.due("all in both", () -> x.unlike(0), 3);
        Check.due("by one", () -> x.unlike(1), 1);
        boolean[] seen = new boolean[2];
        for (int seed = 0; seed < 20; seed++) {
            x.sample(1, 1, seed);
            boolean nobody = x.line(0, 4, 5) == 1;
            seen[nobody ? 1 : 0] = true;
            Check.due("three times one by one", () -> x.unlike(0), nobody ? NONE : 3);
            Check.due("one by one", () -> x.unlike(1), nobody ? NONE : 1);
        }
        Check.look("both kinds of samples", "" + (seen[0] && seen[1]), "true");
        x.sample(1, 5, 2);
        x.strike(0, true);
        Check.due("none is good", () -> x.unlike(0), NONE);
    }

    private static void unseens() {
        PetitionDesk x = Check.deskOf(SMALL);
        Check.refused("n -1", () -> x.unseen(-1, 0), Check.ARGUMENT);
        Check.refused("n 8", () -> x.unseen(8, 0), Check.ARGUMENT);
        Check.refused("what 2", () -> x.unseen(1, 2), Check.ARGUMENT);
        Check.refused("what -1", () -> x.unseen(1, -1), Check.ARGUMENT);
        long[][] due = {{1, 1}, {1, 1}, {20, 21}, {6, 7}, {5, 7}, {11, 21}, {2, 7}, {0, 1}};
        for (int n = 0; n < 8; n++) {
            int of = n;
            Check.due("unseen(" + n + ", 0)", () -> x.unseen(of, 0), due[n][0]);
            Check.due("unseen(" + n + ", 1)", () -> x.unseen(of, 1), due[n][1]);
        }
        // Forty lines, twenty of one voter, twenty of nobody: C(20, 20) + 20 * C(20, 19) = 401 of C(40, 20).
        PetitionDesk y = Check.deskOf("voter a 1 0;sheet;" + "sign a 1 1;sign b 1 1;".repeat(20));
        Check.due("above", () -> y.unseen(20, 0), 401);
        Check.due("below", () -> y.unseen(20, 1), 137846528820L);
        Check.due("all of forty", () -> y.unseen(40, 0), 0);
        PetitionDesk z = Check.deskOf("sheet;" + "sign a 1 1;".repeat(40));
        Check.due("all of forty, nobody's", () -> z.unseen(40, 0), 1);
    }

    private static void fewests() {
        String ten = "voter a 1 0;sheet;" + "sign a 1 1;".repeat(10);
        // NEED or more can be known as soon as 1000 * C(NEED less 1, n) is no more than ALPHA * C(10, n).
        Check.due("need 1", () -> Check.deskOf(ten).fewest(), 1);
        Check.due("need 0", () -> Check.deskOf(ten + "need 0;").fewest(), 1);
        // C(5, 4) / C(10, 4) = 5 / 210 and C(5, 3) / C(10, 3) = 10 / 120.
        Check.due("need 6", () -> Check.deskOf(ten + "need 6;").fewest(), 4);
        Check.due("need 10", () -> Check.deskOf(ten + "need 10;").fewest(), 10);
        Check.due("need 11", () -> Check.deskOf(ten + "need 11;").fewest(), NONE);
        // 9 / 10 is above any alpha, 9 * 8 / 90 = 8 / 10 ..., 4 / 10 is the first below 499.
        Check.due("need 10, alpha 499", () -> Check.deskOf(ten + "need 10;alpha 499;").fewest(), 6);
        Check.due("whatever they are", () -> Check.deskOf(ten + "need 6;good 1=2;").fewest(), 4);
        Check.due("no lines", () -> Check.deskOf("need 0;").fewest(), NONE);
    }

    private static void worsts() {
        // Sheet 0: a, b. Sheet 1: a, c. Sheet 2: b, c, d. Sheet 3: none.
        String four = "voter a 1 0;voter b 1 0;voter c 1 0;voter d 1 0;sheet;sign a 1 1;sign b 1 1;"
                + "sheet;sign a 1 1;sign c 1 1;sheet;sign b 1 1;sign c 1 1;sign d 1 1;sheet;";
        PetitionDesk x = Check.deskOf(four);
        Check.refused("k 0", () -> x.worst(0, 0), Check.ARGUMENT);
        Check.refused("k 9", () -> x.worst(9, 0), Check.ARGUMENT);
        Check.refused("what 2", () -> x.worst(1, 2), Check.ARGUMENT);
        Check.refused("what -1", () -> x.worst(1, -1), Check.ARGUMENT);
        int[][] due = {{4, 3}, {5, 2}, {7, 0}, {15, 0}, {-1, -1}, {-1, -1}, {-1, -1}, {-1, -1}};
        for (int k = 1; k <= 8; k++) {
            int of = k;
            Check.due("worst(" + k + ", 0)", () -> x.worst(of, 0), due[k - 1][0]);
            Check.due("worst(" + k + ", 1)", () -> x.worst(of, 1), due[k - 1][1]);
        }
        Check.due("nothing stays changed", () -> x.told(8), 0);
        Check.due("no act", () -> x.told(10), 1);
        x.strike(2, true);
        Check.due("a struck one is not of them", () -> x.worst(1, 0), 1);
        Check.due("true ones then", () -> x.worst(1, 1), 2);
        Check.due("three are left", () -> x.worst(3, 0), 11);
        Check.due("four are not", () -> x.worst(4, 1), NONE);
    }

    private static void costs() {
        PetitionDesk x = Check.deskOf(SMALL);
        Check.due("cost(0)", () -> x.cost(0), 0);
        Check.due("the greatest", () -> x.cost(306783378), 2147483646);
        Check.refused("above it", () -> x.cost(306783379), Check.ARGUMENT);
        Check.refused("a product that would wrap", () -> x.cost(Integer.MAX_VALUE), Check.ARGUMENT);
        Check.refused("below 0", () -> x.cost(-1), Check.ARGUMENT);
        Check.refused("least", () -> x.cost(Integer.MIN_VALUE), Check.ARGUMENT);
        PetitionDesk y = new PetitionDesk();
        Check.due("no lines", () -> y.cost(Integer.MAX_VALUE), 0);
        Check.refused("no lines, below 0", () -> y.cost(-1), Check.ARGUMENT);
        PetitionDesk z = Check.deskOf("sheet;sign a 1 1;");
        Check.due("one line", () -> z.cost(Integer.MAX_VALUE), Integer.MAX_VALUE);
    }

    private static void prints() {
        Check.due("one line", () -> Check.deskOf("sheet;sign a 7 1;").print(), 7 * 31 + 1);
        Check.due("two lines", () -> Check.deskOf("voter b 3 0;sheet;sign a 7 1;sign b 3 1;").print(),
                ((7 * 31 + 1) * 31 + 3) * 31);
        PetitionDesk x = Check.deskOf("voter a 99 0;sheet;" + "sign a 99 1;".repeat(40));
        long sum = 0;
        for (int i = 0; i < 40; i++) {
            sum = (sum * 31 + 99) * 31 + (i == 0 ? 0 : 5);
        }
        long want = sum;
        Check.due("forty lines, wrapping", () -> x.print(), want);
    }

    private static void statuses() {
        PetitionDesk x = new PetitionDesk();
        Check.due("none yet", () -> x.status(0) + x.status(1) + x.status(2), 0);
        Check.outcome(() -> x.letter(0, 0));
        Check.outcome(() -> x.told(99));
        Check.outcome(() -> x.told(-99));
        Check.outcome(() -> x.estimate(0, 0));
        Check.outcome(() -> x.estimate(0, 1));
        Check.outcome(() -> x.estimate(1, 1));
        Check.due("elements", () -> x.status(0), 1);
        Check.due("arguments", () -> x.status(1), 2);
        Check.due("states", () -> x.status(2), 3);
        Check.due("status(3)", () -> x.status(3), NONE);
        Check.due("status(-1)", () -> x.status(-1), NONE);
        Check.tell(x, "x");
        Check.due("a fault is not refused", () -> x.status(1), 2);
        x.undo();
        Check.tell(x, "sheet;");
        x.undo();
        Check.due("not taken back", () -> x.status(2), 3);
        Check.due("not taken back", () -> x.status(0), 1);
    }
}
