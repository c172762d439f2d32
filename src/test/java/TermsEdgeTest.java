/** The first of the document's Terms: how many, how long, from what to what; each sentence with a test of its own. */
public final class TermsEdgeTest {
    public static void main(String[] args) {
        fiveHundredAndTwelveCalls();
        sixteenVoters();
        lettersOfNames();
        streets();
        sinces();
        alikeInNameAndStreet();
        eightSheets();
        fortyLines();
        daysOfLines();
        linesInOrder();
        needs();
        spans();
        spoilts();
        alphas();
        Check.end("TermsEdgeTest");
    }

    private static void fiveHundredAndTwelveCalls() {
        Check.sentence("An object is used for at most 512 calls after it has been made");
        PetitionDesk x = Check.deskOf("voter a 1 0;sheet;" + "sign a 1 1;".repeat(39));
        // 23 calls of feed() and one of text(); then 162 times three calls.
        for (int i = 0; i < 162; i++) {
            Check.due("the fortieth line, round " + i, () -> x.sign(0, 0, 1), 39);
            Check.refused("a 41st, round " + i, () -> x.sign(0, 0, 1), Check.STATE);
            Check.due("taken back, round " + i, () -> x.undo(), 1);
        }
        Check.due("call 511", () -> x.told(2), 39);
        Check.due("call 512", () -> x.status(2), 162);
    }

    private static void sixteenVoters() {
        Check.sentence("VOTERS (16 at most, numbered from 0 on as told)");
        PetitionDesk x = Check.deskOf("voter zz 9 7;" + Check.voters(15));
        Check.due("sixteen", () -> x.told(0), 16);
        Check.due("the first is 0", () -> x.voter(0, 0), 9);
        Check.due("the second is 1", () -> x.voter(1, 0), 0);
        Check.due("the sixteenth is 15", () -> x.voter(15, 0), 14);
        Check.refused("there is no 16", () -> x.voter(16, 0), Check.ELEMENT);
        Check.due("a seventeenth", () -> Check.tell(x, Check.voters(17)), 4 - 10);
    }

    private static void lettersOfNames() {
        Check.sentence("a NAME (1 to 5 letters)");
        Check.fault("voter 1 1;", 1, 6);
        Check.fine("voter a 1 1;", 0);
        Check.fine("voter abcde 1 1;", 0);
        Check.fault("voter abcdef 1 1;", 1, 6);
        Check.fault("sheet;sign 1 1;", 1, 11);
        Check.fine("sheet;sign z 1 1;", 1);
        Check.fine("sheet;sign zzzzz 1 1;", 1);
        Check.fault("sheet;sign zzzzzz 1 1;", 1, 11);
        PetitionDesk x = Check.deskOf("voter abcde 1 0;sheet;sign abcdd 1 1;sign abcd 1 1;sign bbcde 1 1;sign abcde 1 1;");
        Check.due("all five letters tell voters apart", () -> x.judged(1), 3);
    }

    private static void streets() {
        Check.sentence("a STREET (0 to 99)");
        PetitionDesk x = Check.deskOf("voter a 0 0;voter a 99 0;sheet;sign a 0 0;sign a 99 0;");
        Check.due("a voter's least", () -> x.voter(0, 0), 0);
        Check.due("a voter's greatest", () -> x.voter(1, 0), 99);
        Check.due("a line's least", () -> x.line(0, 0, 0), 0);
        Check.due("a line's greatest", () -> x.line(0, 1, 0), 99);
        Check.fault("voter a 100 0;", 2, 8);
        Check.fault("sheet;sign a 100 0;", 2, 13);
    }

    private static void sinces() {
        Check.sentence("SINCE (a DAY, 0 to 999)");
        PetitionDesk x = Check.deskOf("voter a 1 0;voter b 1 999;");
        Check.due("the least", () -> x.voter(0, 1), 0);
        Check.due("the greatest", () -> x.voter(1, 1), 999);
        Check.fault("voter a 1 1000;", 2, 10);
    }

    private static void alikeInNameAndStreet() {
        Check.sentence("no two alike in NAME and STREET");
        Check.fine("voter a 1 5;voter a 2 5;voter b 1 5;voter aa 1 5;", 0);
        Check.fault("voter a 1 5;voter b 1 5;voter a 1 6;", 3, 30);
    }

    private static void eightSheets() {
        Check.sentence("SHEETS (8 at most, numbered likewise)");
        PetitionDesk x = Check.deskOf("sheet;".repeat(7) + "sheet;sign a 1 1;");
        Check.due("eight", () -> x.told(1), 8);
        Check.due("the first is 0", () -> x.sheet(0, 0), 0);
        Check.due("the eighth is 7", () -> x.sheet(7, 0), 1);
        Check.refused("there is no 8", () -> x.sheet(8, 0), Check.ELEMENT);
        Check.due("a ninth", () -> Check.tell(x, "sheet;".repeat(9)), 4 - 10);
    }

    private static void fortyLines() {
        Check.sentence("each of LINES (40 in all at most; numbered on each SHEET from 0 on)");
        Check.fine("sheet;" + "sign a 1 1;".repeat(40), 40);
        Check.fault("sheet;" + "sign a 1 1;".repeat(41), 4, 446);
        // In all: the 41st stands on a sheet of its own.
        Check.fault("sheet;" + "sign a 1 1;".repeat(20) + "sheet;" + "sign a 1 1;".repeat(20) + "sheet;sign a 1 1;", 4, 458);
        PetitionDesk x = Check.deskOf(("sheet;" + "sign a 1 1;".repeat(4) + "sign a 1 9;").repeat(8));
        Check.due("forty", () -> x.told(2), 40);
        for (int s = 0; s < 8; s++) {
            int sheet = s;
            Check.due("the first line of sheet " + s, () -> x.line(sheet, 0, 1), 1);
            Check.due("the last line of sheet " + s, () -> x.line(sheet, 4, 1), 9);
            Check.refused("no line 5 of sheet " + s, () -> x.line(sheet, 5, 1), Check.ELEMENT);
        }
    }

    private static void daysOfLines() {
        Check.sentence("a NAME, a STREET, a DAY (0 to 999)");
        PetitionDesk x = Check.deskOf("voter a 1 0;sheet;sign a 1 0;sign a 1 999;");
        Check.due("the least", () -> x.line(0, 0, 1), 0);
        Check.due("the greatest", () -> x.line(0, 1, 1), 999);
        Check.fault("sheet;sign a 1 1000;", 2, 15);
        Check.due("sign: the least", () -> x.sign(0, 0, 0), 2);
        Check.due("sign: the greatest", () -> x.sign(0, 0, 999), 3);
        Check.refused("sign: below", () -> x.sign(0, 0, -1), Check.ARGUMENT);
        Check.refused("sign: above", () -> x.sign(0, 0, 1000), Check.ARGUMENT);
    }

    private static void linesInOrder() {
        Check.sentence("LINES stand in order: SHEET by SHEET, LINE by LINE");
        PetitionDesk x = Check.deskOf("voter a 1 0;voter b 2 0;sheet;sheet;sign a 1 1;sheet;sign b 2 1;");
        x.sign(1, 1, 5);
        x.sign(0, 0, 6);
        Check.due("the line that came last stands first", () -> x.print(), Check.printOf(1, 0, 1, 5, 2, 0, 2, 5));
        Check.due("it is the true one", () -> x.line(0, 0, 3), 0);
        Check.due("the one told ahead of it is the double", () -> x.line(1, 0, 3), 5);
    }

    private static void needs() {
        Check.sentence("NEED: 0 to 40 (1 without)");
        Check.due("without", () -> Check.deskOf("sheet;").told(3), 1);
        Check.due("the least", () -> Check.deskOf("need 0;").told(3), 0);
        Check.due("the greatest", () -> Check.deskOf("need 40;").told(3), 40);
        Check.fault("need 41;", 2, 5);
        PetitionDesk x = Check.deskOf("need 9;");
        Check.due("told anew without", () -> Check.tell(x, "sheet;") + x.told(3), 1);
    }

    private static void spans() {
        Check.sentence("SPAN: a first and a last DAY (0 and 999 without)");
        Check.due("the first without", () -> Check.deskOf("sheet;").told(4), 0);
        Check.due("the last without", () -> Check.deskOf("sheet;").told(5), 999);
        PetitionDesk x = Check.deskOf("span 0 999;");
        Check.due("the first, least", () -> x.told(4), 0);
        Check.due("the last, greatest", () -> x.told(5), 999);
        Check.fault("span 1000 1000;", 2, 5);
        Check.fault("span 0 1000;", 2, 7);
        PetitionDesk y = Check.deskOf("span 7 8;");
        Check.due("told", () -> 1000 * y.told(4) + y.told(5), 7008);
        Check.due("told anew without", () -> Check.tell(y, "sheet;") + 1000 * y.told(4) + y.told(5), 999);
    }

    private static void spoilts() {
        Check.sentence("SPOILT: 0 to 100 (100 without)");
        Check.due("without", () -> Check.deskOf("sheet;").told(6), 100);
        Check.due("the least", () -> Check.deskOf("spoilt 0;").told(6), 0);
        Check.due("the greatest", () -> Check.deskOf("spoilt 100;").told(6), 100);
        Check.fault("spoilt 101;", 2, 7);
        PetitionDesk x = Check.deskOf("spoilt 9;");
        Check.due("told anew without", () -> Check.tell(x, "sheet;") + x.told(6), 100);
    }

    private static void alphas() {
        Check.sentence("ALPHA: 1 to 499 (50 without)");
        Check.due("without", () -> Check.deskOf("sheet;").told(7), 50);
        Check.fault("alpha 0;", 2, 6);
        Check.due("the least", () -> Check.deskOf("alpha 1;").told(7), 1);
        Check.due("the greatest", () -> Check.deskOf("alpha 499;").told(7), 499);
        Check.fault("alpha 500;", 2, 6);
        PetitionDesk x = Check.deskOf("alpha 9;");
        Check.due("told anew without", () -> Check.tell(x, "sheet;") + x.told(7), 50);
    }
}
