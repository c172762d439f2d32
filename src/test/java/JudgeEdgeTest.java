/** How lines are judged and sheets struck; each sentence of the document with a test of its own. */
public final class JudgeEdgeTest {
    private static final int NONE = PetitionDesk.NONE;

    public static void main(String[] args) {
        votersOfLines();
        nobody();
        late();
        lateBySince();
        wrong();
        numbersOfLinesAndSheets();
        sinceIsTheVoters();
        ahead();
        struck();
        doubles();
        trueOnes();
        struckByHand();
        struckByWrongs();
        Check.end("JudgeEdgeTest");
    }

    private static void hows(PetitionDesk x, int sheet, int... due) {
        for (int l = 0; l < due.length; l++) {
            int line = l;
            Check.due("line " + l + " of sheet " + sheet, () -> x.line(sheet, line, 3), due[l]);
        }
    }

    private static void votersOfLines() {
        Check.sentence("VOTER of a LINE: the one with its NAME and STREET; none");
        PetitionDesk x = Check.deskOf("voter a 1 0;voter a 2 0;voter b 1 0;sheet;"
                + "sign b 1 1;sign a 2 1;sign a 1 1;sign b 2 1;sign c 1 1;sign a 11 1;");
        int[] due = {2, 1, 0, NONE, NONE, NONE};
        for (int l = 0; l < due.length; l++) {
            int line = l;
            Check.due("voter of line " + l, () -> x.line(0, line, 2), due[l]);
        }
        PetitionDesk y = Check.deskOf(Check.voters(16) + "sheet;sign a 15 1;");
        Check.due("the sixteenth voter", () -> y.line(0, 0, 2), 15);
        Check.due("it is true", () -> y.judged(0), 1);
        Check.due("nobody is on the roll", () -> Check.deskOf("sheet;sign a 1 1;").line(0, 0, 2), NONE);
    }

    private static void nobody() {
        Check.sentence("1 NOBODY: it has no VOTER");
        hows(Check.deskOf("sheet;sign a 1 1;"), 0, 1);
        // Whatever else would be wrong with it.
        hows(Check.deskOf("voter b 1 0;sheet;sign a 1 1;sign a 1 1;span 5 6;spoilt 0;good 1=2;"), 0, 1, 1);
        PetitionDesk x = Check.deskOf("sheet;sign a 1 1;");
        x.strike(0, true);
        hows(x, 0, 1);
    }

    private static void late() {
        Check.sentence("else 2 LATE: its DAY is out of SPAN");
        String lines = "voter a 1 0;sheet;sign a 1 4;sign a 1 5;sign a 1 6;sign a 1 7;sign a 1 8;";
        hows(Check.deskOf(lines + "span 5 7;"), 0, 2, 0, 5, 5, 2);
        hows(Check.deskOf(lines + "span 6 6;"), 0, 2, 2, 0, 2, 2);
        hows(Check.deskOf("voter a 1 0;sheet;sign a 1 0;sign a 1 999;"), 0, 0, 5);
        // Ahead of wrong and of struck.
        PetitionDesk x = Check.deskOf(lines + "span 5 7;good 1=2;");
        hows(x, 0, 2, 3, 3, 3, 2);
        x.strike(0, true);
        hows(x, 0, 2, 3, 3, 3, 2);
    }

    private static void lateBySince() {
        Check.sentence("or the VOTER's SINCE is later");
        hows(Check.deskOf("voter a 1 5;sheet;sign a 1 4;sign a 1 5;sign a 1 6;"), 0, 2, 0, 5);
        hows(Check.deskOf("voter a 1 999;sheet;sign a 1 998;sign a 1 999;"), 0, 2, 0);
        hows(Check.deskOf("voter a 1 5;voter b 1 0;sheet;sign b 1 4;sign a 1 4;"), 0, 0, 2);
    }

    private static void wrong() {
        Check.sentence("else 3 WRONG: \"good\" is told and does not hold");
        hows(Check.deskOf("voter a 1 0;sheet;sign a 1 1;"), 0, 0);
        hows(Check.deskOf("voter a 1 0;sheet;sign a 1 1;sign a 1 2;good day=2;"), 0, 3, 0);
        hows(Check.deskOf("good street=2;voter a 1 0;voter a 2 0;sheet;sign a 1 1;sign a 2 1;"), 0, 3, 0);
        PetitionDesk x = Check.deskOf("voter a 1 0;sheet;sign a 1 1;good 1=2;");
        x.strike(0, true);
        hows(x, 0, 3);
        Check.tell(x, "voter a 1 0;sheet;sign a 1 1;");
        Check.due("not told in a later text", () -> x.line(0, 0, 3), 0);
        // Lines that come by sign() are judged by it, too.
        PetitionDesk y = Check.deskOf("voter a 1 0;sheet;good day=2;");
        y.sign(0, 0, 1);
        y.sign(0, 0, 2);
        hows(y, 0, 3, 0);
    }

    private static void numbersOfLinesAndSheets() {
        Check.sentence("line, sheet: its numbers");
        String sheets = "voter a 1 0;sheet;sign a 1 1;sign a 1 1;sheet;sign a 1 1;sign a 1 1;";
        PetitionDesk x = Check.deskOf(sheets + "good line=0;");
        hows(x, 0, 0, 3);
        hows(x, 1, 5, 3);
        PetitionDesk y = Check.deskOf(sheets + "good sheet=1;");
        hows(y, 0, 3, 3);
        hows(y, 1, 0, 5);
        PetitionDesk z = Check.deskOf("voter a 1 0;" + "sheet;".repeat(8) + "sign a 1 1;".repeat(39) + "sign a 1 2;good line=39 and sheet=7;");
        Check.due("the greatest numbers", () -> z.line(7, 39, 3), 0);
        Check.due("all others are wrong", () -> z.judged(3), 39);
        // Behind an erased line the numbers are others.
        PetitionDesk w = Check.deskOf("voter a 1 0;sheet;sign a 1 1;sign a 1 2;good line=0;");
        w.erase(0, 0);
        hows(w, 0, 0);
    }

    private static void sinceIsTheVoters() {
        Check.sentence("since: its VOTER's");
        hows(Check.deskOf("voter a 1 5;voter b 1 6;sheet;sign a 1 9;sign b 1 9;sign a 1 9;good since=6;"), 0, 3, 0, 3);
        hows(Check.deskOf("voter a 1 0;voter b 1 999;sheet;sign a 1 999;sign b 1 999;good since=999;"), 0, 3, 0);
    }

    private static void ahead() {
        Check.sentence("ahead: how many LINES ahead of it have its VOTER, whatever they are");
        // Late, wrong and good ones of voter a; those of voter b and of nobody do not count.
        PetitionDesk x = Check.deskOf("voter a 1 5;voter b 1 0;sheet;sign a 1 1;sign b 1 9;sign c 1 9;sign a 1 9;"
                + "sheet;sign a 1 9;sign a 1 9;good ahead=2 or ahead=3;");
        hows(x, 0, 2, 3, 1, 3);
        hows(x, 1, 0, 5);
        x.strike(0, true);
        hows(x, 1, 0, 5);
        PetitionDesk y = Check.deskOf("voter a 1 0;sheet;sign a 1 1;good ahead=0;");
        hows(y, 0, 0);
        PetitionDesk z = Check.deskOf("voter a 1 0;sheet;" + "sign a 1 1;".repeat(40) + "good ahead=39;");
        Check.due("39 ahead", () -> z.line(0, 39, 3), 0);
        Check.due("fewer ahead", () -> z.judged(3), 39);
        // Struck lines count as well.
        PetitionDesk w = Check.deskOf("voter a 1 0;sheet;sign a 1 1;sheet;sign a 1 1;good ahead<1;");
        w.strike(0, true);
        hows(w, 0, 4);
        hows(w, 1, 3);
    }

    private static void struck() {
        Check.sentence("else 4 STRUCK: its SHEET is");
        PetitionDesk x = Check.deskOf("voter a 1 5;sheet;sign a 1 9;sign a 1 9;sign b 1 9;sign a 1 1;sheet;sign a 1 9;");
        x.strike(0, true);
        hows(x, 0, 4, 4, 1, 2);
        hows(x, 1, 0);
        PetitionDesk y = Check.deskOf("voter a 1 0;sheet;sign a 1 1;sign b 1 1;sign a 1 1;spoilt 33;");
        hows(y, 0, 4, 1, 4);
        PetitionDesk z = Check.deskOf("voter a 1 0;" + "sheet;".repeat(8) + "sign a 1 1;");
        z.strike(7, true);
        hows(z, 7, 4);
    }

    private static void doubles() {
        Check.sentence("else 5 DOUBLE: a LINE ahead of it that is none of 1 to 4 has its VOTER");
        hows(Check.deskOf("voter a 1 0;sheet;sign a 1 1;sign a 1 1;sign a 1 1;"), 0, 0, 5, 5);
        // Ahead: nobody, late, wrong, struck: none of these makes a double.
        hows(Check.deskOf("voter a 1 0;sheet;sign a 2 1;sign a 1 1;"), 0, 1, 0);
        hows(Check.deskOf("voter a 1 5;sheet;sign a 1 1;sign a 1 9;"), 0, 2, 0);
        hows(Check.deskOf("voter a 1 0;sheet;sign a 1 1;sign a 1 2;good day=2;"), 0, 3, 0);
        PetitionDesk x = Check.deskOf("voter a 1 0;sheet;sign a 1 1;sheet;sign a 1 1;sheet;sign a 1 1;");
        x.strike(0, true);
        hows(x, 0, 4);
        hows(x, 1, 0);
        hows(x, 2, 5);
        // A line behind it makes none, and so does another voter's.
        hows(Check.deskOf("voter a 1 0;voter b 1 0;sheet;sign a 1 1;sign b 1 1;sign a 1 1;"), 0, 0, 0, 5);
        hows(Check.deskOf("voter a 1 0;voter a 2 0;sheet;sign a 1 1;sign a 2 1;"), 0, 0, 0);
    }

    private static void trueOnes() {
        Check.sentence("else 0 TRUE");
        hows(Check.deskOf("voter a 0 0;sheet;sign a 0 0;"), 0, 0);
        PetitionDesk x = Check.deskOf(Check.voters(16) + "sheet;sign a 0 1;sign a 15 1;");
        hows(x, 0, 0, 0);
    }

    private static void struckByHand() {
        Check.sentence("A SHEET is STRUCK, if it is by hand");
        PetitionDesk x = Check.deskOf("voter a 1 0;sheet;sheet;sign a 1 1;");
        x.strike(0, true);
        Check.due("one without lines", () -> x.told(8), 1);
        x.strike(1, true);
        Check.due("one with good lines", () -> x.told(8), 3);
        x.strike(0, false);
        Check.due("no more", () -> x.told(8), 2);
        x.erase(1, 0);
        Check.due("by hand, its lines gone", () -> x.told(8), 2);
        x.sign(1, 0, 1);
        Check.due("a line more", () -> x.line(1, 0, 3), 4);
    }

    private static void struckByWrongs() {
        Check.sentence("or if it has LINES, and of these more than SPOILT of a hundred are 1 to 3");
        Check.due("no lines", () -> Check.deskOf("sheet;spoilt 0;").told(8), 0);
        Check.due("no wrong one", () -> Check.deskOf("voter a 1 0;sheet;sign a 1 1;spoilt 0;").told(8), 0);
        String third = "voter a 1 0;sheet;sign a 1 1;sign a 1 1;sign b 1 1;";
        Check.due("a third, 33", () -> Check.deskOf(third + "spoilt 33;").told(8), 1);
        Check.due("a third, 34", () -> Check.deskOf(third + "spoilt 34;").told(8), 0);
        String half = "voter a 1 0;sheet;sign a 1 1;sign b 1 1;";
        Check.due("a half, 49", () -> Check.deskOf(half + "spoilt 49;").told(8), 1);
        Check.due("a half, 50: not more", () -> Check.deskOf(half + "spoilt 50;").told(8), 0);
        String all = "sheet;sign b 1 1;";
        Check.due("all, 99", () -> Check.deskOf(all + "spoilt 99;").told(8), 1);
        Check.due("all, 100: not more", () -> Check.deskOf(all + "spoilt 100;").told(8), 0);
        String fortieth = "voter a 1 0;sheet;" + "sign a 1 1;".repeat(39) + "sign b 1 1;";
        Check.due("one of forty, 2", () -> Check.deskOf(fortieth + "spoilt 2;").told(8), 1);
        Check.due("one of forty, 3", () -> Check.deskOf(fortieth + "spoilt 3;").told(8), 0);
        // Each of 1, 2, 3 counts; a double does not.
        String kinds = "voter a 1 5;sheet;sign b 1 9;sheet;sign a 1 1;sheet;sign a 1 8;sheet;sign a 1 9;sign a 1 9;";
        Check.due("nobody, late, wrong, doubles", () -> Check.deskOf(kinds + "spoilt 0;good day>8;").told(8), 7);
        // Its own lines alone, and only as long as they are there.
        PetitionDesk x = Check.deskOf("voter a 1 0;sheet;sign b 1 1;sheet;sign a 1 1;spoilt 0;");
        Check.due("the other sheet is not", () -> x.told(8), 1);
        x.erase(0, 0);
        Check.due("no lines any more", () -> x.told(8), 0);
        PetitionDesk y = Check.deskOf("voter a 1 5;sheet;sign a 1 9;spoilt 50;");
        y.sign(0, 0, 1);
        Check.due("a half", () -> y.told(8), 0);
        y.sign(0, 0, 1);
        Check.due("two of three", () -> y.told(8), 1);
    }
}
