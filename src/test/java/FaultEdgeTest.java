/** The faults, which of several, and where; each sentence of the document with a test of its own. */
public final class FaultEdgeTest {
    public static void main(String[] args) {
        leastByte();
        firstInTheList();
        whatCannotStand();
        endsTooEarly();
        secondOfOnce();
        signAheadOfSheets();
        numberNoneSuch();
        voterThereAlready();
        tooMany();
        tooDeep();
        notTillItsPartEnds();
        Check.end("FaultEdgeTest");
    }

    private static void leastByte() {
        Check.sentence("of several the one whose first byte is least");
        Check.fault("need 41;x;", 2, 5);
        Check.fault("x;need 41;", 1, 0);
        Check.fault("need 41;alpha 500;", 2, 5);
        Check.fault("span 1000 x;", 2, 5);
        Check.fault("sheet;".repeat(8) + "sheet x;", 4, 48);
        Check.fault("good not not not not not x", 5, 21);
        Check.fault("good x not not not not not 1=1;", 1, 5);
        // A voter that is there already is wrong from its name on, whatever is wrong behind it.
        Check.fault("voter a 1 1;voter a 1 1000;", 3, 18);
        Check.fault("voter a 1 1;voter a 1 x;", 3, 18);
        Check.fault("voter a 1 1;voter a 1;", 3, 18);
        Check.fault("voter a 1 1;voter a 1", 3, 18);
        Check.fault("voter a 1 1;voter a 1 1", 3, 18);
        Check.fault("voter a 1 1;voter a 1 1 x;", 3, 18);
        Check.fault("voter a 1 1;voter a 100 1;", 2, 20);
        Check.fault("voter a 1 1;voter a x", 1, 20);
        Check.fault(Check.voters(16) + "voter a 1 1;", 4, Check.voters(16).length());
    }

    private static void firstInTheList() {
        Check.sentence("of one byte the first in this list");
        // A number that can't stand there and would be none such anywhere.
        Check.fault("sheet 1000;", 1, 6);
        Check.fault("need 1 1000;", 1, 7);
        Check.fault("voter 1000 1 1;", 1, 6);
        // A word that can't stand there and would be one too many.
        Check.fault("sheet;".repeat(8) + "need sheet;", 1, 53);
        Check.fault(Check.voters(16) + "need voter;", 1, Check.voters(16).length() + 5);
        Check.fault("sheet;" + "sign a 1 1;".repeat(40) + "need sign;", 1, 451);
        // A "(" or a "not" that can't stand there and would be too deep.
        Check.fault("good ((((1=(1", 1, 11);
        Check.fault("good ((((1=not", 1, 11);
        Check.fault("good ((((1(", 1, 10);
        Check.fault("good ((((1=1(", 1, 12);
        Check.fault("good ((((1=1 not 1=1", 1, 13);
        Check.fault("good not not not not 1=1 not 1=1;", 1, 25);
    }

    private static void whatCannotStand() {
        Check.sentence("1 what can't stand there");
        Check.fault("x;", 1, 0);
        Check.fault("  x;", 1, 2);
        Check.fault("need x;", 1, 5);
        Check.fault("need   x;", 1, 7);
        Check.fault("need 1 x;", 1, 7);
        Check.fault("need ;", 1, 5);
        Check.fault("good 1=1 x;", 1, 9);
        Check.fault("good (1=1 x);", 1, 10);
        Check.fault("voter a 1 1)", 1, 11);
    }

    private static void endsTooEarly() {
        Check.sentence("at the length, if the text ends too early");
        String whole = "voter a 1 1;sheet;sign a 1 1;need 1;span 1 1;spoilt 1;alpha 1;good not(1=1)and 1<2 or day>1;";
        String ends = "voter a 1 1;|sheet;|sign a 1 1;|need 1;|span 1 1;|spoilt 1;|alpha 1;|good not(1=1)and 1<2 or day>1;";
        int at = 0;
        for (String part : ends.split("\\|")) {
            // Where the part is cut behind one of its tokens, a blank more or less is the length all the same.
            for (int cut = 1; cut < part.length(); cut++) {
                boolean inWord = Character.isLetter(part.charAt(cut - 1)) && Character.isLetter(part.charAt(cut));
                if (!inWord) {
                    Check.fault(whole.substring(0, at + cut), 1, at + cut);
                    Check.fault(whole.substring(0, at + cut) + "  ", 1, at + cut + 2);
                }
            }
            at += part.length();
        }
        Check.fine(whole, 1);
        Check.fine(whole + "  ", 1);
        PetitionDesk x = new PetitionDesk();
        Check.feed(x, Check.bytesOf(whole));
        Check.due("the length is what is told, not the tape's", () -> x.text(5), 1 - 10);
        Check.due("there it ends", () -> x.fault(), 5);
    }

    private static void secondOfOnce() {
        Check.sentence("a second one of once, by its word");
        Check.fault("need 1;  need 1;", 1, 9);
        Check.fault("need 1;need 41;", 1, 7);
        Check.fault("need 1;need", 1, 7);
        Check.fault("span 1 2;sheet; span 1 2;", 1, 16);
        Check.fault("spoilt 1;sheet; spoilt 1;", 1, 16);
        Check.fault("alpha 1;sheet; alpha 1;", 1, 15);
        Check.fault("good 1=1;sheet; good 1=1;", 1, 16);
        Check.fault("good 1=1;good not not not not not 1=1;", 1, 9);
    }

    private static void signAheadOfSheets() {
        Check.sentence("a \"sign\" ahead of each \"sheet\"");
        Check.fault("sign a 1 1;sheet;", 1, 0);
        Check.fault("voter a 1 1; sign a 1 1;sheet;", 1, 13);
        Check.fault("sign a 100 1;", 1, 0);
        Check.fault("sign", 1, 0);
        Check.fine("sheet;sign a 1 1;sheet;", 1);
        PetitionDesk x = Check.deskOf("sheet;");
        Check.due("a sheet of an earlier text is none", () -> Check.tell(x, "sign a 1 1;"), 1 - 10);
    }

    private static void numberNoneSuch() {
        Check.sentence("2 a number that is none such");
        Check.fault("voter a  100 1;", 2, 9);
        Check.fault("voter a 1  1000;", 2, 11);
        Check.fault("sheet;sign a  100 1;", 2, 14);
        Check.fault("sheet;sign a 1  1000;", 2, 16);
        Check.fault("need  41;", 2, 6);
        Check.fault("span  1000 1000;", 2, 6);
        Check.fault("span 1  1000;", 2, 8);
        Check.fault("span 1  0;", 2, 8);
        Check.fault("spoilt  101;", 2, 8);
        Check.fault("alpha  0;", 2, 7);
        Check.fault("alpha  500;", 2, 7);
        Check.fault("good  1000<1;", 2, 6);
        Check.fault("good 1<  1000;", 2, 9);
        Check.fault("voter a 0100 1;", 2, 8);
    }

    private static void voterThereAlready() {
        Check.sentence("3 a VOTER that is there already (by its NAME)");
        Check.fault("voter a 1 1;voter a 1 1;", 3, 18);
        Check.fault("voter a 1 1;voter   a 01 2;", 3, 20);
        Check.fault("voter a 1 1;voter b 1 1;voter b 1 1;", 3, 30);
        Check.fault("voter abcde 99 1;voter abcde 99 1;", 3, 23);
        Check.fine("voter abcde 99 1;voter abcd 99 1;voter bbcde 99 1;voter abcde 98 1;", 0);
        PetitionDesk x = Check.deskOf("voter a 1 1;");
        Check.due("a voter of an earlier text is no such one", () -> Check.tell(x, "voter a 1 1;"), 0);
        String fifteen = Check.voters(15);
        Check.fault(fifteen + "voter a 14 1;", 3, fifteen.length() + 6);
        Check.fault(fifteen + "voter a 0 1;", 3, fifteen.length() + 6);
    }

    private static void tooMany() {
        Check.sentence("4 a 17th \"voter\", a ninth \"sheet\", a 41st \"sign\" (by its word)");
        String voters = Check.voters(16);
        Check.fine(voters, 0);
        Check.fault(voters + "voter b 1 1;", 4, voters.length());
        Check.fault(voters + "  voter b 1 1;", 4, voters.length() + 2);
        Check.fault(voters + "voter", 4, voters.length());
        Check.fine("sheet;".repeat(8), 0);
        Check.fault("sheet;".repeat(9), 4, 48);
        Check.fault("sheet;".repeat(8) + "  sheet", 4, 50);
        String lines = "sheet;" + "sign a 1 1;".repeat(40);
        Check.fine(lines, 40);
        Check.fault(lines + "sign a 1 1;", 4, 446);
        Check.fault(lines + "  sign", 4, 448);
        Check.fault(lines + "sheet;sign a 100 1;", 4, 452);
    }

    private static void tooDeep() {
        Check.sentence("5 a \"(\" or a \"not\" within four others of both");
        Check.fine("good ((((1=1))));", 0);
        Check.fault("good (((((1=1)))));", 5, 9);
        Check.fine("good not not not not 1=1;", 0);
        Check.fault("good not not not not not 1=1;", 5, 21);
        Check.fault("good not not not not  (1=1);", 5, 22);
        Check.fault("good ((((  not 1=1))));", 5, 11);
        Check.fine("good not(not(1=1));", 0);
        Check.fault("good not(not(not 1=1));", 5, 13);
        Check.fault("good not(not((1=1)));", 5, 13);
        Check.fine("good ((((1=1))))and((((1=1))))or((((1=1))));", 0);
        Check.fault("good ((((1=1))))and(((((1=1)))));", 5, 23);
        Check.fault("good ((((1=1 and (1=1)))));", 5, 17);
        Check.fault("good ((((1=1 or not 1=1))));", 5, 16);
        Check.fault("good " + "(".repeat(595), 5, 9);
        Check.fault("good " + "not ".repeat(148), 5, 21);
    }

    private static void notTillItsPartEnds() {
        Check.sentence("(a \"not\" till its P ends)");
        Check.fine("good not 1=1 and((((1=1))));", 0);
        Check.fine("good not 1=1 or((((1=1))));", 0);
        Check.fine("good not not not not 1=1 and not not not not 1=1;", 0);
        Check.fine("good (not 1=1 and(((1=1))));", 0);
        Check.fine("good not(1=1)and((((1=1))));", 0);
        Check.fault("good not((((1=1))));", 5, 11);
        Check.fault("good (not 1=1 and((((1=1)))));", 5, 20);
        Check.fault("good not(1=1 and(((1=1 and(1=1)))));", 5, 18);
        Check.fault("good not(not 1=1 and(((1=1))));", 5, 22);
        Check.fine("good not(not 1=1 and((1=1)));", 0);
    }
}
