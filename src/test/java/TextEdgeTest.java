/** What a text may be and which faults it has; each sentence of the document with a test of its own. */
public final class TextEdgeTest {
    private static final int NONE = PetitionDesk.NONE;

    public static void main(String[] args) {
        sixHundredBytes();
        linesEnd();
        voterLines();
        sheetLines();
        signLines();
        needLines();
        spanLines();
        spoiltAndAlphaLines();
        onceEach();
        choices();
        chains();
        parts();
        operands();
        words();
        longWords();
        wordsAsNames();
        numbers();
        blanks();
        Check.end("TextEdgeTest");
    }

    private static void sixHundredBytes() {
        Check.sentence("A TEXT has up to 600 bytes");
        String full = "sheet;" + " ".repeat(587) + "need 7;";
        PetitionDesk x = new PetitionDesk();
        Check.due("600 bytes", () -> Check.tell(x, full), 0);
        Check.due("the last ones are read, too", () -> x.told(3), 7);
        PetitionDesk y = new PetitionDesk();
        Check.feed(y, Check.bytesOf(full));
        Check.due("599 of them", () -> y.text(599), 1 - 10);
        Check.due("the end is missing", () -> y.fault(), 599);
        Check.fault("sheet;" + " ".repeat(588) + "need 7", 1, 600);
        Check.fault(" ".repeat(599) + "x", 1, 599);
        Check.fault(";".repeat(600), 1, 0);
        Check.fine(" ".repeat(600), 0);
        Check.fault("good 1=1" + "or 1=1".repeat(98) + "and", 1, 599);
        Check.fine("good 1=1" + " or 1=1".repeat(84) + "   ;", 0);
    }

    private static void linesEnd() {
        Check.sentence("{ LINE \";\" }");
        Check.fine("", 0);
        Check.fine("   ", 0);
        Check.fine("sheet;", 0);
        Check.fault(";", 1, 0);
        Check.fault("sheet;;", 1, 6);
        Check.fault("sheet", 1, 5);
        Check.fault("sheet sheet;", 1, 6);
        Check.fault("sheet,", 1, 5);
        Check.fault("line;", 1, 0);
        Check.fault("or;", 1, 0);
        Check.fault("1;", 1, 0);
    }

    private static void voterLines() {
        Check.sentence("\"voter\" W N N");
        Check.fine("voter a 1 2;", 0);
        Check.fault("voter;", 1, 5);
        Check.fault("voter a;", 1, 7);
        Check.fault("voter a 1;", 1, 9);
        Check.fault("voter a 1 2 3;", 1, 12);
        Check.fault("voter a b 1;", 1, 8);
        Check.fault("voter a 1 b;", 1, 10);
        Check.fault("voter 5 1 2;", 1, 6);
        PetitionDesk x = Check.deskOf("voter ab 12 345;");
        Check.due("the street comes first", () -> x.voter(0, 0), 12);
        Check.due("since comes behind it", () -> x.voter(0, 1), 345);
    }

    private static void sheetLines() {
        Check.sentence("\"sheet\"");
        Check.fine("sheet;", 0);
        Check.fault("sheet 1;", 1, 6);
        Check.fault("sheet a;", 1, 6);
    }

    private static void signLines() {
        Check.sentence("\"sign\" W N N (on the latest SHEET)");
        PetitionDesk x = Check.deskOf("sheet;sign a 1 2;sheet;sheet;sign b 34 567;voter a 1 1;sign c 5 6;");
        Check.due("on the first", () -> x.sheet(0, 0), 1);
        Check.due("on the second", () -> x.sheet(1, 0), 0);
        Check.due("on the third", () -> x.sheet(2, 0), 2);
        Check.due("the street comes first", () -> x.line(2, 0, 0), 34);
        Check.due("the day behind it", () -> x.line(2, 0, 1), 567);
        Check.fault("sheet;sign;", 1, 10);
        Check.fault("sheet;sign a;", 1, 12);
        Check.fault("sheet;sign a 1;", 1, 14);
        Check.fault("sheet;sign a 1 2 3;", 1, 17);
        Check.fault("sheet;sign a b 2;", 1, 13);
        Check.fault("sheet;sign a 1 b;", 1, 15);
        Check.due("a voter may be told behind its lines", () -> x.line(0, 0, 2), 0);
    }

    private static void needLines() {
        Check.sentence("\"need\" N");
        Check.due("told", () -> Check.deskOf("need 23;").told(3), 23);
        Check.fault("need;", 1, 4);
        Check.fault("need a;", 1, 5);
        Check.fault("need 1 2;", 1, 7);
        Check.fault("need -1;", 1, 5);
    }

    private static void spanLines() {
        Check.sentence("\"span\" N N (the last no earlier)");
        PetitionDesk x = Check.deskOf("span 5 5;");
        Check.due("no earlier: the same", () -> 1000 * x.told(4) + x.told(5), 5005);
        PetitionDesk y = Check.deskOf("span 5 6;");
        Check.due("no earlier: later", () -> 1000 * y.told(4) + y.told(5), 5006);
        Check.fault("span 5 4;", 2, 7);
        Check.fault("span 10 9;", 2, 8);
        Check.fault("span 999 998;", 2, 9);
        Check.fine("span 999 999;", 0);
        Check.fine("span 0 0;", 0);
        Check.fault("span;", 1, 4);
        Check.fault("span 5;", 1, 6);
        Check.fault("span 5 6 7;", 1, 9);
    }

    private static void spoiltAndAlphaLines() {
        Check.sentence("\"spoilt\" N | \"alpha\" N");
        Check.due("spoilt", () -> Check.deskOf("spoilt 23;").told(6), 23);
        Check.fault("spoilt;", 1, 6);
        Check.fault("spoilt a;", 1, 7);
        Check.fault("spoilt 1 2;", 1, 9);
        Check.due("alpha", () -> Check.deskOf("alpha 23;").told(7), 23);
        Check.fault("alpha;", 1, 5);
        Check.fault("alpha a;", 1, 6);
        Check.fault("alpha 1 2;", 1, 8);
    }

    private static void onceEach() {
        Check.sentence("\"need\", \"span\", \"spoilt\", \"alpha\", \"good\" once each");
        Check.fine("need 1;span 1 1;spoilt 1;alpha 1;good 1=1;", 0);
        Check.fine("good 1=1;alpha 1;spoilt 1;span 1 1;need 1;", 0);
        Check.fault("need 1;span 1 1;spoilt 1;alpha 1;good 1=1;need 1;", 1, 42);
        Check.fault("need 1;span 1 1;spoilt 1;alpha 1;good 1=1;span 1 1;", 1, 42);
        Check.fault("need 1;span 1 1;spoilt 1;alpha 1;good 1=1;spoilt 1;", 1, 42);
        Check.fault("need 1;span 1 1;spoilt 1;alpha 1;good 1=1;alpha 1;", 1, 42);
        Check.fault("need 1;span 1 1;spoilt 1;alpha 1;good 1=1;good 1=1;", 1, 42);
        PetitionDesk x = Check.deskOf("need 5;");
        Check.due("once in each text", () -> Check.tell(x, "need 6;"), 0);
        Check.fine("voter a 1 1;voter b 1 1;sheet;sheet;sign a 1 1;sign b 1 1;", 2);
    }

    // One line that is true if the rule holds: day 30, street 4, line 0, sheet 0, since 20, ahead 0.
    private static void holds(String rule, boolean is) {
        PetitionDesk x = Check.deskOf("voter a 4 20;sheet;sign a 4 30;good " + rule + ";");
        Check.due("\"" + rule + "\"", () -> x.line(0, 0, 3), is ? 0 : 3);
    }

    private static void choices() {
        Check.sentence("C: D { \"or\" D }");
        String[] sides = {"1=2", "1=1"};
        for (int i = 0; i < 8; i++) {
            holds(sides[i & 1] + " or " + sides[i >> 1 & 1], (i & 3) != 0);
            holds(sides[i & 1] + " or " + sides[i >> 1 & 1] + " or " + sides[i >> 2], i != 0);
        }
        Check.fault("good or 1=1;", 1, 5);
        Check.fault("good 1=1 or;", 1, 11);
        Check.fault("good 1=1 or or 1=1;", 1, 12);
        Check.fault("good 1=1 1=1;", 1, 9);
        Check.fault("good;", 1, 4);
    }

    private static void chains() {
        Check.sentence("D: P { \"and\" P }");
        String[] sides = {"1=2", "1=1"};
        for (int i = 0; i < 8; i++) {
            boolean a = (i & 1) == 1;
            boolean b = (i & 2) == 2;
            boolean c = (i & 4) == 4;
            String[] p = {sides[i & 1], sides[i >> 1 & 1], sides[i >> 2]};
            holds(p[0] + " and " + p[1], a && b);
            holds(p[0] + " and " + p[1] + " and " + p[2], a && b && c);
            // "and" binds closer, whichever comes first.
            holds(p[0] + " and " + p[1] + " or " + p[2], a && b || c);
            holds(p[0] + " or " + p[1] + " and " + p[2], a || b && c);
        }
        Check.fault("good and 1=1;", 1, 5);
        Check.fault("good 1=1 and;", 1, 12);
        Check.fault("good 1=1 and or 1=1;", 1, 13);
        holds("1=1" + " and 1=1".repeat(60), true);
        holds("1=1" + " and 1=1".repeat(59) + " and 1=2", false);
        holds("1=2 or ".repeat(70) + "1=1", true);
        holds("1=2" + " or 1=2".repeat(70), false);
    }

    private static void parts() {
        Check.sentence("P: \"not\" P | \"(\" C \")\" | Q ( \"<\" | \"=\" | \">\" ) Q");
        holds("not 1=1", false);
        holds("not 1=2", true);
        holds("not not 1=1", true);
        // A "not" is of its P alone.
        holds("not 1=2 and 1=2", false);
        holds("not 1=1 or 1=1", true);
        holds("not(1=1 or 1=1)", false);
        holds("not(1=2 and 1=2)", true);
        holds("(1=1)", true);
        holds("(1=2)", false);
        holds("(1=1 or 1=1)and 1=2", false);
        holds("1=2 and(1=1 or 1=1)", false);
        holds("1=1 or(1=1 and 1=2)", true);
        holds("4<5", true);
        holds("5<5", false);
        holds("6<5", false);
        holds("4=5", false);
        holds("5=5", true);
        holds("6=5", false);
        holds("4>5", false);
        holds("5>5", false);
        holds("6>5", true);
        Check.fault("good not;", 1, 8);
        Check.fault("good ();", 1, 6);
        Check.fault("good (1=1;", 1, 9);
        Check.fault("good 1=1);", 1, 8);
        Check.fault("good 1;", 1, 6);
        Check.fault("good 1=;", 1, 7);
        Check.fault("good =1;", 1, 5);
        Check.fault("good 1=1=1;", 1, 8);
        Check.fault("good 1<=1;", 1, 7);
        Check.fault("good 1 1;", 1, 7);
        Check.fault("good 1!1;", 1, 6);
        Check.fault("good (1)=1;", 1, 7);
        Check.fault("good 1=not 1=1;", 1, 7);
        Check.fault("good 1=(1=1);", 1, 7);
    }

    private static void operands() {
        Check.sentence("Q: N (0 to 999) | \"day\" | \"street\" | \"line\" | \"sheet\" | \"since\" | \"ahead\"");
        holds("0=0", true);
        holds("999=999", true);
        holds("999>998", true);
        holds("0<999", true);
        Check.fault("good 1000=1;", 2, 5);
        Check.fault("good 1=1000;", 2, 7);
        Check.fault("good 1=2001;", 2, 7);
        holds("day=30", true);
        holds("30=day", true);
        holds("street=4", true);
        holds("4=street", true);
        holds("line=0", true);
        holds("sheet=0", true);
        holds("since=20", true);
        holds("20=since", true);
        holds("ahead=0", true);
        holds("since<day", true);
        holds("day<street", false);
        for (String word : new String[] {"voter", "sign", "need", "span", "spoilt", "alpha", "good", "or", "and", "a", "days"}) {
            Check.fault("good " + word + "=1;", 1, 5);
            Check.fault("good 1=" + word + ";", 1, 7);
        }
    }

    private static void words() {
        Check.sentence("W, words: small letters as many as stand there");
        Check.fault("votera 1 1;", 1, 0);
        Check.fault("sheets;", 1, 0);
        Check.fault("shee;", 1, 0);
        Check.fault("Sheet;", 1, 0);
        Check.fault("sheeT;", 1, 0);
        Check.fault("sheetT;", 1, 5);
        Check.fault("voter aB 1 1;", 1, 7);
        Check.fault("voter a_b 1 1;", 1, 7);
        Check.fault("voter a`b 1 1;", 1, 7);
        Check.fault("voter a{b 1 1;", 1, 7);
        Check.fault("good 1=1 andday=1;", 1, 9);
        Check.fault("good notday=1;", 1, 5);
        Check.fault("good 1=1 orr 1=1;", 1, 9);
        Check.fine("voter az 1 1;", 0);
        Check.fault("need 1need 1;", 1, 6);
    }

    private static void longWords() {
        Check.sentence("a W of more than 5 is none");
        Check.fault("voter spoilt 1 1;", 1, 6);
        Check.fault("voter street 1 1;", 1, 6);
        Check.fault("sheet;sign spoilt 1 1;", 1, 11);
        Check.fault("sheet;sign street 1 1;", 1, 11);
        Check.fault("sheet;sign voters 1 1;", 1, 11);
        Check.fault("voter " + "a".repeat(590), 1, 6);
        Check.fault("a".repeat(600), 1, 0);
    }

    private static void wordsAsNames() {
        Check.sentence("any other word may be a NAME, those told here, too");
        String[] told = {"voter", "sheet", "sign", "need", "span", "alpha", "good", "or", "and", "not", "day", "line", "since",
            "ahead"};
        for (String word : told) {
            PetitionDesk x = new PetitionDesk();
            Check.due("a voter " + word, () -> Check.tell(x, "voter " + word + " 1 1;sheet;sign " + word + " 1 1;"), 1);
            Check.due("it is found", () -> x.judged(0), 1);
            Check.due("its last letter", () -> x.letter(0, word.length() - 1), word.charAt(word.length() - 1));
            Check.refused("no letter behind it", () -> x.letter(0, word.length()), Check.ELEMENT);
        }
        // Such a name is none of the words that may stand once, or so often.
        Check.fine("need 1;voter need 1 1;sheet;sign need 1 1;", 1);
        Check.fine("voter need 1 1;need 1;", 0);
        Check.fine("sheet;".repeat(8) + "sign sheet 1 1;", 1);
        Check.fine(Check.voters(16) + "sheet;sign voter 1 1;", 1);
        Check.fine("sheet;" + "sign a 1 1;".repeat(40) + "voter sign 1 1;", 40);
    }

    private static void numbers() {
        Check.sentence("N: digits as many as stand there");
        Check.due("zeros ahead", () -> Check.deskOf("need 007;").told(3), 7);
        Check.due("many zeros ahead", () -> Check.deskOf("need " + "0".repeat(592) + "40;").told(3), 40);
        Check.fault("need " + "0".repeat(592) + "41;", 2, 5);
        Check.fault("need " + "9".repeat(594) + ";", 2, 5);
        // Numbers that an int or a long would wrap to a small one.
        Check.fault("need 4294967297;", 2, 5);
        Check.fault("need 18446744073709551617;", 2, 5);
        Check.fault("need 2147483648;", 2, 5);
        Check.fault("good 4294967297=1;", 2, 5);
        Check.fault("need 1/;", 1, 6);
        Check.fault("need 1:;", 1, 6);
        Check.fault("need 1 0;", 1, 7);
        Check.fault("need 1.0;", 1, 6);
        Check.fault("need +1;", 1, 5);
        Check.fault("span 12;", 1, 7);
    }

    private static void blanks() {
        Check.sentence("blanks (32) may stand ahead of all words, numbers, signs, and at the end");
        String[] tokens = ("voter a 1 2 ; sheet ; sign a 1 3 ; need 1 ; span 1 5 ; spoilt 9 ; alpha 7 ; "
                + "good not ( day < 3 or 1 = 2 ) and street > 0 ;").split(" ");
        PetitionDesk close = Check.deskOf("voter a1 2;sheet;sign a1 3;need1;span1 5;spoilt9;alpha7;good not(day<3or 1=2)and street>0;");
        PetitionDesk apart = Check.deskOf(" " + String.join(" ", tokens) + " ");
        PetitionDesk wide = Check.deskOf("   " + String.join("   ", tokens) + "   ");
        String want = Check.allOf(close);
        Check.look("one blank everywhere", Check.allOf(apart), want);
        Check.look("three blanks everywhere", Check.allOf(wide), want);
        Check.due("its line is true", () -> close.judged(0), 1);
        Check.fault("vo ter a 1 1;", 1, 0);
        Check.fault("voter a b 1 1;", 1, 8);
        for (int strange : new int[] {0, 1, 9, 10, 11, 12, 13, 31, 33, 127, 128, 133, 160, 255}) {
            Check.fault("need" + (char) strange + "1;", 1, 4);
            Check.fault("need 1;" + (char) strange, 1, 7);
            Check.fault((char) strange + "need 1;", 1, 0);
            Check.fault("need 1" + (char) strange + ";", 1, 6);
        }
        Check.due("no fault at all", () -> close.fault(), NONE);
    }
}
