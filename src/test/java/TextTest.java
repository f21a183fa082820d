/** THE TEXT: what is read, and where the FAULT stands. */
public final class TextTest {
    private static int wrong = 0;

    private static void due(String what, long got, long want) {
        if (got != want) {
            wrong++;
            System.out.println(what + " answered " + got + ", due is " + want);
        }
    }

    private static JarSpirit typed(String text) {
        JarSpirit x = new JarSpirit();
        for (int i = 0; i < text.length(); i++) {
            x.type(text.charAt(i));
        }
        return x;
    }

    private static void items(String text, int items) {
        due("\"" + text + "\"", typed(text).read(), items);
    }

    /** The fault stands under the sign ^ of the line below the text. */
    private static void fault(String text, String below) {
        JarSpirit x = typed(text);
        long before = x.digest();
        due("\"" + text + "\"", x.read(), -10 - below.indexOf('^'));
        due("\"" + text + "\" changes nothing", x.digest(), before);
        due("\"" + text + "\" is not refused", x.status(0) + x.status(1) + x.status(2), 0);
    }

    public static void main(String[] args) {
        wholeTexts();
        blanks();
        numbers();
        whatIsRead();
        wordsThatAreNone();
        numbersNotAsTold();
        tokensThatCanNotStand();
        tooEarly();
        sayToOneNotOut();
        longText();
        System.out.println(wrong == 0 ? "all texts are read as due" : wrong + " texts are not read as due");
        if (wrong != 0) {
            System.exit(1);
        }
    }

    private static void wholeTexts() {
        items("jar 0;", 1);
        items("jar 5;mood 0 99;bound 1 99;vow 7 0;say 5;", 5);
        items("jar 0;vow 0 0;vow 0 1;vow 0 1;", 4);
    }

    private static void blanks() {
        items("   jar   0   ;   ", 1);
        items("jar0;mood1 2;say0;", 3);
        items("jar 0 ; bound 99 1 ; mood98 0;", 3);
        fault("j ar 0;",
              "^");
        fault("jar 0;mood 2 0 0;",
              "               ^");
        fault("jar\t0;",
              "   ^");
        fault("jar 0\n;",
              "     ^");
    }

    private static void numbers() {
        items("jar 00;vow 07 04;mood 05 09;say 01;", 4);
        fault("jar 000;",
              "    ^");
        fault("jar 0;mood 0100 2;",
              "           ^");
        fault("jar 0;mood 200;",
              "           ^");
        fault("jar 0;mood 20;",
              "             ^");
        fault("jar 0;mood 2 000000000000000000000000000000004;",
              "             ^");
    }

    private static void whatIsRead() {
        JarSpirit x = typed("jar 4;mood 10 8;say 0;say 1;say 1;vow 3 1;mood 20 30;");
        due("read", x.read(), 7);
        due("he is IN", x.now(6), 1);
        due("mood of one who is IN", x.now(1), 20);
        due("WORDS", x.now(5), 3);
        due("nothing to undo", x.count(2), 0);
        x = typed("jar 0;bound 1 1;");
        due("WRATH is ANGER or less", x.read(), -22);
        x = typed("jar 0;mood 0 0;bound 1 1;say 5;mood 0 0;bound 2 2;");
        due("one who has STRUCK is calmed", x.read(), 6);
        due("he has STRUCK still", x.now(6), 2);
    }

    private static void wordsThatAreNone() {
        fault("jars 0;",
              "^");
        fault("jarz 0;",
              "^");
        fault("jara 0;",
              "^");
        fault("ja 0;",
              "^");
        fault("Jar 0;",
              "^");
        fault("jar 0;sayy 1;",
              "      ^");
        fault("jar 0;vo 1 1;",
              "      ^");
        fault("jar 0;jar 0;",
              "      ^");
        fault("mood 1 1;jar 0;",
              "^");
        fault("say 0;",
              "^");
        fault("jar jar;",
              "    ^");
        fault("jar 0;say say;",
              "          ^");
    }

    private static void numbersNotAsTold() {
        fault("jar 6;",
              "    ^");
        fault("jar 0;mood 40 100;",
              "           ^");
        fault("jar 0;mood 39 100;",
              "              ^");
        fault("jar 0;mood 99 0;",
              "           ^");
        fault("jar 0;bound 0 1;",
              "            ^");
        fault("jar 0;bound 20 1;",
              "            ^");
        fault("jar 0;bound 21 0;",
              "               ^");
        fault("jar 0;mood 0 0;bound 0 1;",
              "                     ^");
        fault("jar 0;bound 21 9;mood 21 0;",
              "                      ^");
        fault("jar 0;vow 8 0;",
              "          ^");
        fault("jar 0;vow 0 5;",
              "            ^");
        fault("jar 0;say 6;",
              "          ^");
        items("jar 0;bound 21 1;mood 20 0;", 3);
    }

    private static void tokensThatCanNotStand() {
        fault(";",
              "^");
        fault("0;",
              "^");
        fault("jar;",
              "   ^");
        fault("jar 0;;",
              "      ^");
        fault("jar 0 0;",
              "      ^");
        fault("jar 0 mood 1 1;",
              "      ^");
        fault("jar 0;mood 1;",
              "            ^");
        fault("jar -1;",
              "    ^");
        fault("jar 0;  7",
              "        ^");
        fault("jar 0;say 0,",
              "           ^");
        fault("jar 0;{",
              "      ^");
        fault("jar 0;`",
              "      ^");
        fault("jar /;",
              "    ^");
        fault("jar :;",
              "    ^");
    }

    private static void tooEarly() {
        fault("",
              "^");
        fault("   ",
              "   ^");
        fault("jar",
              "   ^");
        fault("jar 0",
              "     ^");
        fault("jar 0  ",
              "       ^");
        fault("jar 0;bound 30 ",
              "               ^");
        fault("jar 0;say",
              "         ^");
    }

    private static void sayToOneNotOut() {
        String in = "jar 0;mood 0 9;say 1;";
        String under = "                     ";
        items(in, 3);
        fault(in + "say 1;",
              under + "    ^");
        fault(in + "say ;",
              under + "    ^");
        fault(in + "say mood;",
              under + "    ^");
        fault(in + "say -",
              under + "    ^");
        fault(in + "say  ",
              under + "     ^");
        fault(in + "sa 1;",
              under + "^");
        fault("jar 0;mood 39 9;say 5;say 0;",
              "                          ^");
        items("jar 0;mood 39 9;say 5;vow 0 0;mood 0 0;bound 1 1;", 6);
    }

    private static void longText() {
        StringBuilder text = new StringBuilder("jar 0 ;");
        for (int i = 0; i < 28; i++) {
            text.append("say0;");
        }
        due("147 bytes", text.length(), 147);
        JarSpirit x = typed(text + "   ");
        due("150 bytes", x.count(3), 150);
        due("150 bytes", x.read(), 29);
        due("WORDS", x.count(0), 28);
        due("ANGER", x.now(1), 0);
    }
}
