/** THE TEXT: what is read, and where the FAULT stands. */
public final class TextTest extends Check {
    private static JarSpirit typed(String text) {
        JarSpirit x = new JarSpirit();
        type(x, text);
        return x;
    }

    private static void items(String text, int items) {
        due("\"" + text + "\"", typed(text).read(), items);
    }

    /** The fault stands under the sign ^ of the line below the text. */
    private static void fault(String text, String below) {
        JarSpirit x = typed(text);
        long before = x.digest();
        due("\"" + text + "\"", x.read(), -10 - below.indexOf('^'));
        due("\"" + text + "\" changes nothing", x.digest(), before);
        due("\"" + text + "\" is not refused", x.status(0) + x.status(1) + x.status(2), 0);
    }

    public static void main(String[] args) {
        wholeTexts();
        blanks();
        numbers();
        whatIsRead();
        wordsThatAreNone();
        numbersNotAsTold();
        tokensThatCanNotStand();
        tooEarly();
        sayToOneNotOut();
        longText();
        everyByte();
        everyNumber();
        asTheyStandThere();
        endsInEveryItem();
        end("all texts are read as due");
    }

    private static void wholeTexts() {
        items("jar 0;", 1);
        items("jar 5;mood 0 99;bound 1 99;vow 7 0;say 5;", 5);
        items("jar 0;vow 0 0;vow 0 1;vow 0 1;", 4);
    }

    private static void blanks() {
        items("   jar   0   ;   ", 1);
        items("jar0;mood1 2;say0;", 3);
        items("jar 0 ; bound 99 1 ; mood98 0;", 3);
        fault("j ar 0;",
              "^");
        fault("jar 0;mood 2 0 0;",
              "               ^");
        fault("jar\t0;",
              "   ^");
        fault("jar 0\n;",
              "     ^");
    }

    private static void numbers() {
        items("jar 00;vow 07 04;mood 05 09;say 01;", 4);
        fault("jar 000;",
              "    ^");
        fault("jar 0;mood 0100 2;",
              "           ^");
        fault("jar 0;mood 200;",
              "           ^");
        fault("jar 0;mood 20;",
              "             ^");
        fault("jar 0;mood 2 000000000000000000000000000000004;",
              "             ^");
    }

    private static void whatIsRead() {
        JarSpirit x = typed("jar 4;mood 10 8;say 0;say 1;say 1;vow 3 1;mood 20 30;");
        due("read", x.read(), 7);
        due("he is IN", x.now(6), 1);
        due("mood of one who is IN", x.now(1), 20);
        due("WORDS", x.now(5), 3);
        due("nothing to undo", x.count(2), 0);
        x = typed("jar 0;bound 1 1;");
        due("WRATH is ANGER or less", x.read(), -22);
        x = typed("jar 0;mood 0 0;bound 1 1;say 5;mood 0 0;bound 2 2;");
        due("one who has STRUCK is calmed", x.read(), 6);
        due("he has STRUCK still", x.now(6), 2);
    }

    private static void wordsThatAreNone() {
        fault("jars 0;",
              "^");
        fault("jarz 0;",
              "^");
        fault("jara 0;",
              "^");
        fault("ja 0;",
              "^");
        fault("Jar 0;",
              "^");
        fault("jar 0;sayy 1;",
              "      ^");
        fault("jar 0;vo 1 1;",
              "      ^");
        fault("jar 0;jar 0;",
              "      ^");
        fault("mood 1 1;jar 0;",
              "^");
        fault("say 0;",
              "^");
        fault("jar jar;",
              "    ^");
        fault("jar 0;say say;",
              "          ^");
    }

    private static void numbersNotAsTold() {
        fault("jar 6;",
              "    ^");
        fault("jar 0;mood 40 100;",
              "           ^");
        fault("jar 0;mood 39 100;",
              "              ^");
        fault("jar 0;mood 99 0;",
              "           ^");
        fault("jar 0;bound 0 1;",
              "            ^");
        fault("jar 0;bound 20 1;",
              "            ^");
        fault("jar 0;bound 21 0;",
              "               ^");
        fault("jar 0;mood 0 0;bound 0 1;",
              "                     ^");
        fault("jar 0;bound 21 9;mood 21 0;",
              "                      ^");
        fault("jar 0;vow 8 0;",
              "          ^");
        fault("jar 0;vow 0 5;",
              "            ^");
        fault("jar 0;say 6;",
              "          ^");
        items("jar 0;bound 21 1;mood 20 0;", 3);
    }

    private static void tokensThatCanNotStand() {
        fault(";",
              "^");
        fault("0;",
              "^");
        fault("jar;",
              "   ^");
        fault("jar 0;;",
              "      ^");
        fault("jar 0 0;",
              "      ^");
        fault("jar 0 mood 1 1;",
              "      ^");
        fault("jar 0;mood 1;",
              "            ^");
        fault("jar -1;",
              "    ^");
        fault("jar 0;  7",
              "        ^");
        fault("jar 0;say 0,",
              "           ^");
        fault("jar 0;{",
              "      ^");
        fault("jar 0;`",
              "      ^");
        fault("jar /;",
              "    ^");
        fault("jar :;",
              "    ^");
    }

    private static void tooEarly() {
        fault("",
              "^");
        fault("   ",
              "   ^");
        fault("jar",
              "   ^");
        fault("jar 0",
              "     ^");
        fault("jar 0  ",
              "       ^");
        fault("jar 0;bound 30 ",
              "               ^");
        fault("jar 0;say",
              "         ^");
    }

    private static void sayToOneNotOut() {
        String in = "jar 0;mood 0 9;say 1;";
        String under = "                     ";
        items(in, 3);
        fault(in + "say 1;",
              under + "    ^");
        fault(in + "say ;",
              under + "    ^");
        fault(in + "say mood;",
              under + "    ^");
        fault(in + "say -",
              under + "    ^");
        fault(in + "say  ",
              under + "     ^");
        fault(in + "sa 1;",
              under + "^");
        fault("jar 0;mood 39 9;say 5;say 0;",
              "                          ^");
        items("jar 0;mood 39 9;say 5;vow 0 0;mood 0 0;bound 1 1;", 6);
    }

    private static void longText() {
        StringBuilder text = new StringBuilder("jar 0 ;");
        for (int i = 0; i < 28; i++) {
            text.append("say0;");
        }
        due("147 bytes", text.length(), 147);
        JarSpirit x = typed(text + "   ");
        due("150 bytes", x.count(3), 150);
        due("150 bytes", x.read(), 29);
        due("WORDS", x.count(0), 28);
        due("ANGER", x.now(1), 0);
    }

    private static boolean isLetter(int c) {
        return c >= 'a' && c <= 'z';
    }

    private static boolean isFigure(int c) {
        return c >= '0' && c <= '9';
    }

    private static void read(String text, int due) {
        due("\"" + text + "\"", typed(text).read(), due);
    }

    /** "words of letters a .. z, figures, ; ; blanks (32) .. a byte that begins none": each byte at each place. */
    private static void everyByte() {
        for (int c = 0; c <= 127; c++) {
            char sign = (char) c;
            boolean blank = c == ' ';
            read(sign + "jar 0;", blank ? 1 : -10);
            read("jar 0;" + sign, blank ? 1 : -16);
            read("jar 0;" + sign + "say 0;", blank ? 2 : -16);
            read("jar" + sign + "0;", blank || c == '0' ? 1 : isLetter(c) ? -10 : -13);
            read("jar 0" + sign + ";", blank || c >= '0' && c <= '5' ? 1 : isFigure(c) ? -14 : c == ';' ? -16 : -15);
            read("ja" + sign + "r 0;", -10);
            read("jar 0;say" + sign + "0;", blank || c == '0' ? 2 : isLetter(c) ? -16 : -19);
            read("jar 0;vow 1" + sign + "1;", blank ? 2 : isFigure(c) ? -20 : -21);
        }
    }

    /** "figures (1 or 2 are one number)", "a run of three figures or more (at its first one), a number not as told". */
    private static void everyNumber() {
        for (int number = 0; number <= 120; number++) {
            boolean two = number <= 99;
            read("jar " + number + ";", number <= 5 ? 1 : -14);
            read("jar 0;mood " + number + " 0;", number < 40 ? 2 : -21);
            read("jar 0;mood 0 " + number + ";", two ? 2 : -23);
            read("jar 0;bound " + number + " 1;", number > 20 && two ? 2 : -22);
            read("jar 0;bound 99 " + number + ";", number > 0 && two ? 2 : -25);
            read("jar 0;vow " + number + " 0;", number <= 7 ? 2 : -20);
            read("jar 0;vow 0 " + number + ";", number <= 4 ? 2 : -22);
            read("jar 0;say " + number + ";", number <= 5 ? 2 : -20);
            String padded = number < 10 ? "0" + number : "" + number;
            read("jar 0;mood 0 " + padded + ";", two ? 2 : -23);
            read("jar 0;mood 0 0" + padded + ";", -23);
        }
    }

    /** "an ANGER that is WRATH or more, a WRATH that is ANGER or less (as they stand there)". */
    private static void asTheyStandThere() {
        read("jar 0;bound 99 1;mood 98 0;", 3);
        read("jar 0;bound 99 1;mood 99 0;", -32);
        read("jar 0;bound 21 1;mood 20 0;", 3);
        read("jar 0;bound 21 1;mood 21 0;", -32);
        read("jar 0;bound 50 1;bound 30 1;mood 29 0;", 4);
        read("jar 0;bound 50 1;bound 30 1;mood 30 0;", -43);
        read("jar 0;mood 0 0;bound 1 1;", 3);
        read("jar 0;mood 0 0;bound 1 1;mood 0 0;", 4);
        read("jar 0;mood 0 0;bound 1 1;mood 1 0;", -40);
        read("jar 0;mood 39 0;bound 40 1;", 3);
        read("jar 0;mood 39 0;bound 39 1;", -32);
        read("jar 0;say 5;bound 23 1;", 3);
        read("jar 0;say 5;bound 22 1;", -28);
        read("jar 0;say 4;bound 18 1;", 3);
        read("jar 0;say 4;bound 17 1;", -28);
        read("jar 0;mood 39 0;say 5;bound 42 1;", 4);
        read("jar 0;mood 39 0;say 5;bound 41 1;", -38);
    }

    /** "the TEXT's length, if it ends too early", in each ITEM behind each TOKEN; a word cut short is none. */
    private static void endsInEveryItem() {
        String[] items = {"mood 1 2", "bound 30 2", "vow 1 2", "say 1", "say 1 "};
        String calm = "jar 0;mood 0 0;";
        int ahead = calm.length();
        for (String item : items) {
            String whole = calm + item + ";";
            read(whole, 3);
            read(whole + " ", 3);
            for (int length = ahead; length < whole.length(); length++) {
                String cut = whole.substring(0, length);
                boolean inWord = length > ahead && length < ahead + item.indexOf(' ');
                read(cut, length == ahead ? 2 : inWord ? -10 - ahead : -10 - length);
                read(cut + " ", length == ahead ? 2 : inWord ? -10 - ahead : -11 - length);
            }
        }
        read("jar 0;bound 3", -22);
        for (int length = 0; length < 6; length++) {
            boolean inWord = length == 1 || length == 2;
            read("jar 0;".substring(0, length), inWord ? -10 : -10 - length);
        }
    }
}
