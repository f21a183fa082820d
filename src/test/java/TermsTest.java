/** The boundaries that "Terms" names, each on both sides: moods, bounds, KINDS, a WORD, talks, THE FRACTION. */
public final class TermsTest extends Check {
    public static void main(String[] args) {
        firstValues();
        angerIsKeptFrom0();
        angerIsKeptTo99();
        prideIsKeptFrom0();
        prideIsKeptTo99();
        wordsSaidIsOneMore();
        angerAtWrath();
        angerFallsToWrath();
        prideAtHeight();
        onlyDoubtBringsHimIn();
        strikingIsAheadOfGoingIn();
        halfIsCutTowards0();
        sleepyByOddN();
        underOneAnother();
        bywordsEndsWhenNotOut();
        fewestUpTo12();
        delayUpTo12();
        strikesWithin60();
        theFractionIsInLowestTerms();
        end("every boundary of the terms holds");
    }

    /** "OUT at first"; "20, 0 at first"; "40 at first"; "9 at first"; "0 at first"; VOWS; "0 by 1 at first". */
    private static void firstValues() {
        JarSpirit x = new JarSpirit();
        first("a new one", x, PLAIN);
        fraction("a new one", x, 0, 1);
        due("a new one's TEXT", x.count(3), 0);
        for (int kind = PLAIN; kind <= TWO; kind++) {
            x = full();
            x.jar(kind);
            first("jar " + kind, x, kind);
            x = rich();
            type(x, "jar " + kind + ";");
            x.read();
            first("jar " + kind + " read", x, kind);
        }
    }

    private static void first(String what, JarSpirit x, int kind) {
        int[] now = {kind, 20, 0, 40, 9, 0, OUT};
        for (int i = 0; i < now.length; i++) {
            due(what + ", now " + i, x.now(i), now[i]);
        }
        for (int i = 0; i < 3; i++) {
            due(what + ", count " + i, x.count(i), 0);
        }
        int[] vows = {0, 1, 2, 3, 4, 4, 4, 4};
        for (int c = 0; c < vows.length; c++) {
            due(what + ", vow of " + c, x.vow(c, 0), vows[c]);
        }
        due(what + ", nothing to undo", x.undo(), NO);
        due(what + ", IS", x.is(), 63);
    }

    /** One in this mood hears one WORD. */
    private static void hears(JarSpirit x, int w, int anger, int pride, int being) {
        String what = "KIND " + x.now(0) + " with " + x.now(1) + ", " + x.now(2) + " within " + x.now(3) + ", " + x.now(4)
            + " hears " + w;
        int said = x.now(5);
        int row = w + 1;
        due(what + ", ANGER by words", x.words(row, 0), anger);
        due(what + ", PRIDE by words", x.words(row, 1), pride);
        due(what + ", being by words", x.words(row, 2), being);
        due(what + ", count by words", x.words(row, 3), 1);
        due(what, x.say(w), being);
        feels(what, x, anger, pride, said + 1, being);
    }

    /** "0 to 99 kept". */
    private static void angerIsKeptFrom0() {
        int[][] plain = {{4, OATH, 1}, {3, OATH, 0}, {2, OATH, 0}, {0, OATH, 0}, {3, TALE, 1}, {2, TALE, 0},
            {1, TALE, 0}, {2, PLEA, 1}, {1, PLEA, 0}, {0, PLEA, 0}, {0, PRAISE, 0}};
        for (int[] p : plain) {
            hears(jarOf(PLAIN, p[0], 50, 40, 99), p[1], p[2], p[1] == OATH ? 49 : p[1] == PRAISE ? 52 : 50, OUT);
        }
        int[][] two = {{9, OATH, 1}, {8, OATH, 0}, {7, OATH, 0}, {0, OATH, 0}, {1, PRAISE, 0}, {3, PRAISE, 1}};
        for (int[] t : two) {
            hears(jarOf(TWO, t[0], 0, 40, 99), t[1], t[2], t[1] == PRAISE ? 3 : 0, OUT);
        }
    }

    private static void angerIsKeptTo99() {
        int[][] plain = {{96, SILENCE, 98, OUT}, {97, SILENCE, 99, STRUCK}, {98, SILENCE, 99, STRUCK},
            {97, DOUBT, 98, OUT}, {98, DOUBT, 99, STRUCK}};
        for (int[] p : plain) {
            hears(jarOf(PLAIN, p[0], 0, 99, 99), p[1], p[2], p[1] == DOUBT ? 3 : 0, p[3]);
        }
        hears(jarOf(TWO, 98, 0, 99, 99), SILENCE, 99, 1, STRUCK);
        due("ANGER to 99 by strikes", jarOf(PLAIN, 98, 0, 99, 99).strikes(SILENCE), 1);
    }

    private static void prideIsKeptFrom0() {
        int[][] liar = {{4, DOUBT, 1}, {3, DOUBT, 0}, {2, DOUBT, 0}, {0, DOUBT, 0}, {3, PRAISE, 1}, {2, PRAISE, 0},
            {1, PRAISE, 0}};
        for (int[] l : liar) {
            hears(jarOf(LIAR, 0, l[0], 40, 99), l[1], l[1] == DOUBT ? 1 : 0, l[2], OUT);
        }
        hears(jarOf(PLAIN, 20, 2, 40, 9), OATH, 17, 1, OUT);
        hears(jarOf(PLAIN, 20, 1, 40, 9), OATH, 17, 0, OUT);
        hears(jarOf(PLAIN, 20, 0, 40, 9), OATH, 17, 0, OUT);
    }

    private static void prideIsKeptTo99() {
        int[][] plain = {{96, 98}, {97, 99}, {98, 99}, {99, 99}};
        for (int[] p : plain) {
            hears(jarOf(PLAIN, 20, p[0], 40, 9), PRAISE, 20, p[1], OUT);
        }
        hears(jarOf(PLAIN, 20, 95, 40, 99), DOUBT, 21, 98, OUT);
        hears(jarOf(PLAIN, 20, 97, 40, 99), DOUBT, 21, 99, IN);
        hears(jarOf(LIAR, 20, 98, 40, 9), OATH, 17, 99, OUT);
        hears(jarOf(LIAR, 20, 99, 40, 9), OATH, 17, 99, OUT);
        hears(jarOf(TWO, 20, 99, 40, 9), PLEA, 16, 99, OUT);
    }

    /** "n is one more", also by the WORD that strikes or brings him IN; a WORD that is refused adds none. */
    private static void wordsSaidIsOneMore() {
        JarSpirit x = jarOf(PLAIN, 0, 0, 2, 3);
        x.say(PRAISE);
        x.say(DOUBT);
        feels("IN", x, 1, 5, 2, IN);
        x.say(PLEA);
        x.say(6);
        feels("IN still", x, 1, 5, 2, IN);
        x = jarOf(PLAIN, 0, 0, 2, 9);
        x.say(SILENCE);
        feels("STRUCK", x, 2, 0, 1, STRUCK);
        x.say(PLEA);
        feels("STRUCK still", x, 2, 0, 1, STRUCK);
        x = new JarSpirit();
        for (int n = 1; n <= 510; n++) {
            x.say(PLEA);
        }
        due("510 WORDS", x.count(0), 510);
    }

    /** "if ANGER is WRATH or more, he has STRUCK". */
    private static void angerAtWrath() {
        hears(jarOf(PLAIN, 37, 0, 40, 9), SILENCE, 39, 0, OUT);
        hears(jarOf(PLAIN, 38, 0, 40, 9), SILENCE, 40, 0, STRUCK);
        hears(jarOf(PLAIN, 39, 0, 40, 9), SILENCE, 41, 0, STRUCK);
        hears(jarOf(PLAIN, 39, 0, 40, 9), PRAISE, 39, 2, OUT);
        hears(jarOf(PLAIN, 0, 0, 1, 1), PRAISE, 0, 2, OUT);
        hears(jarOf(PLAIN, 0, 0, 1, 99), DOUBT, 1, 3, STRUCK);
        hears(jarOf(SLOW, 39, 0, 40, 9), DOUBT, 39, 3, OUT);
        hears(jarOf(SLOW, 39, 0, 40, 9), SILENCE, 40, 0, STRUCK);
        hears(jarOf(GRATEFUL, 39, 0, 40, 9), SILENCE, 40, 0, STRUCK);
    }

    /** One who is OUT with ANGER above WRATH (undo gives ANGER back, not WRATH) strikes unless it falls below. */
    private static void angerFallsToWrath() {
        hears(angryButOut(18), OATH, 17, 0, OUT);
        hears(angryButOut(17), OATH, 17, 0, STRUCK);
        hears(angryButOut(16), OATH, 17, 0, STRUCK);
        hears(angryButOut(20), PLEA, 19, 0, OUT);
        hears(angryButOut(20), PRAISE, 20, 2, STRUCK);
    }

    /** "if it was DOUBT, and PRIDE is HEIGHT or more, he is IN". */
    private static void prideAtHeight() {
        hears(jarOf(PLAIN, 20, 5, 40, 9), DOUBT, 21, 8, OUT);
        hears(jarOf(PLAIN, 20, 6, 40, 9), DOUBT, 21, 9, IN);
        hears(jarOf(PLAIN, 20, 7, 40, 9), DOUBT, 21, 10, IN);
        hears(jarOf(PLAIN, 20, 95, 40, 99), DOUBT, 21, 98, OUT);
        hears(jarOf(PLAIN, 20, 96, 40, 99), DOUBT, 21, 99, IN);
        hears(jarOf(PLAIN, 20, 0, 40, 3), DOUBT, 21, 3, IN);
        hears(jarOf(PLAIN, 20, 0, 40, 4), DOUBT, 21, 3, OUT);
        hears(jarOf(LIAR, 20, 3, 40, 1), DOUBT, 21, 0, OUT);
        hears(jarOf(LIAR, 20, 4, 40, 1), DOUBT, 21, 1, IN);
        hears(jarOf(TWO, 20, 5, 40, 9), DOUBT, 20, 9, IN);
        hears(jarOf(TWO, 20, 4, 40, 9), DOUBT, 20, 8, OUT);
    }

    private static void onlyDoubtBringsHimIn() {
        int[] anger = {19, 0, 20, 18, 17, 22};
        int[] pride = {50, 0, 52, 50, 49, 50};
        for (int w = 0; w < 6; w++) {
            if (w != DOUBT) {
                hears(jarOf(PLAIN, 20, 50, 40, 1), w, anger[w], pride[w], OUT);
            }
        }
    }

    private static void strikingIsAheadOfGoingIn() {
        hears(jarOf(PLAIN, 38, 6, 40, 9), DOUBT, 39, 9, IN);
        hears(jarOf(PLAIN, 39, 6, 40, 9), DOUBT, 40, 9, STRUCK);
        hears(jarOf(PLAIN, 39, 99, 40, 1), DOUBT, 40, 99, STRUCK);
    }

    /** "half of PLAIN (cut towards 0)": -1, 1, 0, -2, -3, 2. */
    private static void halfIsCutTowards0() {
        int[] half = {0, 0, 0, -1, -1, 1};
        JarSpirit x = jarOf(SLOW, 20, 0, 40, 9);
        for (int w = 0; w < 6; w++) {
            due("SLOW by " + w, x.moves(w, 0), half[w]);
        }
    }

    /** "0, if n is odd, else as SLOW; likewise". */
    private static void sleepyByOddN() {
        JarSpirit x = jarOf(SLEEPY, 20, 9, 40, 9);
        int[] anger = {0, 0, 0, -1, -1, 1};
        int[] pride = {0, 3, 2, 0, -1, 0};
        for (int n = 0; n <= 9; n++) {
            for (int w = 0; w < 6; w++) {
                due("SLEEPY behind " + n + ", ANGER by " + w, x.moves(w, 0), n % 2 == 1 ? 0 : anger[w]);
                due("SLEEPY behind " + n + ", PRIDE by " + w, x.moves(w, 1), n % 2 == 1 ? 0 : pride[w]);
            }
            x.say(PLEA);
        }
        x.undo();
        due("SLEEPY, one undone: asleep", x.moves(SILENCE, 0), 0);
        x.undo();
        due("SLEEPY, two undone: awake", x.moves(SILENCE, 0), 1);
        x = jarOf(SLEEPY, 20, 9, 40, 9);
        x.say(PLEA);
        hears(x, DOUBT, 20, 9, IN);
        x = jarOf(SLEEPY, 20, 8, 40, 9);
        x.say(PLEA);
        hears(x, DOUBT, 20, 8, OUT);
        x = jarOf(SLEEPY, 20, 9, 40, 9);
        x.note(SILENCE, 98, 1, 0);
        due("SLEEPY behind 98 is awake", x.is() >> SLEEPY & 1, 1);
        x.note(SILENCE, 99, 0, 0);
        due("SLEEPY behind 99 is asleep", x.is(), 1 << SLEEPY);
    }

    /** "each under the one told": TWO is twice GRATEFUL, which is 1 less than PLAIN; LIAR turns PRIDE alone. */
    private static void underOneAnother() {
        int[][] anger = {{-2, 0, -1, -3, -4, 1}, {-1, 1, 0, -2, -3, 2}, {-4, 0, -2, -6, -8, 2}};
        int[][] pride = {{0, 3, 2, 0, -1, 0}, {0, -3, -2, 0, 1, 0}, {1, 4, 3, 1, 0, 1}};
        int[] kinds = {GRATEFUL, LIAR, TWO};
        for (int k = 0; k < kinds.length; k++) {
            JarSpirit x = jarOf(kinds[k], 20, 0, 40, 9);
            for (int w = 0; w < 6; w++) {
                due("ANGER of " + kinds[k] + " by " + w, x.moves(w, 0), anger[k][w]);
                due("PRIDE of " + kinds[k] + " by " + w, x.moves(w, 1), pride[k][w]);
            }
        }
    }

    /** "till he is not OUT": the first, a middle, the last WORD of a row, and one behind it. */
    private static void bywordsEndsWhenNotOut() {
        JarSpirit x = jarOf(PLAIN, 20, 6, 40, 9);
        int[][] rows = {{211111111, IN, 1}, {111121111, IN, 5}, {111111112, IN, 9}, {111111111, OUT, 9}, {0, OUT, 0}};
        for (int[] r : rows) {
            due("row " + r[0] + ": what he is", x.words(r[0], 2), r[1]);
            due("row " + r[0] + ": how many", x.words(r[0], 3), r[2]);
        }
        x = jarOf(PLAIN, 39, 0, 40, 9);
        int[][] strikes = {{611111111, STRUCK, 1, 41}, {333363333, STRUCK, 5, 41}, {333333336, STRUCK, 9, 41},
            {333333333, OUT, 9, 39}, {0, OUT, 0, 39}};
        for (int[] r : strikes) {
            due("row " + r[0] + ": what he is", x.words(r[0], 2), r[1]);
            due("row " + r[0] + ": how many", x.words(r[0], 3), r[2]);
            due("row " + r[0] + ": ANGER", x.words(r[0], 0), r[3]);
        }
        for (int row : new int[] {0, 1, 222222222}) {
            due("of one who is IN, row " + row, richAndIn().words(row, 3), 0);
            due("of one who is IN, row " + row, richAndIn().words(row, 2), IN);
            due("of one who is IN, row " + row, richAndIn().words(row, 1), 63);
            due("of one who has STRUCK, row " + row, richAndStruck().words(row, 3), 0);
            due("of one who has STRUCK, row " + row, richAndStruck().words(row, 2), STRUCK);
            due("of one who has STRUCK, row " + row, richAndStruck().words(row, 0), 51);
        }
    }

    /** The row that answers, as a number of figures 1 to 6. */
    private static long fewestRow(JarSpirit x) {
        long row = 0;
        for (int i = 0; i < x.fewest(-1); i++) {
            row = row * 10 + x.fewest(i) + 1;
        }
        return row;
    }

    private static long delayRow(JarSpirit x, int which) {
        long row = 0;
        for (int i = 0; i < x.delay(which, -1); i++) {
            row = row * 10 + x.delay(which, i) + 1;
        }
        return row;
    }

    /** "FEWEST: WORDS (up to 12) by which he is IN .. of the first such row (rising); none (IN already: 0)". */
    private static void fewestUpTo12() {
        JarSpirit x = jarOf(PLAIN, 20, 0, 99, 36);
        due("12 DOUBTS", fewestRow(x), 222222222222L);
        due("12 is the most", x.fewest(-1), 12);
        due("the last of 12", x.fewest(11), DOUBT);
        due("not so many as 13", x.fewest(12), -5);
        x = jarOf(PLAIN, 20, 0, 99, 37);
        for (int i : new int[] {NONE, 0, 11, 12, HIGHEST}) {
            due("13 DOUBTS are too many, " + i, x.fewest(i), NONE);
        }
        x = jarOf(PLAIN, 20, 1, 99, 37);
        due("12, with PRIDE 1", fewestRow(x), 222222222222L);
        x = jarOf(PLAIN, 20, 4, 99, 37);
        due("11, with PRIDE 4", fewestRow(x), 22222222222L);
        x = jarOf(PLAIN, 20, 6, 40, 9);
        due("1 DOUBT", fewestRow(x), 2);
        x = jarOf(PLAIN, 39, 6, 40, 9);
        due("PLEA ahead of PRAISE, TALE, OATH", fewestRow(x), 12);
        x = richAndIn();
        due("IN already", x.fewest(-1), 0);
        for (int i : new int[] {0, 11, 12, HIGHEST}) {
            due("IN already, " + i, x.fewest(i), -5);
        }
        x = richAndStruck();
        for (int i : new int[] {NONE, 0, 11, 12, HIGHEST}) {
            due("STRUCK, " + i, x.fewest(i), NONE);
        }
    }

    /** "DELAY: the most WORDS (up to 12) .. he being OUT behind each .. of the first such row (rising)". */
    private static void delayUpTo12() {
        for (int which = 0; which < 2; which++) {
            JarSpirit x = jarOf(PLAIN, 39, 0, 40, 9);
            due("12 at the most", x.delay(which, -1), 12);
            due("12 PLEAS", delayRow(x, which), 111111111111L);
            due("the last of 12", x.delay(which, 11), PLEA);
            due("not so many as 13", x.delay(which, 12), -5);
            due("not so many", x.delay(which, HIGHEST), -5);
            JarSpirit[] notOut = {richAndIn(), richAndStruck()};
            for (JarSpirit none : notOut) {
                due("not OUT", none.delay(which, -1), 0);
                due("not OUT, the first", none.delay(which, 0), -5);
            }
            JarSpirit none = angryButOut(1);
            due("OUT, but any WORD strikes", none.delay(which, -1), 0);
            due("OUT, but any WORD strikes, the first", none.delay(which, 0), -5);
        }
        due("TALE alone is too weak", delayRow(angryButOut(18), 0), 511111111111L);
        due("TALE, OATH", delayRow(angryButOut(19), 0), 411111111111L);
        due("no TALE, no OATH", angryButOut(19).delay(1, -1), 0);
        due("PLEA is enough", delayRow(angryButOut(20), 1), 111111111111L);
    }

    /** "STRIKES: in how many WORDS (1 .. 60) .. none (.. or is OUT still)". */
    private static void strikesWithin60() {
        due("in 1", jarOf(PLAIN, 38, 0, 40, 9).strikes(SILENCE), 1);
        due("in 2", jarOf(PLAIN, 37, 0, 40, 9).strikes(SILENCE), 2);
        due("in 59", jarOf(SLOW, 0, 0, 59, 9).strikes(SILENCE), 59);
        due("in 60", jarOf(SLOW, 0, 0, 60, 9).strikes(SILENCE), 60);
        due("in 61", jarOf(SLOW, 0, 0, 61, 9).strikes(SILENCE), NONE);
        due("not OUT: IN", richAndIn().strikes(SILENCE), NONE);
        due("not OUT: STRUCK", richAndStruck().strikes(SILENCE), NONE);
        due("comes to be IN", jarOf(PLAIN, 20, 0, 40, 57).strikes(DOUBT), NONE);
        due("strikes as he would be IN", jarOf(PLAIN, 20, 0, 40, 60).strikes(DOUBT), 20);
        due("OUT still", jarOf(PLAIN, 20, 0, 40, 9).strikes(PRAISE), NONE);
    }

    /** "0 by 1 at first; lowest terms, below above 0". */
    private static void theFractionIsInLowestTerms() {
        changesFraction("0", () -> richWithVows(0, 0), x -> x.reward(6), 0, 1);
        changesFraction("0 of one century", () -> richWithVows(0, 0), x -> x.reward(7), 0, 1);
        changesFraction("below 0", () -> richWithVows(4, 1), x -> x.reward(6), -3, 2);
        changesFraction("below 0, lowest terms", () -> richWithVows(4, 4), x -> x.reward(6), -4, 1);
        changesFraction("above 0, lowest terms", () -> richWithVows(3, 1), x -> x.reward(6), 2, 1);
        changesFraction("above 0", () -> richWithVows(2, 1), x -> x.reward(6), 3, 2);
    }

    private static JarSpirit richWithVows(int sixth, int seventh) {
        JarSpirit x = rich();
        x.vow(6, sixth);
        x.vow(7, seventh);
        return x;
    }
}
