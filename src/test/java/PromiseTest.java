/** Each promise on ordinary inputs, edges and wrong inputs; the dues are worked out by hand from the document. */
public final class PromiseTest extends Check {
    public static void main(String[] args) {
        newObject();
        jar();
        mood();
        bound();
        vow();
        typeAndClear();
        read();
        say();
        sayIsKept();
        open();
        undo();
        now();
        moves();
        words();
        fewest();
        delay();
        delayBehindUndo();
        strikes();
        since();
        cast();
        reward();
        noteAndForget();
        isOf();
        next();
        lie();
        odds();
        jars();
        part();
        images();
        status();
        count();
        digest();
        end("all promises hold");
    }

    private static void newObject() {
        JarSpirit x = new JarSpirit();
        int[] first = {0, 20, 0, 40, 9, 0, 0};
        for (int what = 0; what < first.length; what++) {
            due("1: new now " + what, x.now(what), first[what]);
        }
        int[] vows = {1, 2, 4, 8, 240};
        for (int v = 0; v < vows.length; v++) {
            due("1: new since " + v, x.since(v), vows[v]);
        }
        for (int what = 0; what < 4; what++) {
            due("1: new count " + what, x.count(what), 0);
        }
        fraction("1: new", x, 0, 1);
        due("1: new image 0", x.from(0), -3);
        due("1: new image 1", x.from(1), -3);
        statusIs("1: new", x, 0, 2, 0);
    }

    private static void jar() {
        JarSpirit x = new JarSpirit();
        x.bound(60, 70);
        x.vow(0, 4);
        x.note(0, 0, 0, 0);
        x.say(5);
        x.say(2);
        x.image(1);
        type(x, "abc");
        x.odds(2, 3);
        x.odds(222, 5);
        x.reward(7);
        x.say(9);
        due("2: jar", x.jar(5), 2);
        due("2: KIND", x.now(0), 5);
        feels("2: jar", x, 20, 0, 0, 0);
        due("2: WRATH", x.now(3), 40);
        due("2: HEIGHT", x.now(4), 9);
        due("2: VOWS", x.since(4), 240);
        due("2: NOTES", x.count(1), 0);
        due("2: undone", x.count(2), 0);
        due("2: undo", x.undo(), -3);
        due("2: THE TEXT stays", x.count(3), 3);
        fraction("2: jar leaves", x, -4, 1);
        statusIs("2: jar leaves", x, 1, 1, 0);
        due("2: IMAGE stays", x.from(1), 1);
        due("2: IMAGE's WRATH", x.now(3), 60);
        due("2: jar -1", x.jar(-1), -2);
        due("2: jar 6", x.jar(6), -2);
        due("2: refused changes nothing", x.now(5), 2);
        due("2: jar again", x.jar(0), 2);
        due("2: jar once more", x.jar(0), 0);
    }

    private static void mood() {
        JarSpirit x = new JarSpirit();
        due("3: mood", x.mood(39, 99), 1);
        feels("3: mood", x, 39, 99, 0, 0);
        due("3: least", x.mood(0, 0), 1);
        feels("3: least", x, 0, 0, 0, 0);
        due("3: ANGER is WRATH", x.mood(40, 5), -3);
        due("3: ANGER above WRATH", x.mood(99, 5), -3);
        due("3: ANGER 100", x.mood(100, 0), -2);
        due("3: ANGER -1", x.mood(-1, 0), -2);
        due("3: BAD ahead of NO", x.mood(40, 100), -2);
        due("3: PRIDE -1", x.mood(0, -1), -2);
        feels("3: refused", x, 0, 0, 0, 0);
        x.bound(1, 1);
        x.say(5);
        due("3: mood of one who has STRUCK", x.mood(0, 7), 1);
        feels("3: he has STRUCK still", x, 0, 7, 1, 2);
    }

    private static void bound() {
        JarSpirit x = new JarSpirit();
        due("4: bound", x.bound(21, 99), 1);
        due("4: WRATH", x.now(3), 21);
        due("4: HEIGHT", x.now(4), 99);
        due("4: most", x.bound(99, 1), 1);
        due("4: ANGER is WRATH", x.bound(20, 50), -3);
        due("4: WRATH 1", x.bound(1, 50), -3);
        due("4: WRATH 0", x.bound(0, 1), -2);
        due("4: WRATH 100", x.bound(100, 1), -2);
        due("4: HEIGHT 0", x.bound(50, 0), -2);
        due("4: BAD ahead of NO", x.bound(1, 100), -2);
        due("4: WRATH stays", x.now(3), 99);
        due("4: HEIGHT stays", x.now(4), 1);
    }

    private static void vow() {
        JarSpirit x = new JarSpirit();
        int[] first = {0, 1, 2, 3, 4, 4, 4, 4};
        for (int c = 0; c < 8; c++) {
            due("5: vow " + c, x.vow(c, 2), first[c]);
            due("5: vowed " + c, x.vow(c, 2), 2);
        }
        due("5: all", x.since(2), 255);
        due("5: c 8", x.vow(8, 0), -2);
        due("5: c -1", x.vow(-1, 0), -2);
        due("5: v 5", x.vow(0, 5), -2);
        due("5: v -1", x.vow(0, -1), -2);
        due("5: all still", x.since(2), 255);
    }

    private static void typeAndClear() {
        JarSpirit x = new JarSpirit();
        due("7: nothing", x.clear(), 0);
        due("6: type 0", x.type(0), 1);
        due("6: type 127", x.type(127), 2);
        due("6: type 128", x.type(128), -2);
        due("6: type -1", x.type(-1), -2);
        for (int i = 3; i <= 150; i++) {
            due("6: type", x.type('a'), i);
        }
        due("6: FULL", x.type('a'), -4);
        due("6: BAD ahead of FULL", x.type(200), -2);
        statusIs("6:", x, 3, 0, 1);
        due("6: bytes", x.count(3), 150);
        due("7: clear", x.clear(), 150);
        due("7: clear again", x.clear(), 0);
        due("7: type behind clear", x.type(';'), 1);
    }

    private static void read() {
        JarSpirit x = new JarSpirit();
        x.note(0, 0, 0, 0);
        x.vow(0, 4);
        x.image(0);
        x.odds(2, 3);
        x.say(0);
        type(x, "jar 5;bound 50 60;mood 49 10;vow 6 1;say 0;say 2;");
        due("8: read", x.read(), 6);
        due("8: KIND", x.now(0), 5);
        feels("8: read", x, 43, 14, 2, 0);
        due("8: WRATH", x.now(3), 50);
        due("8: HEIGHT", x.now(4), 60);
        due("8: VOWS", x.since(1), 2 + 64);
        due("8: VOWS of before", x.since(0), 1);
        due("8: NOTES", x.count(1), 0);
        due("8: undo", x.undo(), -3);
        due("8: THE TEXT stays", x.clear(), 49);
        fraction("8: stays", x, 0, 1);
        due("8: empty", x.read(), -10);
        feels("8: a FAULT changes nothing", x, 43, 14, 2, 0);
        due("8: IMAGE stays", x.from(0), 1);
        due("8: IMAGE", x.now(0), 0);
        statusIs("8: a FAULT is none of STATUS", x, 0, 1, 0);
    }

    private static void say() {
        JarSpirit x = new JarSpirit();
        due("9: DOUBT", x.say(1), 0);
        feels("9: DOUBT", x, 21, 3, 1, 0);
        due("9: PRAISE", x.say(2), 0);
        feels("9: PRAISE", x, 21, 5, 2, 0);
        due("9: OATH", x.say(4), 0);
        feels("9: OATH", x, 18, 4, 3, 0);
        x.mood(10, 99);
        due("9: PRIDE is not enough without DOUBT", x.say(2), 0);
        feels("9: 99 kept", x, 10, 99, 4, 0);
        due("9: IN", x.say(1), 1);
        due("9: NO", x.say(0), -3);
        due("9: BAD", x.say(6), -2);
        due("9: BAD below", x.say(-1), -2);
        feels("9: refused", x, 11, 99, 5, 1);
    }

    private static void sayIsKept() {
        JarSpirit x = new JarSpirit();
        x.mood(1, 0);
        due("9: to 0", x.say(4), 0);
        feels("9: 0 kept", x, 0, 0, 1, 0);
        x.bound(99, 1);
        x.mood(98, 98);
        due("9: STRUCK is ahead of IN", x.say(1), 2);
        feels("9: STRUCK", x, 99, 99, 2, 2);
        due("9: NO", x.say(1), -3);
        x.jar(0);
        x.mood(0, 6);
        due("9: HEIGHT reached", x.say(1), 1);
        x.jar(0);
        x.mood(0, 5);
        due("9: HEIGHT missed", x.say(1), 0);
        x.jar(4);
        x.say(5);
        x.say(5);
        feels("9: SLEEPY, the second slept through", x, 21, 0, 2, 0);
    }

    private static void open() {
        JarSpirit x = new JarSpirit();
        due("10: OUT", x.open(), -3);
        x.mood(30, 20);
        x.say(1);
        due("10: open", x.open(), 23);
        feels("10: open", x, 31, 0, 1, 0);
        due("10: again", x.open(), -3);
        due("10: may be undone", x.undo(), 1);
        feels("10: undone", x, 31, 23, 1, 1);
        x.jar(0);
        x.mood(39, 0);
        x.say(5);
        due("10: STRUCK", x.open(), -3);
        statusIs("10:", x, 0, 3, 0);
    }

    private static void undo() {
        JarSpirit x = new JarSpirit();
        due("11: nothing", x.undo(), -3);
        x.say(5);
        x.say(5);
        x.mood(0, 50);
        x.bound(90, 90);
        due("11: undo", x.undo(), 1);
        feels("11: undo", x, 22, 0, 1, 0);
        due("11: WRATH is as it was set", x.now(3), 90);
        due("11: undo more", x.undo(), 0);
        feels("11: undo more", x, 20, 0, 0, 0);
        due("11: no more", x.undo(), -3);
        x.jar(0);
        x.mood(39, 0);
        x.say(5);
        due("11: he has not STRUCK", x.undo(), 0);
        feels("11: he has not STRUCK", x, 39, 0, 0, 0);
        for (int i = 0; i < 11; i++) {
            x.say(0);
        }
        due("11: 8 at most", x.count(2), 8);
        for (int said = 10; said >= 3; said--) {
            due("11: undo to " + said, x.undo(), said);
            due("11: ANGER at " + said, x.now(1), 39 - said);
        }
        due("11: the older are gone", x.undo(), -3);
    }

    private static void now() {
        JarSpirit x = new JarSpirit();
        type(x, "jar 2;bound 50 60;mood 7 8;say 1;say 5;");
        x.read();
        int[] dues = {2, 8, 11, 50, 60, 2, 0};
        for (int what = 0; what < dues.length; what++) {
            due("12: now " + what, x.now(what), dues[what]);
        }
        due("12: now 7", x.now(7), -2);
        due("12: now -1", x.now(-1), -2);
        statusIs("12:", x, 2, 0, 0);
    }

    private static void moves() {
        int[][] anger = {{-1, 1, 0, -2, -3, 2}, {0, 0, 0, -1, -1, 1}, {-2, 0, -1, -3, -4, 1},
            {-1, 1, 0, -2, -3, 2}, {0, 0, 0, -1, -1, 1}, {-4, 0, -2, -6, -8, 2}};
        int[][] pride = {{0, 3, 2, 0, -1, 0}, {0, 3, 2, 0, -1, 0}, {0, 3, 2, 0, -1, 0},
            {0, -3, -2, 0, 1, 0}, {0, 3, 2, 0, -1, 0}, {1, 4, 3, 1, 0, 1}};
        JarSpirit x = new JarSpirit();
        for (int kind = 0; kind < 6; kind++) {
            x.jar(kind);
            for (int w = 0; w < 6; w++) {
                due("13: ANGER of " + kind + " by " + w, x.moves(w, 0), anger[kind][w]);
                due("13: PRIDE of " + kind + " by " + w, x.moves(w, 1), pride[kind][w]);
            }
        }
        x.jar(4);
        x.say(0);
        due("13: SLEEPY sleeps", x.moves(1, 1), 0);
        due("13: SLEEPY sleeps", x.moves(4, 0), 0);
        x.say(0);
        due("13: SLEEPY wakes", x.moves(1, 1), 3);
        x.mood(0, 9);
        x.say(1);
        due("13: asleep and IN", x.moves(5, 0), 0);
        due("13: w 6", x.moves(6, 0), -100);
        due("13: w -1", x.moves(-1, 0), -100);
        due("13: what 2", x.moves(0, 2), -100);
        due("13: what -1", x.moves(0, -1), -100);
        statusIs("13:", x, 4, 0, 0);
    }

    private static void words() {
        JarSpirit x = new JarSpirit();
        int[] none = {20, 0, 0, 0};
        int[] threeDoubts = {23, 9, 1, 3};
        int[] sixWords = {17, 4, 0, 6};
        for (int what = 0; what < 4; what++) {
            due("14: none, " + what, x.words(0, what), none[what]);
            due("14: DOUBTS, " + what, x.words(222222222, what), threeDoubts[what]);
            due("14: six WORDS, " + what, x.words(231564, what), sixWords[what]);
        }
        due("14: OATH takes no PRIDE from 0", x.words(53, 1), 2);
        due("14: the first figure is first", x.words(35, 1), 1);
        x.mood(39, 0);
        due("14: strikes at once", x.words(266, 3), 1);
        due("14: strikes at once", x.words(266, 2), 2);
        feels("14: nothing is changed", x, 39, 0, 0, 0);
        x.say(5);
        due("14: not OUT", x.words(111, 3), 0);
        due("14: not OUT", x.words(111, 0), 41);
        due("14: not OUT", x.words(111, 2), 2);
        int[] bad = {-1, 7, 8, 9, 10, 101, 117, 1000000000, 1111111111, Integer.MAX_VALUE, Integer.MIN_VALUE};
        for (int row : bad) {
            due("14: row " + row, x.words(row, 0), -2);
        }
        due("14: what 4", x.words(1, 4), -2);
        due("14: what -1", x.words(1, -1), -2);
        statusIs("14:", x, bad.length + 2, 0, 0);
    }

    private static void fewest() {
        JarSpirit x = new JarSpirit();
        due("15: fewest", x.fewest(-1), 3);
        for (int i = 0; i < 3; i++) {
            due("15: word " + i, x.fewest(i), 1);
        }
        due("15: not so many", x.fewest(3), -5);
        due("15: not so many", x.fewest(Integer.MAX_VALUE), -5);
        due("15: BAD", x.fewest(-2), -10);
        x.mood(39, 8);
        int[] calm = {0, 1};
        due("15: PLEA ahead of DOUBT", x.fewest(-1), 2);
        for (int i = 0; i < 2; i++) {
            due("15: PLEA ahead of DOUBT, " + i, x.fewest(i), calm[i]);
        }
        x.jar(0);
        x.bound(40, 36);
        due("15: twelve", x.fewest(-1), 12);
        due("15: twelve, last", x.fewest(11), 1);
        x.bound(40, 37);
        due("15: none", x.fewest(-1), -1);
        due("15: none, whatever i is", x.fewest(5), -1);
        x.jar(3);
        x.mood(39, 9);
        int[] liar = {4, 4, 4, 1};
        due("15: a LIAR", x.fewest(-1), 4);
        for (int i = 0; i < 4; i++) {
            due("15: a LIAR, " + i, x.fewest(i), liar[i]);
        }
        x.jar(0);
        x.mood(0, 9);
        x.say(1);
        due("15: IN", x.fewest(-1), 0);
        due("15: IN", x.fewest(0), -5);
        x.jar(0);
        x.mood(39, 0);
        x.say(5);
        due("15: STRUCK", x.fewest(-1), -1);
        statusIs("15:", x, 1, 0, 0);
    }

    private static void delay() {
        JarSpirit x = new JarSpirit();
        for (int which = 0; which < 2; which++) {
            due("16: delay", x.delay(which, -1), 12);
            for (int i = 0; i < 12; i++) {
                due("16: word " + i, x.delay(which, i), 0);
            }
            due("16: not so many", x.delay(which, 12), -5);
        }
        due("16: BAD", x.delay(2, 0), -10);
        due("16: BAD", x.delay(-1, 0), -10);
        due("16: BAD", x.delay(0, -2), -10);
        x.mood(0, 9);
        x.say(1);
        due("16: IN", x.delay(0, -1), 0);
        due("16: IN", x.delay(0, 0), -5);
        x.jar(0);
        x.mood(39, 0);
        x.say(5);
        due("16: STRUCK", x.delay(1, -1), 0);
        statusIs("16:", x, 3, 0, 0);
    }

    /** One whose ANGER is WRATH or more, though he is OUT, as undo may leave him. */
    private static void delayBehindUndo() {
        JarSpirit x = new JarSpirit();
        x.say(0);
        x.mood(0, 0);
        x.bound(18, 9);
        x.undo();
        feels("16: angry but OUT", x, 20, 0, 0, 0);
        due("16: OATH alone saves", x.delay(0, -1), 12);
        due("16: OATH is first", x.delay(0, 0), 4);
        due("16: PLEA is next", x.delay(0, 1), 0);
        due("16: without TALE, OATH", x.delay(1, -1), 0);
        due("16: none", x.delay(1, 0), -5);
        int[] row = {4, 4, 1, 1, 1};
        due("15: fewest of an angry one", x.fewest(-1), 5);
        for (int i = 0; i < row.length; i++) {
            due("15: fewest of an angry one, " + i, x.fewest(i), row[i]);
        }
    }

    private static void strikes() {
        JarSpirit x = new JarSpirit();
        due("17: SILENCE", x.strikes(5), 10);
        due("17: DOUBT puts him IN", x.strikes(1), -1);
        due("17: PLEA", x.strikes(0), -1);
        x.bound(40, 99);
        due("17: DOUBT", x.strikes(1), 20);
        x.jar(1);
        x.mood(0, 0);
        x.bound(60, 9);
        due("17: in 60", x.strikes(5), 60);
        x.bound(61, 9);
        due("17: not in 60", x.strikes(5), -1);
        x.jar(4);
        x.bound(24, 9);
        due("17: SLEEPY", x.strikes(5), 7);
        x.say(0);
        due("17: SLEEPY, asleep", x.strikes(5), 8);
        x.jar(0);
        x.mood(39, 0);
        x.say(5);
        due("17: not OUT", x.strikes(5), -1);
        due("17: BAD", x.strikes(6), -2);
        due("17: BAD", x.strikes(-1), -2);
    }

    private static void since() {
        JarSpirit x = new JarSpirit();
        x.vow(7, 0);
        x.vow(3, 1);
        int[] dues = {129, 10, 4, 0, 112};
        for (int v = 0; v < 5; v++) {
            due("18: since " + v, x.since(v), dues[v]);
        }
        due("18: 5", x.since(5), -2);
        due("18: -1", x.since(-1), -2);
    }

    private static void cast() {
        JarSpirit x = new JarSpirit();
        for (int v = 0; v < 5; v++) {
            due("19: cast " + v, x.cast(v), v);
        }
        x.vow(6, 3);
        due("19: wishes", x.cast(3), 3);
        due("19: death", x.cast(4), 7);
        x.vow(0, 4);
        due("19: an earlier one does not count", x.cast(4), 7);
        x.vow(7, 2);
        due("19: none", x.cast(3), -1);
        due("19: a crown", x.cast(2), 2);
        due("19: nothing", x.cast(0), 0);
        due("19: 5", x.cast(5), -2);
        due("19: -1", x.cast(-1), -2);
    }

    private static void reward() {
        JarSpirit x = new JarSpirit();
        due("20: reward", x.reward(0), 1);
        fraction("20: all", x, -5, 4);
        x.reward(3);
        fraction("20: from 3", x, -13, 5);
        x.reward(7);
        fraction("20: the last", x, -4, 1);
        x.vow(7, 0);
        x.reward(7);
        fraction("20: nothing", x, 0, 1);
        x.vow(7, 3);
        x.vow(6, 1);
        x.reward(6);
        fraction("20: lowest terms", x, 2, 1);
        due("20: 8", x.reward(8), -2);
        due("20: -1", x.reward(-1), -2);
        fraction("20: refused", x, 2, 1);
    }

    private static void noteAndForget() {
        JarSpirit x = new JarSpirit();
        due("22: none", x.forget(), 0);
        due("21: least", x.note(0, 0, -20, -20), 1);
        due("21: most", x.note(5, 99, 20, 20), 2);
        int[][] bad = {{6, 0, 0, 0}, {-1, 0, 0, 0}, {0, 100, 0, 0}, {0, -1, 0, 0},
            {0, 0, 21, 0}, {0, 0, -21, 0}, {0, 0, 0, 21}, {0, 0, 0, -21}};
        for (int[] n : bad) {
            due("21: BAD", x.note(n[0], n[1], n[2], n[3]), -2);
        }
        for (int i = 3; i <= 6; i++) {
            due("21: note", x.note(0, 0, 0, 0), i);
        }
        due("21: FULL", x.note(0, 0, 0, 0), -4);
        due("21: BAD ahead of FULL", x.note(6, 0, 0, 0), -2);
        due("21: how many", x.count(1), 6);
        statusIs("21:", x, 9, 0, 1);
        due("22: forget", x.forget(), 6);
        due("22: again", x.forget(), 0);
        due("22: no NOTES", x.is(), 63);
    }

    private static void isOf() {
        JarSpirit x = new JarSpirit();
        due("23: no NOTES", x.is(), 63);
        x.note(1, 0, 0, 3);
        due("23: DOUBT by 0, 3", x.is(), 2 + 4 + 16);
        x.note(2, 2, 0, 2);
        due("23: PRAISE by 0, 2", x.is(), 2 + 16);
        x.note(2, 3, 0, 0);
        due("23: the sleeper", x.is(), 16);
        x.note(2, 5, 0, 2);
        due("23: none", x.is(), 0);
        x.forget();
        x.note(4, 0, -8, 0);
        due("23: TWO", x.is(), 32);
        x.forget();
        x.note(4, 7, -3, 1);
        due("23: LIAR", x.is(), 8);
        x.forget();
        x.mood(0, 0);
        x.note(0, 0, 0, 0);
        due("23: it is not kept from 0", x.is(), 2 + 16);
    }

    private static void next() {
        JarSpirit x = new JarSpirit();
        due("24: all KINDS", x.next(), 0);
        x.note(1, 0, 0, 3);
        due("24: SLOW, GRATEFUL, SLEEPY", x.next(), 0);
        x.note(2, 2, 0, 2);
        due("24: alike whatever is said", x.next(), 0);
        x.say(0);
        due("24: he sleeps now, PLEA is alike", x.next(), 1);
        x.forget();
        x.note(0, 0, -1, 0);
        due("24: PLAIN, LIAR", x.next(), 1);
        x.note(0, 0, 5, 5);
        due("24: none", x.next(), -1);
    }

    private static void lie() {
        JarSpirit x = new JarSpirit();
        for (int w = 0; w < 6; w++) {
            due("25: OUT all the same", x.lie(w), 15);
        }
        x.mood(0, 8);
        due("25: moved he is IN", x.lie(1), 12);
        x.mood(0, 9);
        due("25: IN anyway", x.lie(1), 5);
        x.mood(39, 0);
        due("25: SILENCE strikes", x.lie(5), 10);
        x.jar(3);
        x.mood(0, 9);
        due("25: a LIAR is moved away", x.lie(1), 3);
        due("25: BAD", x.lie(6), -2);
        due("25: BAD", x.lie(-1), -2);
        x.mood(0, 20);
        x.say(1);
        due("25: NO", x.lie(0), -3);
        due("25: BAD ahead of NO", x.lie(7), -2);
    }

    private static void odds() {
        JarSpirit x = new JarSpirit();
        due("26: odds", x.odds(222, 5), 1);
        fraction("26: all three", x, 1, 8);
        x.odds(2222, 5);
        fraction("26: three of four", x, 5, 16);
        x.odds(2222222, 10);
        fraction("26: sure", x, 1, 1);
        x.odds(2222222, 0);
        fraction("26: never", x, 0, 1);
        x.odds(0, 5);
        fraction("26: no WORDS", x, 0, 1);
        x.jar(4);
        x.mood(0, 6);
        x.odds(12, 5);
        fraction("26: what is not heard is not said", x, 1, 4);
        x.jar(0);
        x.mood(0, 9);
        x.say(1);
        x.odds(0, 0);
        fraction("26: IN", x, 1, 1);
        x.odds(1, 3);
        fraction("26: IN", x, 1, 1);
        int[] bad = {-1, 7, 20, 11111111, 10000000};
        for (int row : bad) {
            due("26: row " + row, x.odds(row, 5), -2);
        }
        due("26: c 11", x.odds(1, 11), -2);
        due("26: c -1", x.odds(1, -1), -2);
        fraction("26: refused", x, 1, 1);
    }

    private static void jars() {
        JarSpirit x = new JarSpirit();
        x.bound(21, 1);
        due("27: none", x.jars(0, 0), 0);
        due("27: STRUCK or IN", x.jars(0, 1), byHand(0, 1));
        for (int n = 0; n <= 60; n += 12) {
            due("27: " + n, x.jars(999999, n), byHand(999999, n));
        }
        feels("27: nothing is changed", x, 20, 0, 0, 0);
        due("27: SEED -1", x.jars(-1, 1), -2);
        due("27: SEED 1000000", x.jars(1000000, 1), -2);
        due("27: n -1", x.jars(0, -1), -2);
        due("27: n 61", x.jars(0, 61), -2);
        x.jar(0);
        x.mood(0, 9);
        x.say(1);
        due("27: IN", x.jars(3, 60), 60);
        x.jar(0);
        x.mood(39, 0);
        x.say(5);
        due("27: STRUCK", x.jars(3, 60), 0);
    }

    /** JARS of a PLAIN one with ANGER 20, PRIDE 0, WRATH 21, HEIGHT 1. */
    private static int byHand(long seed, int n) {
        int[] anger = {-1, 1, 0, -2, -3, 2};
        int[] pride = {0, 3, 2, 0, -1, 0};
        long x = seed;
        int ins = 0;
        for (int jar = 0; jar < n; jar++) {
            int a = 20;
            int p = 0;
            for (int said = 0; said < 20; said++) {
                x = (x * 1103515245L + 12345L) % 2147483648L;
                int w = (int) (x / 65536 % 6);
                a = Math.max(0, a + anger[w]);
                p = Math.max(0, p + pride[w]);
                if (a >= 21) {
                    break;
                }
                if (w == 1) {
                    ins++;
                    break;
                }
            }
        }
        return ins;
    }

    private static void part() {
        JarSpirit x = new JarSpirit();
        x.odds(222, 4);
        due("28: above", x.part(0), 8);
        due("28: below", x.part(1), 125);
        due("28: 2", x.part(2), -2);
        due("28: -1", x.part(-1), -2);
        statusIs("28:", x, 2, 0, 0);
    }

    private static void images() {
        JarSpirit x = new JarSpirit();
        due("29: BAD", x.image(2), -2);
        due("29: BAD", x.image(-1), -2);
        due("30: BAD", x.from(2), -2);
        due("30: BAD", x.from(-1), -2);
        due("30: NO", x.from(0), -3);
        x.bound(50, 60);
        x.vow(0, 3);
        x.note(1, 2, 3, 4);
        x.say(5);
        x.say(2);
        due("29: image", x.image(0), 1);
        due("30: the other is none", x.from(1), -3);
        x.jar(2);
        x.vow(0, 1);
        x.say(0);
        due("29: image 1", x.image(1), 1);
        type(x, "ab");
        x.odds(0, 0);
        x.reward(7);
        due("30: from", x.from(0), 1);
        due("30: KIND", x.now(0), 0);
        feels("30: from", x, 22, 2, 2, 0);
        due("30: WRATH", x.now(3), 50);
        due("30: HEIGHT", x.now(4), 60);
        due("30: VOWS", x.since(3), 9);
        due("30: NOTES", x.count(1), 1);
        due("30: THE TEXT stays", x.count(3), 2);
        fraction("30: stays", x, -4, 1);
        statusIs("30: stays", x, 4, 2, 0);
        due("30: what may be undone", x.undo(), 1);
        due("30: what may be undone", x.undo(), 0);
        due("30: what may be undone", x.undo(), -3);
        x.say(0);
        due("30: an IMAGE stays as it was kept", x.from(0), 1);
        feels("30: again", x, 22, 2, 2, 0);
        due("30: the other", x.from(1), 1);
        due("30: the other's KIND", x.now(0), 2);
        due("29: kept anew", x.image(0), 1);
        x.jar(0);
        x.from(0);
        due("29: kept anew", x.now(0), 2);
    }

    private static void status() {
        JarSpirit x = new JarSpirit();
        statusIs("31: new", x, 0, 0, 0);
        x.jar(9);
        x.open();
        for (int i = 0; i < 7; i++) {
            x.note(0, 0, 0, 0);
        }
        x.fewest(-5);
        x.delay(3, 0);
        x.moves(0, 5);
        statusIs("31:", x, 4, 1, 1);
        due("31: another", x.status(3), -1);
        due("31: another", x.status(-1), -1);
        statusIs("31: another counts as BAD", x, 6, 1, 1);
        due("31: ANGER is WRATH", x.mood(40, 0), -3);
        due("31: WRATH is ANGER", x.bound(20, 1), -3);
        due("31: nothing to undo", x.undo(), -3);
        due("31: no IMAGE", x.from(0), -3);
        statusIs("31: each NO counts", x, 6, 5, 1);
        x.mood(0, 9);
        x.say(1);
        due("31: said to one who is IN", x.say(1), -3);
        due("31: a lie to one who is IN", x.lie(1), -3);
        for (int i = 0; i <= 150; i++) {
            x.type(';');
        }
        statusIs("31: FULL of type, too", x, 6, 7, 2);
        x.clear();
        x.undo();
        x.fewest(12);
        x.delay(0, 12);
        x.bound(99, 99);
        x.fewest(0);
        x.read();
        x.cast(4);
        statusIs("31: these are not refused", x, 6, 7, 2);
    }

    private static void count() {
        JarSpirit x = new JarSpirit();
        for (int i = 0; i < 9; i++) {
            x.say(0);
        }
        x.note(0, 0, 0, 0);
        x.note(0, 0, 0, 0);
        type(x, "jar");
        int[] dues = {9, 2, 8, 3};
        for (int what = 0; what < 4; what++) {
            due("32: count " + what, x.count(what), dues[what]);
        }
        due("32: 4", x.count(4), -2);
        due("32: -1", x.count(-1), -2);
    }

    private static void digest() {
        JarSpirit x = new JarSpirit();
        due("33: new", x.digest(), digestOf(0, 0, 0, 0, 0, 20, 0, 40, 9, 0, 0, 1, 2, 3, 4, 4, 4, 4, 0, 1));
        x.say(1);
        x.note(1, 2, -3, 4);
        x.note(5, 99, 20, -20);
        x.vow(7, 1);
        type(x, "xy");
        x.reward(0);
        due("33: then", x.digest(), digestOf(1, 2, 1, 2, 0, 21, 3, 40, 9, 0,
            0, 1, 2, 3, 4, 4, 4, 1, 1, 2, -3, 4, 5, 99, 20, -20, -5, 8));
        statusIs("33:", x, 0, 0, 0);
    }
}
