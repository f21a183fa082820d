import java.util.function.ToLongFunction;

/** Promise by promise: the last values that are taken, the empty and the full, and that nothing else is changed. */
public final class BoundaryTest extends Check {
    public static void main(String[] args) {
        newObject();
        jarOfFirstAndLastKind();
        moodAtItsEdges();
        boundAtItsEdges();
        vowAtItsEdges();
        typeFrom1To150();
        clearOfNoneAndAll();
        readOfLeastAndMost();
        readTakesThePlaceOfAllBut();
        faultLeavesAll();
        sayOfEachWord();
        openOfLeastAndMostPride();
        undoOf8();
        undoTakesALidToo();
        undoBehindIn();
        nowAndMovesAtTheirEdges();
        asksChangeNothing();
        bywordsOfLeastAndMost();
        sinceOfNoneAndAll();
        castUpFromFirstAndLast();
        rewardFromFirstAndLast();
        notesFrom1To6();
        forgetOfNoneAndAll();
        isOfNoneAndAll();
        nextOfLikeOnes();
        lieOfEveryPair();
        oddsAtTheirEdges();
        jarsAtTheirEdges();
        jarsSay20AtMost();
        jarsOfOneNotOut();
        imagesAtTheirEdges();
        imagesKeepNoImages();
        imagesAreNotChangedByOthers();
        statusAtItsEdges();
        countFrom0ToMost();
        digestOfNoneAndAll();
        calls512();
        end("every promise holds at its edges");
    }

    /** Promise 1: nothing said, kept, typed, noted, refused, to undo. */
    private static void newObject() {
        changesNothing("1: asked for IS", JarSpirit::new, x -> x.is(), 63);
        changesNothing("1: asked for bytes", JarSpirit::new, x -> x.count(3), 0);
        statusIs("1: none refused", new JarSpirit(), 0, 0, 0);
        due("1: digest", new JarSpirit().digest(), new JarSpirit().digest());
        JarSpirit other = full();
        due("1: one is apart from another", new JarSpirit().count(3), 0);
        due("1: one is apart from another", other.count(3), 150);
    }

    /** "KIND, all else as at first (but for IMAGES, THE TEXT, THE FRACTION, STATUS): how many WORDS were said". */
    private static void jarOfFirstAndLastKind() {
        for (int kind = 0; kind <= 5; kind++) {
            JarSpirit x = rich();
            due("2: jar " + kind, x.jar(kind), 3);
            due("2: KIND", x.now(0), kind);
            due("2: jar again, none said", x.jar(kind), 0);
            fraction("2: THE FRACTION", x, -1, 1);
            statusIs("2: STATUS", x, 1, 1, 1);
            due("2: THE TEXT", x.count(3), 29);
            due("2: IMAGE 0", x.from(0), 1);
            feels("2: IMAGE 0", x, 20, 2, 2, OUT);
            due("2: IMAGE 1", x.from(1), 1);
            feels("2: IMAGE 1", x, 20, 3, 1, OUT);
            due("2: THE TEXT is read", x.read(), 4);
            due("2: THE TEXT's KIND", x.now(0), LIAR);
        }
        due("2: of one who is IN", richAndIn().jar(0), 4);
        due("2: of one who has STRUCK", richAndStruck().jar(0), 4);
        JarSpirit x = richAndStruck();
        x.jar(PLAIN);
        due("2: one who had STRUCK is OUT", x.now(6), OUT);
    }

    private static void moodAtItsEdges() {
        int[][] moods = {{0, 0}, {0, 99}, {49, 0}, {49, 99}};
        for (int[] m : moods) {
            JarSpirit x = rich();
            due("3: mood " + m[0] + " " + m[1], x.mood(m[0], m[1]), 1);
            feels("3: mood", x, m[0], m[1], 3, OUT);
            x.mood(6, 25);
            alike("3: mood and back", x, rich());
        }
        due("3: below WRATH 99", jarOf(PLAIN, 0, 0, 99, 9).mood(98, 0), 1);
        due("3: below WRATH 1", jarOf(PLAIN, 0, 0, 1, 9).mood(0, 0), 1);
        JarSpirit in = richAndIn();
        due("3: of one who is IN", in.mood(49, 0), 1);
        feels("3: IN still", in, 49, 0, 4, IN);
        JarSpirit struck = richAndStruck();
        due("3: of one who has STRUCK", struck.mood(49, 0), 1);
        feels("3: STRUCK still", struck, 49, 0, 4, STRUCK);
    }

    private static void boundAtItsEdges() {
        int[][] bounds = {{7, 1}, {7, 99}, {99, 1}, {99, 99}};
        for (int[] b : bounds) {
            JarSpirit x = rich();
            due("4: bound " + b[0] + " " + b[1], x.bound(b[0], b[1]), 1);
            due("4: WRATH", x.now(3), b[0]);
            due("4: HEIGHT", x.now(4), b[1]);
            feels("4: bound leaves", x, 6, 25, 3, OUT);
            x.bound(50, 60);
            alike("4: bound and back", x, rich());
        }
        JarSpirit calm = jarOf(PLAIN, 0, 99, 40, 9);
        due("4: WRATH 1, ANGER 0", calm.bound(1, 1), 1);
        due("4: PRIDE above HEIGHT brings none IN", calm.now(6), OUT);
        JarSpirit angry = jarOf(PLAIN, 98, 0, 99, 9);
        due("4: WRATH 99, ANGER 98", angry.bound(99, 99), 1);
        JarSpirit struck = richAndStruck();
        due("4: WRATH above ANGER of one who has STRUCK", struck.bound(52, 1), 1);
        due("4: STRUCK still", struck.now(6), STRUCK);
        JarSpirit in = richAndIn();
        due("4: HEIGHT above PRIDE of one who is IN", in.bound(11, 99), 1);
        due("4: IN still", in.now(6), IN);
    }

    private static void vowAtItsEdges() {
        int[] first = {3, 1, 2, 3, 4, 4, 4, 1};
        for (int c = 0; c < 8; c++) {
            for (int v = 0; v <= 4; v++) {
                JarSpirit x = rich();
                due("5: vow " + c + " " + v, x.vow(c, v), first[c]);
                due("5: bit of " + c, x.since(v) >> c & 1, 1);
                due("5: what it was", x.vow(c, first[c]), v);
                alike("5: vow and back", x, rich());
            }
        }
    }

    /** "A byte (0 .. 127) comes behind THE TEXT: how many it has"; "150 bytes at most". */
    private static void typeFrom1To150() {
        JarSpirit x = new JarSpirit();
        due("6: byte 0", x.type(0), 1);
        for (int i = 2; i <= 149; i++) {
            due("6: byte " + i, x.type(i % 128), i);
        }
        due("6: byte 127, the 150th", x.type(127), 150);
        due("6: none more", x.type(127), FULL);
        due("6: bytes", x.count(3), 150);
        due("6: byte 0 begins no TOKEN", x.read(), -10);
        x = rich();
        x.type('j');
        due("6: it comes behind", x.read(), -39);
        x = rich();
        x.type(' ');
        due("6: a blank behind changes what is read by nothing", x.read(), 4);
    }

    private static void clearOfNoneAndAll() {
        due("7: of none", new JarSpirit().clear(), 0);
        JarSpirit x = full();
        due("7: of all", x.clear(), 150);
        due("7: of none then", x.clear(), 0);
        due("7: empty", x.count(3), 0);
        due("7: an empty one is not read", x.read(), -10);
        due("7: the first again", x.type('j'), 1);
        x = rich();
        due("7: of 29", x.clear(), 29);
        type(x, RICH_TEXT);
        alike("7: cleared and typed again", x, rich());
        x = new JarSpirit();
        x.type(0);
        due("7: of one", x.clear(), 1);
    }

    private static JarSpirit typed(String text) {
        JarSpirit x = rich();
        type(x, text);
        return x;
    }

    /** "how many ITEMS. -10 less the FAULT": 1 to 30 ITEMS, FAULTS 0 to 150. */
    private static void readOfLeastAndMost() {
        due("8: 1 ITEM", typed("jar 0;").read(), 1);
        StringBuilder most = new StringBuilder("jar0;");
        for (int i = 0; i < 29; i++) {
            most.append("say5;");
        }
        due("8: one ITEM too many (he has STRUCK)", typed(most.toString()).read(), -10 - 5 * 11 - 3);
        JarSpirit x = typed(most.toString().replace('5', '2'));
        due("8: 150 bytes", x.count(3), 150);
        due("8: 30 ITEMS", x.read(), 30);
        feels("8: 29 WORDS", x, 20, 58, 29, OUT);
        due("8: none may be undone", x.count(2), 0);
        due("8: THE TEXT is there still", x.read(), 30);
        feels("8: as before", x, 20, 58, 29, OUT);
        StringBuilder blank = new StringBuilder();
        for (int i = 0; i < 149; i++) {
            blank.append(' ');
        }
        due("8: FAULT 150", typed(blank + " ").read(), -160);
        due("8: FAULT 149", typed(blank + "x").read(), -159);
        due("8: FAULT 0", typed("x" + blank).read(), -10);
        due("8: FAULT 0 of none", typed("").read(), -10);
    }

    /** "A JAR that is read takes the place of all but IMAGES, THE TEXT, THE FRACTION, STATUS". */
    private static void readTakesThePlaceOfAllBut() {
        JarSpirit x = richAndIn();
        int text = x.count(3);
        due("8: read", x.read(), 4);
        due("8: KIND", x.now(0), LIAR);
        feels("8: mood", x, 8, 5, 1, OUT);
        due("8: WRATH as at first", x.now(3), 40);
        due("8: HEIGHT as at first", x.now(4), 9);
        int[] since = {1, 2, 0, 8, 4 + 16 + 32 + 64 + 128};
        for (int v = 0; v < since.length; v++) {
            due("8: VOWS " + v, x.since(v), since[v]);
        }
        due("8: NOTES none", x.count(1), 0);
        due("8: nothing to undo", x.count(2), 0);
        due("8: THE TEXT", x.count(3), text);
        fraction("8: THE FRACTION", x, -1, 1);
        statusIs("8: STATUS", x, 1, 1, 1);
        due("8: IMAGE 0", x.from(0), 1);
        feels("8: IMAGE 0", x, 20, 2, 2, OUT);
        due("8: IMAGE 1", x.from(1), 1);
        feels("8: IMAGE 1", x, 20, 3, 1, OUT);
    }

    /** "all stays", also what the ITEMS ahead of the FAULT told. */
    private static void faultLeavesAll() {
        String[] texts = {"", " ", "jar 1", "jar 1;mood 1 2;bound 3 4;vow 5 1;say 0;x", "jar 6;", "jar 1;say 0;jar 1;"};
        int[] faults = {0, 1, 5, 39, 4, 12};
        for (int i = 0; i < texts.length; i++) {
            String text = texts[i];
            changesNothing("8: \"" + text + "\"", () -> typed(text), x -> x.read(), -10 - faults[i]);
        }
    }

    private static void sayOfEachWord() {
        int[] anger = {19, 21, 20, 18, 17, 22};
        int[] pride = {4, 7, 6, 4, 3, 4};
        for (int w = 0; w < 6; w++) {
            JarSpirit x = jarOf(PLAIN, 20, 4, 40, 9);
            due("9: say " + w, x.say(w), OUT);
            feels("9: say " + w, x, anger[w], pride[w], 1, OUT);
            x = rich();
            x.say(w);
            x.undo();
            alike("9: said and undone " + w, x, rich());
        }
        due("9: IN", jarOf(PLAIN, 20, 6, 40, 9).say(DOUBT), IN);
        due("9: STRUCK", jarOf(PLAIN, 39, 6, 40, 9).say(DOUBT), STRUCK);
    }

    /** "The lid is taken off: he is OUT, his PRIDE is 0: the PRIDE that he had." */
    private static void openOfLeastAndMostPride() {
        for (int pride : new int[] {0, 1, 62, 99}) {
            JarSpirit x = richAndIn();
            x.mood(10, pride);
            due("10: PRIDE " + pride, x.open(), pride);
            feels("10: OUT", x, 10, 0, 4, OUT);
            due("10: one more may be undone", x.count(2), 5);
            due("10: again", x.open(), NO);
            due("10: a WORD may be said", x.say(PLEA), OUT);
        }
        JarSpirit x = richAndIn();
        x.open();
        x.undo();
        alike("10: taken off and undone", x, richAndIn());
    }

    /** "(8 at most)": the oldest is gone. */
    private static void undoOf8() {
        for (int words = 0; words <= 10; words++) {
            JarSpirit x = new JarSpirit();
            for (int i = 0; i < words; i++) {
                x.say(PLEA);
            }
            int undos = Math.min(8, words);
            due("11: may be undone behind " + words, x.count(2), undos);
            for (int i = 1; i <= undos; i++) {
                due("11: WORDS said then", x.undo(), words - i);
                feels("11: undone", x, 20 - words + i, 0, words - i, OUT);
                due("11: how many are left", x.count(2), undos - i);
            }
            due("11: none is left", x.undo(), NO);
        }
    }

    /** The lid counts among the 8; "what he is as ahead of the last WORD, lid taken off". */
    private static void undoTakesALidToo() {
        JarSpirit x = jarOf(PLAIN, 0, 9, 40, 9);
        x.say(DOUBT);
        x.open();
        for (int i = 0; i < 6; i++) {
            x.say(PLEA);
        }
        due("11: 8", x.count(2), 8);
        x.say(PLEA);
        due("11: 8 still", x.count(2), 8);
        for (int said = 7; said >= 1; said--) {
            due("11: to " + said, x.undo(), said);
            feels("11: OUT", x, said == 1 ? 1 : 0, 0, said, OUT);
        }
        due("11: the lid is on again", x.undo(), 1);
        feels("11: IN", x, 1, 12, 1, IN);
        due("11: the DOUBT is too old", x.undo(), NO);
    }

    private static void undoBehindIn() {
        JarSpirit x = richAndIn();
        due("11: the DOUBT", x.undo(), 3);
        feels("11: OUT again", x, 10, 59, 3, OUT);
        x = richAndStruck();
        due("11: the SILENCE", x.undo(), 3);
        feels("11: he has not STRUCK", x, 49, 5, 3, OUT);
        x = full();
        x.vow(1, 4);
        x.undo();
        due("11: VOWS stay", x.since(4) >> 1 & 1, 1);
        due("11: NOTES stay", x.count(1), 6);
        due("11: THE TEXT stays", x.count(3), 150);
        fraction("11: THE FRACTION stays", x, -1, 1);
    }

    private static void nowAndMovesAtTheirEdges() {
        int[] now = {TWO, 6, 25, 50, 60, 3, OUT};
        for (int i = 0; i < now.length; i++) {
            int what = i;
            changesNothing("12: now " + what, Check::rich, x -> x.now(what), now[what]);
        }
        changesNothing("12: IN", Check::richAndIn, x -> x.now(6), IN);
        changesNothing("12: STRUCK", Check::richAndStruck, x -> x.now(6), STRUCK);
        changesNothing("13: PLEA, ANGER", Check::rich, x -> x.moves(0, 0), -4);
        changesNothing("13: PLEA, PRIDE", Check::rich, x -> x.moves(0, 1), 1);
        changesNothing("13: SILENCE, ANGER", Check::rich, x -> x.moves(5, 0), 2);
        changesNothing("13: SILENCE, PRIDE", Check::rich, x -> x.moves(5, 1), 1);
        changesNothing("13: of one who is IN", Check::richAndIn, x -> x.moves(4, 0), -8);
        changesNothing("13: of one who has STRUCK", Check::richAndStruck, x -> x.moves(1, 1), 4);
        JarSpirit calm = jarOf(TWO, 0, 99, 40, 9);
        due("13: it is not kept from 0", calm.moves(OATH, 0), -8);
        due("13: it is not kept to 99", calm.moves(DOUBT, 1), 4);
    }

    private static void asks(String what, ToLongFunction<JarSpirit> call) {
        changesNothing(what + " of a new one", JarSpirit::new, call, call.applyAsLong(new JarSpirit()));
        changesNothing(what + " of one who is OUT", Check::rich, call, call.applyAsLong(rich()));
        changesNothing(what + " of one who is IN", Check::richAndIn, call, call.applyAsLong(richAndIn()));
        changesNothing(what + " of one who has STRUCK", Check::richAndStruck, call, call.applyAsLong(richAndStruck()));
    }

    /** "(Nothing is changed by these.)" */
    private static void asksChangeNothing() {
        for (int what = 0; what < 4; what++) {
            int part = what;
            asks("14: words 0, " + what, x -> x.words(0, part));
            asks("14: words 222222222, " + what, x -> x.words(222222222, part));
            asks("14: words 666666666, " + what, x -> x.words(666666666, part));
        }
        for (int i = -1; i <= 12; i++) {
            int place = i;
            asks("15: fewest " + i, x -> x.fewest(place));
            asks("16: delay 0 " + i, x -> x.delay(0, place));
            asks("16: delay 1 " + i, x -> x.delay(1, place));
        }
        for (int w = 0; w < 6; w++) {
            int word = w;
            asks("17: strikes " + w, x -> x.strikes(word));
            changesNothing("25: lie " + w, Check::rich, x -> x.lie(word), rich().lie(word));
        }
        for (int v = 0; v <= 4; v++) {
            int vow = v;
            asks("18: since " + v, x -> x.since(vow));
            asks("19: cast " + v, x -> x.cast(vow));
        }
        asks("23: is", x -> x.is());
        asks("24: next", x -> x.next());
        asks("27: jars", x -> x.jars(999999, 60));
        asks("28: above", x -> x.part(0));
        asks("28: below", x -> x.part(1));
        for (int what = 0; what < 4; what++) {
            int which = what;
            asks("32: count " + what, x -> x.count(which));
            asks("31: status " + what, x -> x.status(which % 3));
        }
        asks("33: digest", x -> x.digest());
    }

    /** Rows of 1 and of 9 figures, of 1 and of 6. */
    private static void bywordsOfLeastAndMost() {
        JarSpirit x = jarOf(PLAIN, 20, 0, 40, 9);
        int[][] rows = {{0, 20, 0, OUT, 0}, {1, 19, 0, OUT, 1}, {6, 22, 0, OUT, 1}, {11, 18, 0, OUT, 2},
            {66, 24, 0, OUT, 2}, {111111111, 11, 0, OUT, 9}, {666666666, 38, 0, OUT, 9}, {333333333, 20, 18, OUT, 9},
            {123456, 17, 4, OUT, 6}, {654321, 17, 5, OUT, 6}};
        for (int[] r : rows) {
            for (int what = 0; what < 4; what++) {
                due("14: words " + r[0] + " " + what, x.words(r[0], what), r[1 + what]);
            }
        }
    }

    private static JarSpirit vowed(int... vows) {
        JarSpirit x = rich();
        for (int c = 0; c < vows.length; c++) {
            x.vow(c, vows[c]);
        }
        return x;
    }

    private static void sinceOfNoneAndAll() {
        for (int v = 0; v <= 4; v++) {
            JarSpirit x = vowed(v, v, v, v, v, v, v, v);
            for (int other = 0; other <= 4; other++) {
                due("18: all vowed " + v + ", since " + other, x.since(other), other == v ? 255 : 0);
            }
        }
        JarSpirit x = vowed(4, 0, 0, 0, 0, 0, 0, 0);
        due("18: the first CENTURY", x.since(4), 1);
        due("18: all but the first", x.since(0), 254);
        x = vowed(0, 0, 0, 0, 0, 0, 0, 4);
        due("18: the last CENTURY", x.since(4), 128);
    }

    private static void castUpFromFirstAndLast() {
        int[][] vows = {{0, 0, 0, 0, 0, 0, 0, 0}, {4, 4, 4, 4, 4, 4, 4, 4}, {4, 4, 4, 4, 4, 4, 4, 3},
            {3, 4, 4, 4, 4, 4, 4, 4}, {4, 4, 4, 4, 4, 4, 3, 4}, {0, 1, 2, 3, 4, 3, 2, 1}};
        int[][] dues = {{0, -1, -1, -1, -1}, {0, 0, 0, 0, 0}, {0, 0, 0, 0, -1}, {0, 0, 0, 0, 1}, {0, 0, 0, 0, 7},
            {0, 1, -1, -1, -1}};
        for (int i = 0; i < vows.length; i++) {
            JarSpirit x = vowed(vows[i]);
            for (int v = 0; v <= 4; v++) {
                due("19: vows " + i + ", cast " + v, x.cast(v), dues[i][v]);
            }
        }
    }

    /** "in one of CENTURIES c to 7 .. (death as 0 less 4)". */
    private static void rewardFromFirstAndLast() {
        changesFraction("20: all, wishes", () -> vowed(3, 3, 3, 3, 3, 3, 3, 3), x -> x.reward(0), 3, 1);
        changesFraction("20: all, death", () -> vowed(4, 4, 4, 4, 4, 4, 4, 4), x -> x.reward(0), -4, 1);
        changesFraction("20: all, nothing", () -> vowed(0, 0, 0, 0, 0, 0, 0, 0), x -> x.reward(0), 0, 1);
        changesFraction("20: the first of 8", () -> vowed(1, 0, 0, 0, 0, 0, 0, 0), x -> x.reward(0), 1, 8);
        changesFraction("20: death the first of 8", () -> vowed(4, 0, 0, 0, 0, 0, 0, 0), x -> x.reward(0), -1, 2);
        changesFraction("20: not from the first", () -> vowed(1, 0, 0, 0, 0, 0, 0, 0), x -> x.reward(1), 0, 1);
        changesFraction("20: the second of 7", () -> vowed(4, 2, 0, 0, 0, 0, 0, 0), x -> x.reward(1), 2, 7);
        changesFraction("20: the last", () -> vowed(4, 4, 4, 4, 4, 4, 4, 3), x -> x.reward(7), 3, 1);
        changesFraction("20: the last two", () -> vowed(4, 4, 4, 4, 4, 4, 4, 3), x -> x.reward(6), -1, 2);
        changesFraction("20: death and riches", () -> vowed(1, 1, 1, 1, 4, 0, 0, 0), x -> x.reward(0), 0, 1);
    }

    /** "A NOTE: how many there are"; 6 at most; n 0 .. 99, moves -20 .. 20. */
    private static void notesFrom1To6() {
        int[][] edges = {{0, 0, 0, 0}, {5, 99, 20, 20}, {0, 99, -20, 20}, {5, 0, 20, -20}, {0, 0, -20, -20}, {3, 50, 0, 0}};
        JarSpirit x = new JarSpirit();
        for (int i = 0; i < edges.length; i++) {
            due("21: NOTE " + (i + 1), x.note(edges[i][0], edges[i][1], edges[i][2], edges[i][3]), i + 1);
            due("21: how many", x.count(1), i + 1);
        }
        due("21: digest has all six", x.digest(), digestOf(0, 6, 0, 0, 0, 20, 0, 40, 9, 0, 0, 1, 2, 3, 4, 4, 4, 4,
            0, 0, 0, 0, 5, 99, 20, 20, 0, 99, -20, 20, 5, 0, 20, -20, 0, 0, -20, -20, 3, 50, 0, 0, 0, 1));
        due("21: a seventh", x.note(0, 0, 0, 0), FULL);
        due("22: forget", x.forget(), 6);
        due("21: the first again", x.note(1, 1, 1, 1), 1);
        due("21: the old ones are gone", x.digest(),
            digestOf(0, 1, 0, 0, 0, 20, 0, 40, 9, 0, 0, 1, 2, 3, 4, 4, 4, 4, 1, 1, 1, 1, 0, 1));
    }

    private static void forgetOfNoneAndAll() {
        due("22: of none", new JarSpirit().forget(), 0);
        due("22: of two", rich().forget(), 2);
        JarSpirit x = full();
        due("22: of six", x.forget(), 6);
        due("22: of none then", x.forget(), 0);
        x.note(1, 2, 3, 4);
        x.note(5, 99, 20, -20);
        for (int i = 0; i < 4; i++) {
            x.note(i, i, i, i);
        }
        alike("22: forgotten and noted again", x, full());
    }

    private static JarSpirit noted(int... note) {
        JarSpirit x = new JarSpirit();
        for (int i = 0; i + 3 < note.length; i += 4) {
            x.note(note[i], note[i + 1], note[i + 2], note[i + 3]);
        }
        return x;
    }

    /** "KINDS (bits) by which all NOTES are so": of none all, each alone, none. */
    private static void isOfNoneAndAll() {
        due("23: no NOTES", new JarSpirit().is(), 63);
        due("23: PLAIN", noted(DOUBT, 0, 1, 3).is(), 1);
        due("23: SLOW", noted(DOUBT, 1, 0, 3, SILENCE, 0, 1, 0, TALE, 1, -1, 0).is(), 2);
        due("23: GRATEFUL", noted(PLEA, 0, -2, 0).is(), 4);
        due("23: LIAR", noted(DOUBT, 0, 1, -3).is(), 8);
        due("23: SLEEPY", noted(OATH, 1, 0, 0).is(), 16);
        due("23: TWO", noted(PRAISE, 0, -2, 3).is(), 32);
        due("23: none", noted(PRAISE, 0, 20, 20).is(), 0);
        due("23: the last of six is not so",
            noted(PLEA, 0, -1, 0, PLEA, 1, -1, 0, PLEA, 2, -1, 0, PLEA, 3, -1, 0, PLEA, 4, -1, 0, PLEA, 5, 0, 0).is(), 0);
        due("23: ANGER is so, PRIDE is not", noted(PLEA, 0, -1, 1).is(), 0);
        due("23: PRIDE is so, ANGER is not", noted(PLEA, 0, 1, 0).is(), 0);
        due("23: by none of the moods that are kept", noted(OATH, 0, 0, 0).is(), 0);
    }

    /** "are fewest; of like ones the first; none: no KIND". */
    private static void nextOfLikeOnes() {
        due("24: one KIND: the first WORD", noted(PLEA, 0, -2, 0).next(), PLEA);
        due("24: no KIND", noted(PLEA, 0, 20, 20).next(), NONE);
        due("24: PLAIN, LIAR: DOUBT ahead of PRAISE, OATH", noted(PLEA, 0, -1, 0).next(), DOUBT);
        JarSpirit x = noted(PLEA, 0, 0, 0);
        due("24: SLOW, SLEEPY at an even n: like ones", x.next(), PLEA);
        x.say(PLEA);
        due("24: SLOW, SLEEPY at an odd n", x.next(), DOUBT);
        x.say(PLEA);
        due("24: SLOW, SLEEPY at an even n again", x.next(), PLEA);
    }

    /** "pairs that rest": none but one of them, and all of them. */
    private static void lieOfEveryPair() {
        due("25: all", jarOf(PLAIN, 20, 0, 40, 9).lie(DOUBT), 15);
        due("25: PLEA or PLEA", jarOf(PLAIN, 39, 0, 40, 9).lie(PLEA), 15);
        due("25: w, moved (IN, OUT; IN, OUT)", jarOf(PLAIN, 20, 9, 40, 9).lie(DOUBT), 5);
        due("25: sham (IN, OUT; OUT, OUT)", jarOf(PLAIN, 20, 8, 40, 9).lie(DOUBT), 12);
        due("25: moved (OUT, OUT; IN, OUT)", jarOf(LIAR, 20, 9, 40, 9).lie(DOUBT), 3);
        due("25: PLEA (STRUCK, OUT; OUT, OUT)", jarOf(PLAIN, 38, 0, 40, 9).lie(SILENCE), 10);
        due("25: PLEA, moved (STRUCK, OUT; IN, OUT)", jarOf(PLAIN, 39, 9, 40, 9).lie(DOUBT), 2);
        due("25: SLEEPY and asleep", asleep().lie(DOUBT), 5);
        lieWithAngerAtWrath();
    }

    /** Who is OUT with ANGER of WRATH or more strikes, if he shams, and does not, if PLEA, OATH move him below. */
    private static void lieWithAngerAtWrath() {
        due("25: moved by PLEA (OUT, OUT; STRUCK, STRUCK)", angryButOut(20).lie(PLEA), 12);
        due("25: moved by PLEA alone (STRUCK, OUT; STRUCK, STRUCK)", angryButOut(20).lie(SILENCE), 12);
        due("25: moved by OATH alone (OUT, STRUCK; STRUCK, STRUCK)", angryButOut(18).lie(OATH), 12);
        due("25: STRUCK by each", angryButOut(17).lie(OATH), 15);
    }

    private static JarSpirit asleep() {
        JarSpirit x = jarOf(SLEEPY, 20, 9, 40, 9);
        x.say(PLEA);
        return x;
    }

    /** Rows of 0 to 7 figures, heard by 0 to 10 of 10. */
    private static void oddsAtTheirEdges() {
        changesFraction("26: none", () -> jarOf(PLAIN, 20, 6, 40, 9), x -> x.odds(0, 10), 0, 1);
        changesFraction("26: never heard", () -> jarOf(PLAIN, 20, 6, 40, 9), x -> x.odds(2222222, 0), 0, 1);
        changesFraction("26: always heard", () -> jarOf(PLAIN, 20, 6, 40, 9), x -> x.odds(2, 10), 1, 1);
        changesFraction("26: by 1 of 10", () -> jarOf(PLAIN, 20, 6, 40, 9), x -> x.odds(2, 1), 1, 10);
        changesFraction("26: by 9 of 10", () -> jarOf(PLAIN, 20, 6, 40, 9), x -> x.odds(2, 9), 9, 10);
        changesFraction("26: one of 7", () -> jarOf(PLAIN, 20, 6, 40, 9), x -> x.odds(2222222, 1), 5217031, 10000000);
        changesFraction("26: all of 7", () -> jarOf(PLAIN, 20, 0, 40, 20), x -> x.odds(2222222, 1), 1, 10000000);
        changesFraction("26: 8 are needed", () -> jarOf(PLAIN, 20, 0, 40, 22), x -> x.odds(2222222, 9), 0, 1);
        changesFraction("26: the last figure is 1", () -> jarOf(PLAIN, 20, 6, 40, 9), x -> x.odds(1111111, 5), 0, 1);
        changesFraction("26: IN, no row", Check::richAndIn, x -> x.odds(0, 0), 1, 1);
        changesFraction("26: IN, the longest row", Check::richAndIn, x -> x.odds(6666666, 10), 1, 1);
        changesFraction("26: STRUCK, no row", Check::richAndStruck, x -> x.odds(0, 10), 0, 1);
        changesFraction("26: STRUCK, the longest row", Check::richAndStruck, x -> x.odds(2222222, 10), 0, 1);
        changesFraction("26: he strikes first", () -> jarOf(PLAIN, 39, 6, 40, 9), x -> x.odds(6666662, 10), 0, 1);
        changesFraction("26: he strikes, if he hears", () -> jarOf(PLAIN, 38, 6, 40, 9), x -> x.odds(62, 5), 1, 4);
    }

    /** JARS, told apart from the program: a PLAIN one, 20 WORDS at most. */
    private static int jarsByHand(int angerNow, int prideNow, int wrath, int height, int seed, int n, int most) {
        int[] anger = {-1, 1, 0, -2, -3, 2};
        int[] pride = {0, 3, 2, 0, -1, 0};
        long x = seed;
        int ins = 0;
        for (int jar = 0; jar < n; jar++) {
            int a = angerNow;
            int p = prideNow;
            boolean out = true;
            for (int said = 0; said < most && out; said++) {
                x = (x * 1103515245L + 12345L) % 2147483648L;
                int w = (int) (x / 65536 % 6);
                a = Math.min(99, Math.max(0, a + anger[w]));
                p = Math.min(99, Math.max(0, p + pride[w]));
                boolean in = a < wrath && w == DOUBT && p >= height;
                ins += in ? 1 : 0;
                out = a < wrath && !in;
            }
        }
        return ins;
    }

    /** "SEED (0 .. 999999), n (0 .. 60)". */
    private static void jarsAtTheirEdges() {
        for (int seed : new int[] {0, 1, 999998, 999999}) {
            for (int n : new int[] {0, 1, 2, 59, 60}) {
                due("27: jars " + seed + " " + n, jarOf(PLAIN, 20, 0, 40, 9).jars(seed, n),
                    jarsByHand(20, 0, 40, 9, seed, n, 20));
                due("27: of a wrathful one, jars " + seed + " " + n, jarOf(PLAIN, 20, 0, 21, 9).jars(seed, n),
                    jarsByHand(20, 0, 21, 9, seed, n, 20));
            }
            due("27: none", full().jars(seed, 0), 0);
        }
    }

    /** "20 at most": one who takes about 20 WORDS to go in, over many SEEDS (19 or 21 would be seen). */
    private static void jarsSay20AtMost() {
        JarSpirit x = jarOf(PLAIN, 0, 0, 99, 30);
        int unlike19 = 0;
        int unlike21 = 0;
        for (int seed = 0; seed < 400; seed++) {
            int due = jarsByHand(0, 0, 99, 30, seed, 9, 20);
            due("27: jars " + seed, x.jars(seed, 9), due);
            unlike19 += due == jarsByHand(0, 0, 99, 30, seed, 9, 19) ? 0 : 1;
            unlike21 += due == jarsByHand(0, 0, 99, 30, seed, 9, 21) ? 0 : 1;
        }
        due("27: 19 and 21 would be seen", unlike19 > 0 && unlike21 > 0 ? 1 : 0, 1);
    }

    private static void jarsOfOneNotOut() {
        for (int n : new int[] {0, 1, 60}) {
            due("27: of one who is IN", richAndIn().jars(0, n), n);
            due("27: of one who has STRUCK", richAndStruck().jars(0, n), 0);
        }
    }

    /** "IMAGES 0, 1 keep all but them, THE TEXT, THE FRACTION and STATUS; what may be undone they keep". */
    private static void imagesAtTheirEdges() {
        for (int i = 0; i < 2; i++) {
            JarSpirit x = full();
            due("29: image " + i, x.image(i), 1);
            x.jar(SLOW);
            type(x, "jar 1;");
            x.reward(7);
            x.say(9);
            due("30: from " + i, x.from(i), 1);
            due("30: THE TEXT stays", x.count(3), 6);
            fraction("30: THE FRACTION stays", x, -4, 1);
            statusIs("30: STATUS stays", x, 2, 1, 1);
            x.reward(2);
            JarSpirit twin = full();
            twin.image(i);
            type(twin, "jar 1;");
            alike("30: from " + i + " all is as it was", x, twin);
        }
        JarSpirit x = full();
        x.image(0);
        for (int i = 0; i < 8; i++) {
            x.undo();
        }
        due("30: an IMAGE keeps its own undo", x.from(0), 1);
        due("30: 8 may be undone", x.count(2), 8);
        x.forget();
        x.vow(0, 0);
        x.from(0);
        due("30: it keeps its NOTES", x.count(1), 6);
        due("30: it keeps its VOWS", x.since(3) & 1, 1);
    }

    /** "keep all but them": going on from one leaves the other as it is. */
    private static void imagesKeepNoImages() {
        JarSpirit x = new JarSpirit();
        x.image(0);
        x.jar(TWO);
        x.image(1);
        due("30: from 0, kept when there was no 1", x.from(0), 1);
        due("30: from 1 still", x.from(1), 1);
        due("30: KIND of 1", x.now(0), TWO);
        due("29: kept anew", x.image(0), 1);
        x.jar(LIAR);
        due("30: from 0", x.from(0), 1);
        due("30: the newer 0", x.now(0), TWO);
        due("30: from it twice", x.from(0), 1);
    }

    /** "IMAGES keep all": other NOTES, VOWS, WORDS said since (as many as before) are none of theirs. */
    private static void imagesAreNotChangedByOthers() {
        int[] anger = {0, 0, 0, 0, 2, 6, 4, 8};
        for (int i = 0; i < 2; i++) {
            JarSpirit x = full();
            x.image(i);
            long kept = x.digest();
            sayOthers(x);
            x.image(1 - i);
            long other = x.digest();
            due("29: the other is another", kept == other ? 0 : 1, 1);
            due("30: from " + i, x.from(i), 1);
            due("30: all as it was kept in " + i, x.digest(), kept);
            for (int left = 1; left <= 8; left++) {
                x.undo();
                feels("30: undone as it was kept in " + i, x, anger[left - 1], 31 - left, 9 - left, OUT);
            }
            due("30: from the other", x.from(1 - i), 1);
            due("30: all as it was kept in the other", x.digest(), other);
            for (int said = 7; said >= 0; said--) {
                due("30: undone as it was kept in the other", x.undo(), said);
                feels("30: undone as it was kept in the other", x, 20, 2 * said, said, OUT);
            }
        }
    }

    /** 8 WORDS, 6 NOTES, 8 VOWS, none as a full one has them. */
    private static void sayOthers(JarSpirit x) {
        x.jar(PLAIN);
        x.bound(33, 44);
        for (int n = 0; n < 8; n++) {
            x.say(PRAISE);
            x.note(5 - n % 6, 50 + n, 7, 8);
            x.vow(n, 2);
        }
    }

    private static void statusAtItsEdges() {
        JarSpirit x = rich();
        due("31: BAD", x.status(0), 1);
        due("31: NO", x.status(1), 1);
        due("31: FULL", x.status(2), 1);
        due("31: asked for, none counts", x.status(0), 1);
        due("31: another what", x.status(3), -1);
        due("31: counts as BAD", x.status(0), 2);
        due("31: another what", x.status(-1), -1);
        due("31: counts as BAD", x.status(0), 3);
        statusIs("31: as BAD alone", x, 3, 1, 1);
    }

    private static void countFrom0ToMost() {
        int[] none = {0, 0, 0, 0};
        int[] rich = {3, 2, 3, 29};
        int[] most = {9, 6, 8, 150};
        for (int i = 0; i < 4; i++) {
            int what = i;
            changesNothing("32: of a new one", JarSpirit::new, x -> x.count(what), none[what]);
            changesNothing("32: of a rich one", Check::rich, x -> x.count(what), rich[what]);
            changesNothing("32: of a full one", Check::full, x -> x.count(what), most[what]);
        }
    }

    private static void digestOfNoneAndAll() {
        due("33: of a new one", new JarSpirit().digest(),
            digestOf(0, 0, 0, 0, 0, 20, 0, 40, 9, 0, 0, 1, 2, 3, 4, 4, 4, 4, 0, 1));
        due("33: of a rich one", rich().digest(), digestOf(3, 2, 3, 29, 5, 6, 25, 50, 60, 0,
            3, 1, 2, 3, 4, 4, 4, 1, 1, 2, 3, 4, 5, 99, 20, -20, -1, 1));
        due("33: of one who is IN", richAndIn().digest(), digestOf(4, 2, 4, 29, 5, 10, 63, 50, 60, 1,
            3, 1, 2, 3, 4, 4, 4, 1, 1, 2, 3, 4, 5, 99, 20, -20, -1, 1));
        due("33: of a full one", full().digest(), digestOf(9, 6, 8, 150, 5, 0, 31, 50, 60, 0,
            3, 1, 2, 3, 4, 4, 4, 1, 1, 2, 3, 4, 5, 99, 20, -20, 0, 0, 0, 0, 1, 1, 1, 1, 2, 2, 2, 2, 3, 3, 3, 3, -1, 1));
    }

    /** "at most 512 calls": the last of them answers as any. */
    private static void calls512() {
        JarSpirit x = new JarSpirit();
        for (int call = 1; call <= 255; call++) {
            x.say(DOUBT);
            x.undo();
        }
        x.fewest(0);
        due("call 512", x.fewest(-1), 3);
        x = new JarSpirit();
        for (int call = 1; call <= 511; call++) {
            due("say " + call, x.say(PRAISE), OUT);
        }
        due("call 512", x.count(0), 511);
    }
}
