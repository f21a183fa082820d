import java.util.function.Supplier;
import java.util.function.ToLongFunction;

/** What the tests share: answers that are due, jars to begin from, and calls that may change nothing. */
class Check {
    static final int PLEA = 0, DOUBT = 1, PRAISE = 2, TALE = 3, OATH = 4, SILENCE = 5;
    static final int PLAIN = 0, SLOW = 1, GRATEFUL = 2, LIAR = 3, SLEEPY = 4, TWO = 5;
    static final int OUT = 0, IN = 1, STRUCK = 2;
    static final int NONE = -1, BAD = -2, NO = -3, FULL = -4;
    static final int LOWEST = Integer.MIN_VALUE, HIGHEST = Integer.MAX_VALUE;

    /** THE TEXT of a rich one: 29 bytes, 4 ITEMS. */
    static final String RICH_TEXT = "jar 3;mood 7 8;say 1;vow 2 4;";

    private static final int SHOWN = 60;
    private static int wrong = 0;

    static void due(String what, long got, long want) {
        if (got != want) {
            tell(what + " answered " + got + ", due is " + want);
        }
    }

    static void tell(String fault) {
        wrong++;
        if (wrong <= SHOWN) {
            System.out.println(fault);
        }
    }

    /** Ends the test: with exit code 1 if an answer was not as due. */
    static void end(String whole) {
        System.out.println(wrong == 0 ? whole : wrong + " answers are not as due");
        if (wrong != 0) {
            System.exit(1);
        }
    }

    static void type(JarSpirit x, String text) {
        x.clear();
        for (int i = 0; i < text.length(); i++) {
            x.type(text.charAt(i));
        }
    }

    static void fraction(String what, JarSpirit x, long above, long below) {
        due(what + " above", x.part(0), above);
        due(what + " below", x.part(1), below);
    }

    static void feels(String what, JarSpirit x, int anger, int pride, int said, int being) {
        due(what + " ANGER", x.now(1), anger);
        due(what + " PRIDE", x.now(2), pride);
        due(what + " WORDS", x.now(5), said);
        due(what + " what he is", x.now(6), being);
    }

    static void statusIs(String what, JarSpirit x, int bad, int no, int full) {
        due(what + " BAD", x.status(0), bad);
        due(what + " NO", x.status(1), no);
        due(what + " FULL", x.status(2), full);
    }

    /** The digest of these values (the long goes round, as Java's does). */
    static long digestOf(long... values) {
        long h = 1223;
        for (long v : values) {
            h = 31 * h + v;
        }
        return h;
    }

    // ---- jars to begin from

    /** One of a KIND in a mood, within bounds (OUT, nothing said). */
    static JarSpirit jarOf(int kind, int anger, int pride, int wrath, int height) {
        JarSpirit x = new JarSpirit();
        x.jar(kind);
        x.mood(0, pride);
        x.bound(wrath, height);
        x.mood(anger, pride);
        return x;
    }

    /** One who is OUT, with all that there can be: NOTES, both IMAGES, THE TEXT, THE FRACTION, STATUS, 3 WORDS to undo. */
    static JarSpirit rich() {
        JarSpirit x = new JarSpirit();
        type(x, RICH_TEXT);
        for (int i = 0; i < 7; i++) {
            x.note(0, 0, 0, 0);
        }
        x.jar(GRATEFUL);
        x.say(SILENCE);
        x.say(PRAISE);
        x.image(0);
        x.jar(SLEEPY);
        x.bound(77, 66);
        x.vow(4, 2);
        x.say(DOUBT);
        x.note(3, 4, -5, 6);
        x.image(1);
        x.jar(TWO);
        x.bound(50, 60);
        x.mood(10, 20);
        x.vow(0, 3);
        x.vow(7, 1);
        x.note(1, 2, 3, 4);
        x.note(5, 99, 20, -20);
        x.say(PRAISE);
        x.say(PLEA);
        x.say(SILENCE);
        x.reward(2);
        x.jar(6);
        x.open();
        return x;
    }

    /** One who is OUT with ANGER 20 and this WRATH: undo gives ANGER back, not WRATH. */
    static JarSpirit angryButOut(int wrath) {
        JarSpirit x = new JarSpirit();
        x.say(PLEA);
        x.mood(0, 0);
        x.bound(wrath, 9);
        x.undo();
        return x;
    }

    static JarSpirit richAndIn() {
        JarSpirit x = rich();
        x.mood(10, 59);
        x.say(DOUBT);
        return x;
    }

    static JarSpirit richAndStruck() {
        JarSpirit x = rich();
        x.mood(49, 5);
        x.say(SILENCE);
        return x;
    }

    /** A rich one with 6 NOTES, 150 bytes of THE TEXT and 8 WORDS to undo. */
    static JarSpirit full() {
        JarSpirit x = rich();
        for (int i = 0; i < 4; i++) {
            x.note(i, i, i, i);
        }
        for (int i = 0; i < 6; i++) {
            x.say(PLEA);
        }
        type(x, fullText());
        return x;
    }

    /** A TEXT of 150 bytes that can be read: 29 ITEMS. */
    static String fullText() {
        StringBuilder text = new StringBuilder("jar 0 ;");
        for (int i = 0; i < 28; i++) {
            text.append("say0;");
        }
        return text.append("   ").toString();
    }

    // ---- calls that may change nothing

    /** The call answers so, counts under that reason alone (0 BAD, 1 NO, 2 FULL; NONE: none), changes nothing else. */
    private static void leaves(String what, Supplier<JarSpirit> made, ToLongFunction<JarSpirit> call, long answer,
            int reason) {
        JarSpirit twin = made.get();
        JarSpirit x = made.get();
        due(what, call.applyAsLong(x), answer);
        for (int r = 0; r < 3; r++) {
            due(what + ", STATUS " + r, x.status(r), twin.status(r) + (r == reason ? 1 : 0));
        }
        alike(what, x, twin);
    }

    static void bad(String what, Supplier<JarSpirit> made, ToLongFunction<JarSpirit> call, long answer) {
        leaves(what, made, call, answer, 0);
    }

    static void no(String what, Supplier<JarSpirit> made, ToLongFunction<JarSpirit> call) {
        leaves(what, made, call, NO, 1);
    }

    static void fullUp(String what, Supplier<JarSpirit> made, ToLongFunction<JarSpirit> call) {
        leaves(what, made, call, FULL, 2);
    }

    static void changesNothing(String what, Supplier<JarSpirit> made, ToLongFunction<JarSpirit> call, long answer) {
        leaves(what, made, call, answer, NONE);
    }

    /** The call answers 1, THE FRACTION is as told then, and nothing else is changed. */
    static void changesFraction(String what, Supplier<JarSpirit> made, ToLongFunction<JarSpirit> call, long above,
            long below) {
        JarSpirit twin = made.get();
        JarSpirit x = made.get();
        due(what, call.applyAsLong(x), 1);
        fraction(what, x, above, below);
        statusIs(what, x, twin.status(0), twin.status(1), twin.status(2));
        x.reward(0);
        twin.reward(0);
        alike(what, x, twin);
    }

    /** Both answer alike, also behind all that may be undone, gone on from and read (some 200 calls). */
    static void alike(String what, JarSpirit x, JarSpirit twin) {
        String got = trace(x);
        String want = trace(twin);
        if (!got.equals(want)) {
            tell(what + " leaves " + got + "\n  where due is " + want);
        }
    }

    private static String trace(JarSpirit x) {
        StringBuilder told = new StringBuilder();
        show(told, x);
        undoAll(told, x);
        for (int i = 0; i < 2; i++) {
            told.append(" IMAGE ").append(x.from(i)).append(':');
            show(told, x);
            undoAll(told, x);
        }
        told.append(" read ").append(x.read()).append(':');
        show(told, x);
        return told.toString();
    }

    private static void show(StringBuilder told, JarSpirit x) {
        for (int what = 0; what < 7; what++) {
            told.append(' ').append(x.now(what));
        }
        for (int what = 0; what < 4; what++) {
            told.append(' ').append(x.count(what));
        }
        for (int v = 0; v < 5; v++) {
            told.append(' ').append(x.since(v));
        }
        told.append(' ').append(x.part(0)).append('/').append(x.part(1)).append(' ').append(x.digest());
    }

    private static void undoAll(StringBuilder told, JarSpirit x) {
        for (int left = x.count(2); left > 0; left--) {
            told.append(" undo ").append(x.undo());
            told.append(' ').append(x.now(1)).append(' ').append(x.now(2)).append(' ').append(x.now(6));
        }
    }
}
