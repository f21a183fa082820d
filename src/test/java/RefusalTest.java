import java.util.function.Supplier;
import java.util.function.ToLongFunction;

/** Each refusal of each promise: the first value refused on each side, what it answers, counts as, and leaves. */
public final class RefusalTest extends Check {
    private static final String[] STATES = {"new", "rich", "IN", "STRUCK", "full"};
    private static int calls = 0;

    public static void main(String[] args) {
        jarsCalls();
        wordsCalls();
        talksCalls();
        vowsCalls();
        whatHeIsCalls();
        whatThereIsCalls();
        moodTooAngry();
        boundTooLow();
        nothingSaidToOneNotOut();
        nothingToOpen();
        nothingToUndo();
        noImageKept();
        textIsFull();
        notesAreFull();
        refusalsAreCounted();
        theseAreNotRefused();
        end("every refusal is as due (" + calls + " calls)");
    }

    private static Supplier<JarSpirit> made(int state) {
        switch (state) {
            case 0: return JarSpirit::new;
            case 1: return Check::rich;
            case 2: return Check::richAndIn;
            case 3: return Check::richAndStruck;
            default: return Check::full;
        }
    }

    /** BAD in every state: also where NO or FULL would be due otherwise, as BAD is the first of them. */
    private static void bad(String what, ToLongFunction<JarSpirit> call, long answer) {
        for (int state = 0; state < STATES.length; state++) {
            calls++;
            bad(what + " of one who is " + STATES[state], made(state), call, answer);
        }
    }

    private static void bad(String what, ToLongFunction<JarSpirit> call) {
        bad(what, call, BAD);
    }

    // ---- BAD: a number is not as told

    private static void jarsCalls() {
        for (int kind : new int[] {LOWEST, -1, 6, HIGHEST}) {
            bad("2: jar " + kind, x -> x.jar(kind));
        }
        for (int mood : new int[] {LOWEST, -1, 100, HIGHEST}) {
            bad("3: mood " + mood + " 0", x -> x.mood(mood, 0));
            bad("3: mood 0 " + mood, x -> x.mood(0, mood));
            bad("3: mood 99 " + mood, x -> x.mood(99, mood));
        }
        for (int bound : new int[] {LOWEST, -1, 0, 100, HIGHEST}) {
            bad("4: bound " + bound + " 1", x -> x.bound(bound, 1));
            bad("4: bound 99 " + bound, x -> x.bound(99, bound));
            bad("4: bound 1 " + bound, x -> x.bound(1, bound));
        }
        for (int c : new int[] {LOWEST, -1, 8, HIGHEST}) {
            bad("5: vow " + c + " 0", x -> x.vow(c, 0));
        }
        for (int v : new int[] {LOWEST, -1, 5, HIGHEST}) {
            bad("5: vow 0 " + v, x -> x.vow(0, v));
            bad("5: vow 7 " + v, x -> x.vow(7, v));
        }
        for (int c : new int[] {LOWEST, -1, 128, HIGHEST}) {
            bad("6: type " + c, x -> x.type(c));
        }
    }

    private static void wordsCalls() {
        for (int w : new int[] {LOWEST, -1, 6, HIGHEST}) {
            bad("9: say " + w, x -> x.say(w));
            bad("13: moves " + w + " 0", x -> x.moves(w, 0), -100);
            bad("13: moves " + w + " 1", x -> x.moves(w, 1), -100);
        }
        for (int what : new int[] {LOWEST, -1, 7, HIGHEST}) {
            bad("12: now " + what, x -> x.now(what));
        }
        for (int what : new int[] {LOWEST, -1, 2, HIGHEST}) {
            bad("13: moves 0 " + what, x -> x.moves(0, what), -100);
            bad("13: moves 5 " + what, x -> x.moves(5, what), -100);
        }
    }

    private static void talksCalls() {
        int[] rows = {LOWEST, -1, 7, 8, 9, 10, 60, 17, 71, 101, 106, 160, 700000000, 100000000, 111101111, 111171111,
            666666660, 666666667, 1000000000, 1111111111, 2111111111, HIGHEST};
        for (int row : rows) {
            bad("14: words " + row, x -> x.words(row, 3));
        }
        for (int what : new int[] {LOWEST, -1, 4, HIGHEST}) {
            bad("14: what " + what, x -> x.words(0, what));
            bad("14: of a row, what " + what, x -> x.words(666666666, what));
        }
        for (int i : new int[] {LOWEST, -3, -2}) {
            bad("15: fewest " + i, x -> x.fewest(i), -10);
            bad("16: delay 0 " + i, x -> x.delay(0, i), -10);
            bad("16: delay 1 " + i, x -> x.delay(1, i), -10);
        }
        for (int which : new int[] {LOWEST, -1, 2, HIGHEST}) {
            bad("16: delay " + which + " -1", x -> x.delay(which, -1), -10);
            bad("16: delay " + which + " 12", x -> x.delay(which, 12), -10);
        }
        for (int w : new int[] {LOWEST, -1, 6, HIGHEST}) {
            bad("17: strikes " + w, x -> x.strikes(w));
        }
    }

    private static void vowsCalls() {
        for (int v : new int[] {LOWEST, -1, 5, HIGHEST}) {
            bad("18: since " + v, x -> x.since(v));
            bad("19: cast " + v, x -> x.cast(v));
        }
        for (int c : new int[] {LOWEST, -1, 8, HIGHEST}) {
            bad("20: reward " + c, x -> x.reward(c));
        }
    }

    private static void whatHeIsCalls() {
        for (int w : new int[] {LOWEST, -1, 6, HIGHEST}) {
            bad("21: note of " + w, x -> x.note(w, 0, 0, 0));
            bad("25: lie " + w, x -> x.lie(w));
        }
        for (int n : new int[] {LOWEST, -1, 100, HIGHEST}) {
            bad("21: note behind " + n, x -> x.note(0, n, 0, 0));
        }
        for (int move : new int[] {LOWEST, -21, 21, HIGHEST}) {
            bad("21: note by " + move + " 0", x -> x.note(0, 0, move, 0));
            bad("21: note by 0 " + move, x -> x.note(5, 99, 0, move));
        }
        int[] rows = {LOWEST, -1, 7, 9, 10, 20, 17, 71, 101, 6666660, 7000000, 6660666, 6667666, 10000000, 11111111,
            66666666, 111111111, HIGHEST};
        for (int row : rows) {
            bad("26: odds " + row, x -> x.odds(row, 5));
        }
        for (int c : new int[] {LOWEST, -1, 11, HIGHEST}) {
            bad("26: by " + c, x -> x.odds(0, c));
            bad("26: of a row by " + c, x -> x.odds(6666666, c));
        }
        for (int seed : new int[] {LOWEST, -1, 1000000, HIGHEST}) {
            bad("27: jars " + seed, x -> x.jars(seed, 0));
        }
        for (int n : new int[] {LOWEST, -1, 61, HIGHEST}) {
            bad("27: jars, n " + n, x -> x.jars(0, n));
        }
    }

    private static void whatThereIsCalls() {
        for (int what : new int[] {LOWEST, -1, 2, HIGHEST}) {
            bad("28: part " + what, x -> x.part(what));
        }
        for (int i : new int[] {LOWEST, -1, 2, HIGHEST}) {
            bad("29: image " + i, x -> x.image(i));
            bad("30: from " + i, x -> x.from(i));
        }
        for (int what : new int[] {LOWEST, -1, 3, HIGHEST}) {
            bad("31: status " + what, x -> x.status(what), -1);
        }
        for (int what : new int[] {LOWEST, -1, 4, HIGHEST}) {
            bad("32: count " + what, x -> x.count(what));
        }
    }

    // ---- NO

    /** "NO: ANGER is WRATH or more": the ANGER that is given. */
    private static void moodTooAngry() {
        no("3: ANGER is the first WRATH", JarSpirit::new, x -> x.mood(40, 0));
        no("3: ANGER above the first WRATH", JarSpirit::new, x -> x.mood(41, 99));
        no("3: ANGER 99", JarSpirit::new, x -> x.mood(99, 0));
        no("3: ANGER is WRATH", Check::rich, x -> x.mood(50, 0));
        no("3: of one who is IN", Check::richAndIn, x -> x.mood(50, 99));
        no("3: of one who has STRUCK", Check::richAndStruck, x -> x.mood(50, 5));
        no("3: his own ANGER, if he has STRUCK", Check::richAndStruck, x -> x.mood(51, 5));
        no("3: WRATH 1", () -> jarOf(PLAIN, 0, 0, 1, 1), x -> x.mood(1, 0));
        no("3: WRATH 99", () -> jarOf(PLAIN, 0, 0, 99, 1), x -> x.mood(99, 99));
    }

    /** "NO: ANGER is WRATH or more": the WRATH that is given. */
    private static void boundTooLow() {
        no("4: WRATH is ANGER", JarSpirit::new, x -> x.bound(20, 9));
        no("4: WRATH below ANGER", JarSpirit::new, x -> x.bound(19, 99));
        no("4: WRATH 1", JarSpirit::new, x -> x.bound(1, 1));
        no("4: WRATH is ANGER of a rich one", Check::rich, x -> x.bound(6, 60));
        no("4: WRATH is ANGER of one who is IN", Check::richAndIn, x -> x.bound(10, 60));
        no("4: WRATH is ANGER of one who has STRUCK", Check::richAndStruck, x -> x.bound(51, 60));
        no("4: his own WRATH, if he has STRUCK", Check::richAndStruck, x -> x.bound(50, 60));
        no("4: WRATH 99, ANGER 99", RefusalTest::angriest, x -> x.bound(99, 99));
        no("4: ANGER 1, WRATH 1", () -> jarOf(PLAIN, 1, 0, 40, 9), x -> x.bound(1, 9));
    }

    /** One with ANGER 99, who has STRUCK. */
    private static JarSpirit angriest() {
        JarSpirit x = jarOf(PLAIN, 98, 0, 99, 9);
        x.say(SILENCE);
        return x;
    }

    private static void nothingSaidToOneNotOut() {
        for (int w = 0; w < 6; w++) {
            int word = w;
            no("9: say " + w + " to one who is IN", Check::richAndIn, x -> x.say(word));
            no("9: say " + w + " to one who has STRUCK", Check::richAndStruck, x -> x.say(word));
            no("25: lie " + w + " to one who is IN", Check::richAndIn, x -> x.lie(word));
            no("25: lie " + w + " to one who has STRUCK", Check::richAndStruck, x -> x.lie(word));
        }
    }

    private static void nothingToOpen() {
        no("10: a new one is OUT", JarSpirit::new, x -> x.open());
        no("10: OUT", Check::rich, x -> x.open());
        no("10: STRUCK", Check::richAndStruck, x -> x.open());
        no("10: OUT again", RefusalTest::opened, x -> x.open());
    }

    private static JarSpirit opened() {
        JarSpirit x = richAndIn();
        x.open();
        return x;
    }

    private static void nothingToUndo() {
        no("11: a new one", JarSpirit::new, x -> x.undo());
        no("11: behind jar", RefusalTest::jarAnew, x -> x.undo());
        no("11: behind read", RefusalTest::readAnew, x -> x.undo());
        no("11: when all is undone", () -> undone(rich(), 3), x -> x.undo());
        no("11: when 8 are undone", () -> undone(full(), 8), x -> x.undo());
    }

    private static JarSpirit jarAnew() {
        JarSpirit x = full();
        x.jar(SLOW);
        return x;
    }

    private static JarSpirit readAnew() {
        JarSpirit x = full();
        x.read();
        return x;
    }

    private static JarSpirit undone(JarSpirit x, int times) {
        for (int i = 0; i < times; i++) {
            x.undo();
        }
        return x;
    }

    private static void noImageKept() {
        no("30: a new one, 0", JarSpirit::new, x -> x.from(0));
        no("30: a new one, 1", JarSpirit::new, x -> x.from(1));
        no("30: 1, if 0 was kept", () -> imaged(0), x -> x.from(1));
        no("30: 0, if 1 was kept", () -> imaged(1), x -> x.from(0));
    }

    private static JarSpirit imaged(int i) {
        JarSpirit x = new JarSpirit();
        x.image(i);
        x.jar(LIAR);
        return x;
    }

    // ---- FULL

    private static void textIsFull() {
        for (int c : new int[] {0, 32, 'a', 127}) {
            fullUp("6: type " + c, Check::full, x -> x.type(c));
        }
    }

    private static void notesAreFull() {
        fullUp("21: a seventh NOTE", Check::full, x -> x.note(0, 0, 0, 0));
        fullUp("21: a seventh NOTE, least", Check::full, x -> x.note(0, 0, -20, -20));
        fullUp("21: a seventh NOTE, most", Check::full, x -> x.note(5, 99, 20, 20));
    }

    // ---- STATUS

    /** "STATUS: how many calls were refused as BAD, NO, FULL": they add up, one for each call. */
    private static void refusalsAreCounted() {
        JarSpirit x = richAndIn();
        type(x, fullText());
        for (int i = 0; i < 7; i++) {
            x.note(0, 0, 0, 0);
        }
        int bad = x.status(0);
        int no = x.status(1);
        int full = x.status(2);
        for (int i = 1; i <= 40; i++) {
            x.say(6);
            x.say(0);
            x.type('a');
            statusIs("31: refused " + i, x, bad + i, no + i, full + i);
        }
    }

    /** Answers that are told for other things than a refusal, also those that look like one, are none. */
    private static void theseAreNotRefused() {
        changesNothing("8: a FAULT", () -> typed("jar 0;mood 40 0;"), x -> x.read(), -21);
        changesNothing("8: an empty TEXT", JarSpirit::new, x -> x.read(), -10);
        changesNothing("13: moves by -1", JarSpirit::new, x -> x.moves(PLEA, 0), -1);
        changesNothing("13: moves by -2", JarSpirit::new, x -> x.moves(TALE, 0), -2);
        changesNothing("13: moves by -3", JarSpirit::new, x -> x.moves(OATH, 0), -3);
        changesNothing("13: moves by -4", () -> jarOf(TWO, 0, 0, 40, 9), x -> x.moves(PLEA, 0), -4);
        changesNothing("15: not so many", JarSpirit::new, x -> x.fewest(3), -5);
        changesNothing("15: NONE", Check::richAndStruck, x -> x.fewest(0), -1);
        changesNothing("16: not so many", JarSpirit::new, x -> x.delay(0, 12), -5);
        changesNothing("16: none", Check::richAndIn, x -> x.delay(0, 0), -5);
        changesNothing("17: NONE", JarSpirit::new, x -> x.strikes(PLEA), -1);
        changesNothing("19: NONE", RefusalTest::vowedNothingLast, x -> x.cast(1), -1);
        changesNothing("24: NONE", Check::rich, x -> x.next(), -1);
        changesNothing("28: -4", () -> rewarded(4, 4), x -> x.part(0), -4);
        changesNothing("28: -3", () -> rewarded(4, 1), x -> x.part(0), -3);
        changesNothing("28: -2", () -> rewarded(4, 0), x -> x.part(0), -2);
    }

    private static JarSpirit typed(String text) {
        JarSpirit x = new JarSpirit();
        type(x, text);
        return x;
    }

    private static JarSpirit vowedNothingLast() {
        JarSpirit x = new JarSpirit();
        x.vow(7, 0);
        return x;
    }

    /** REWARD of the last two CENTURIES, with these VOWS. */
    private static JarSpirit rewarded(int sixth, int seventh) {
        JarSpirit x = new JarSpirit();
        x.vow(6, sixth);
        x.vow(7, seventh);
        x.reward(6);
        return x;
    }
}
