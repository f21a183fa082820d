import java.util.Arrays;

/** A spirit out of a jar, the words said to him, and what may be told of both. */
public final class JarSpirit {
    public static final int NONE = -1, BAD = -2, NO = -3, FULL = -4;

    private static final int OUT = 0, IN = 1, STRUCK = 2;
    private static final int PLEA = 0, DOUBT = 1, TALE = 3, OATH = 4, WORDS = 6;
    private static final int PLAIN = 0, SLOW = 1, GRATEFUL = 2, LIAR = 3, SLEEPY = 4, TWO = 5, KINDS = 6;
    private static final int[] PLAIN_ANGER = {-1, 1, 0, -2, -3, 2};
    private static final int[] PLAIN_PRIDE = {0, 3, 2, 0, -1, 0};

    private static final int MOST = 99, FIRST_ANGER = 20, FIRST_WRATH = 40, FIRST_HEIGHT = 9;
    private static final int MOODS = (MOST + 1) * (MOST + 1);
    private static final int[] FIRST_VOWS = {0, 1, 2, 3, 4, 4, 4, 4};
    private static final int CENTURIES = 8, DEATH = 4;
    private static final int NOTES = 6, NOTE_PARTS = 4, NOTE_MOVE = 20;
    private static final int UNDOS = 8, IMAGES = 2, TEXT_BYTES = 150;

    private static final int LONGEST_TALK = 12, LONGEST_ROW = 9, LONGEST_ODDS = 7, MOST_STRIKES = 60;
    private static final int TENTHS = 10, NOT_SO_MANY = -5, BAD_TALK = -10, BAD_MOVE = -100, READ_FAULT = -10;
    private static final int MOST_SEED = 999999, MOST_JARS = 60, JAR_WORDS = 20;

    private static final int END = 0, LETTERS = 1, FIGURES = 2, STOP = 3, ODD_BYTE = 4;

    private final Jar jar = new Jar();
    private final Jar draft = new Jar();
    private final Jar image0 = new Jar();
    private final Jar image1 = new Jar();
    private final Scroll scroll = new Scroll();
    private final Talk talk = new Talk();
    private long above = 0;
    private long below = 1;
    private int badCalls = 0;
    private int noCalls = 0;
    private int fullCalls = 0;

    public JarSpirit() {
        jar.begin(PLAIN);
    }

    // ---- a jar

    public int jar(int kind) {
        if (!within(kind, 0, KINDS - 1)) {
            return refuse(BAD);
        }
        int said = jar.said;
        jar.begin(kind);
        return said;
    }

    public int mood(int anger, int pride) {
        if (!within(anger, 0, MOST) || !within(pride, 0, MOST)) {
            return refuse(BAD);
        }
        if (anger >= jar.wrath) {
            return refuse(NO);
        }
        jar.feel(anger, pride);
        return 1;
    }

    public int bound(int wrath, int height) {
        if (!within(wrath, 1, MOST) || !within(height, 1, MOST)) {
            return refuse(BAD);
        }
        if (angerOf(jar.mind) >= wrath) {
            return refuse(NO);
        }
        jar.wrath = wrath;
        jar.height = height;
        return 1;
    }

    public int vow(int c, int v) {
        if (!within(c, 0, CENTURIES - 1) || !within(v, 0, DEATH)) {
            return refuse(BAD);
        }
        int was = at(jar.vows, c);
        put(jar.vows, c, v);
        return was;
    }

    public int type(int c) {
        if (!within(c, 0, 127)) {
            return refuse(BAD);
        }
        if (scroll.length >= TEXT_BYTES) {
            return refuse(FULL);
        }
        put(scroll.bytes, scroll.length, c);
        scroll.length++;
        return scroll.length;
    }

    public int clear() {
        int had = scroll.length;
        scroll.length = 0;
        return had;
    }

    public int read() {
        int items = readItems(scroll, draft);
        if (items == NONE) {
            return READ_FAULT - scroll.start;
        }
        jar.take(draft);
        return items;
    }

    // ---- words

    public int say(int w) {
        if (!isWord(w)) {
            return refuse(BAD);
        }
        if (beingOf(jar.mind) != OUT) {
            return refuse(NO);
        }
        jar.remember();
        jar.listen(w);
        return beingOf(jar.mind);
    }

    public int open() {
        if (beingOf(jar.mind) != IN) {
            return refuse(NO);
        }
        int pride = prideOf(jar.mind);
        jar.remember();
        jar.mind = mind(angerOf(jar.mind), 0, OUT);
        return pride;
    }

    public int undo() {
        if (jar.pasts < 1) {
            return refuse(NO);
        }
        jar.goBack();
        return jar.said;
    }

    public int now(int what) {
        switch (what) {
            case 0: return jar.kind;
            case 1: return angerOf(jar.mind);
            case 2: return prideOf(jar.mind);
            case 3: return jar.wrath;
            case 4: return jar.height;
            case 5: return jar.said;
            case 6: return beingOf(jar.mind);
            default: return refuse(BAD);
        }
    }

    public int moves(int w, int what) {
        if (!isWord(w) || !within(what, 0, 1)) {
            return refuseBad(BAD_MOVE);
        }
        return what == 0 ? angerMove(jar.kind, w, jar.said) : prideMove(jar.kind, w, jar.said);
    }

    // ---- talks

    public int words(int row, int what) {
        int length = talk.spell(row, LONGEST_ROW);
        if (length == NONE || !within(what, 0, 3)) {
            return refuse(BAD);
        }
        int mind = jar.mind;
        int count = 0;
        for (int i = 0; i < length && beingOf(mind) == OUT; i++) {
            mind = jar.hear(mind, jar.said + i, at(talk.row, i));
            count++;
        }
        switch (what) {
            case 0: return angerOf(mind);
            case 1: return prideOf(mind);
            case 2: return beingOf(mind);
            default: return count;
        }
    }

    public int fewest(int i) {
        if (i < NONE) {
            return refuseBad(BAD_TALK);
        }
        int length = talk.shortestIn(jar);
        return length == NONE ? NONE : lengthOrWord(length, i);
    }

    public int delay(int which, int i) {
        if (!within(which, 0, 1) || i < NONE) {
            return refuseBad(BAD_TALK);
        }
        return lengthOrWord(talk.longestOut(jar, which == 1), i);
    }

    public int strikes(int w) {
        if (!isWord(w)) {
            return refuse(BAD);
        }
        int mind = jar.mind;
        for (int i = 0; i < MOST_STRIKES && beingOf(mind) == OUT; i++) {
            mind = jar.hear(mind, jar.said + i, w);
            if (beingOf(mind) == STRUCK) {
                return i + 1;
            }
        }
        return NONE;
    }

    // ---- vows

    public int since(int v) {
        if (!within(v, 0, DEATH)) {
            return refuse(BAD);
        }
        int bits = 0;
        for (int c = 0; c < CENTURIES; c++) {
            if (at(jar.vows, c) == v) {
                bits |= 1 << c;
            }
        }
        return bits;
    }

    public int cast(int v) {
        if (!within(v, 0, DEATH)) {
            return refuse(BAD);
        }
        int first = CENTURIES;
        for (int c = CENTURIES - 1; c >= 0 && at(jar.vows, c) >= v; c--) {
            first = c;
        }
        return first == CENTURIES ? NONE : first;
    }

    public int reward(int c) {
        if (!within(c, 0, CENTURIES - 1)) {
            return refuse(BAD);
        }
        int sum = 0;
        for (int i = c; i < CENTURIES; i++) {
            int vowed = at(jar.vows, i);
            sum += vowed == DEATH ? -DEATH : vowed;
        }
        setFraction(sum, CENTURIES - c);
        return 1;
    }

    // ---- what he is

    public int note(int w, int n, int a, int p) {
        if (!isWord(w) || !within(n, 0, MOST)) {
            return refuse(BAD);
        }
        if (!within(a, -NOTE_MOVE, NOTE_MOVE) || !within(p, -NOTE_MOVE, NOTE_MOVE)) {
            return refuse(BAD);
        }
        if (jar.noteCount >= NOTES) {
            return refuse(FULL);
        }
        jar.addNote(w, n, a, p);
        return jar.noteCount;
    }

    public int forget() {
        int had = jar.noteCount;
        jar.noteCount = 0;
        return had;
    }

    public int is() {
        int bits = 0;
        for (int kind = 0; kind < KINDS; kind++) {
            if (jar.notesFit(kind)) {
                bits |= 1 << kind;
            }
        }
        return bits;
    }

    public int next() {
        int kinds = is();
        int best = NONE;
        int fewest = KINDS + 1;
        for (int w = 0; w < WORDS && kinds != 0; w++) {
            int alike = mostAlike(kinds, w, jar.said);
            if (alike < fewest) {
                fewest = alike;
                best = w;
            }
        }
        return best;
    }

    public int lie(int w) {
        if (!isWord(w)) {
            return refuse(BAD);
        }
        if (beingOf(jar.mind) != OUT) {
            return refuse(NO);
        }
        int bits = 0;
        for (int pair = 0; pair < 4; pair++) {
            int worth = pairWorth(w, pair);
            // Bit 0 of a pair is the one's doing, bit 1 is his; what the one gets he loses.
            if (worth >= pairWorth(w, pair ^ 1) && worth <= pairWorth(w, pair ^ 2)) {
                bits |= 1 << pair;
            }
        }
        return bits;
    }

    public int odds(int row, int c) {
        int length = talk.spell(row, LONGEST_ODDS);
        if (length == NONE || !within(c, 0, TENTHS)) {
            return refuse(BAD);
        }
        setFraction(talk.weighIn(jar, length, c), powerOfTen(length));
        return 1;
    }

    public int jars(int seed, int n) {
        if (!within(seed, 0, MOST_SEED) || !within(n, 0, MOST_JARS)) {
            return refuse(BAD);
        }
        long x = seed;
        int ins = 0;
        for (int time = 0; time < n; time++) {
            int mind = jar.mind;
            for (int i = 0; i < JAR_WORDS && beingOf(mind) == OUT; i++) {
                x = (x * 1103515245L + 12345L) % 2147483648L;
                mind = jar.hear(mind, jar.said + i, (int) (x / 65536L % WORDS));
            }
            if (beingOf(mind) == IN) {
                ins++;
            }
        }
        return ins;
    }

    // ---- what there is

    public long part(int what) {
        switch (what) {
            case 0: return above;
            case 1: return below;
            default: return refuse(BAD);
        }
    }

    public int image(int i) {
        if (!within(i, 0, IMAGES - 1)) {
            return refuse(BAD);
        }
        Jar image = imageAt(i);
        image.take(jar);
        image.isKept = true;
        return 1;
    }

    public int from(int i) {
        if (!within(i, 0, IMAGES - 1)) {
            return refuse(BAD);
        }
        Jar image = imageAt(i);
        if (!image.isKept) {
            return refuse(NO);
        }
        jar.take(image);
        return 1;
    }

    public int status(int what) {
        switch (what) {
            case 0: return badCalls;
            case 1: return noCalls;
            case 2: return fullCalls;
            default: return refuseBad(NONE);
        }
    }

    public int count(int what) {
        switch (what) {
            case 0: return jar.said;
            case 1: return jar.noteCount;
            case 2: return jar.pasts;
            case 3: return scroll.length;
            default: return refuse(BAD);
        }
    }

    public long digest() {
        long h = 1223;
        for (int what = 0; what <= 3; what++) {
            h = 31 * h + count(what);
        }
        for (int what = 0; what <= 4; what++) {
            h = 31 * h + now(what);
        }
        h = 31 * h + now(6);
        for (int c = 0; c < CENTURIES; c++) {
            h = 31 * h + at(jar.vows, c);
        }
        for (int i = 0; i < jar.noteCount * NOTE_PARTS; i++) {
            h = 31 * h + at(jar.notes, i);
        }
        h = 31 * h + above;
        return 31 * h + below;
    }

    // ---- helpers of the calls

    private int refuse(int why) {
        if (why == BAD) {
            badCalls++;
        } else if (why == NO) {
            noCalls++;
        } else {
            fullCalls++;
        }
        return why;
    }

    /** Refuses as BAD where the document tells another answer than -2. */
    private int refuseBad(int answer) {
        badCalls++;
        return answer;
    }

    private int lengthOrWord(int length, int i) {
        if (i == NONE) {
            return length;
        }
        return i >= length ? NOT_SO_MANY : at(talk.row, i);
    }

    private Jar imageAt(int i) {
        return i == 0 ? image0 : image1;
    }

    private void setFraction(long top, long bottom) {
        long divisor = commonDivisor(top, bottom);
        if (divisor != 0) {
            above = top / divisor;
            below = bottom / divisor;
        }
    }

    /** What the one gets of a pair of lie: bit 0 PLEA instead of w, bit 1 sham instead of moved. */
    private int pairWorth(int w, int pair) {
        int word = (pair & 1) == 0 ? w : PLEA;
        boolean sham = (pair & 2) != 0;
        int then = sham
            ? jar.judge(angerOf(jar.mind), prideOf(jar.mind), word)
            : jar.hear(jar.mind, jar.said, word);
        switch (beingOf(then)) {
            case IN: return 2;
            case OUT: return 1;
            default: return 0;
        }
    }

    // ---- plain numbers

    private static boolean within(int x, int least, int most) {
        return x >= least && x <= most;
    }

    private static boolean isWord(int w) {
        return within(w, 0, WORDS - 1);
    }

    private static int at(int[] row, int i) {
        return i >= 0 && i < row.length ? row[i] : 0;
    }

    private static void put(int[] row, int i, int value) {
        if (i >= 0 && i < row.length) {
            row[i] = value;
        }
    }

    private static long powerOfTen(int n) {
        long power = 1;
        for (int i = 0; i < n && i < LONGEST_ROW; i++) {
            power *= TENTHS;
        }
        return power;
    }

    private static long commonDivisor(long x, long y) {
        long a = Math.abs(x);
        long b = Math.abs(y);
        for (int i = 0; i < 200 && b != 0; i++) {
            long left = a % b;
            a = b;
            b = left;
        }
        return a;
    }

    // ---- a mind: ANGER, PRIDE and what he is, in one number, so that talks make no objects

    private static int mind(int anger, int pride, int being) {
        return being * MOODS + anger * (MOST + 1) + pride;
    }

    private static int angerOf(int mind) {
        return mind % MOODS / (MOST + 1);
    }

    private static int prideOf(int mind) {
        return mind % (MOST + 1);
    }

    private static int beingOf(int mind) {
        return mind / MOODS;
    }

    private static int kept(int mood) {
        return Math.max(0, Math.min(MOST, mood));
    }

    // ---- KINDS

    private static int angerMove(int kind, int w, int n) {
        int plain = at(PLAIN_ANGER, w);
        switch (kind) {
            case SLOW: return plain / 2;
            case GRATEFUL: return plain - 1;
            case SLEEPY: return n % 2 != 0 ? 0 : plain / 2;
            case TWO: return 2 * (plain - 1);
            default: return plain;
        }
    }

    private static int prideMove(int kind, int w, int n) {
        int plain = at(PLAIN_PRIDE, w);
        switch (kind) {
            case LIAR: return -plain;
            case SLEEPY: return n % 2 != 0 ? 0 : plain;
            case TWO: return plain + 1;
            default: return plain;
        }
    }

    private static boolean moveAlike(int kind, int other, int w, int n) {
        return angerMove(kind, w, n) == angerMove(other, w, n)
            && prideMove(kind, w, n) == prideMove(other, w, n);
    }

    /** How many of the kinds (bits) the greatest group has that w moves alike. */
    private static int mostAlike(int kinds, int w, int n) {
        int most = 0;
        for (int kind = 0; kind < KINDS; kind++) {
            int alike = 0;
            for (int other = 0; other < KINDS; other++) {
                boolean both = (kinds >> kind & 1) == 1 && (kinds >> other & 1) == 1;
                if (both && moveAlike(kind, other, w, n)) {
                    alike++;
                }
            }
            most = Math.max(most, alike);
        }
        return most;
    }

    // ---- reading THE TEXT

    /** Reads the whole text into the draft: how many items; NONE: a fault at the scroll's token. */
    private static int readItems(Scroll scroll, Jar draft) {
        draft.begin(PLAIN);
        scroll.next = 0;
        for (int items = 0; items <= TEXT_BYTES; items++) {
            scroll.advance();
            if (scroll.token == END && items > 0) {
                return items;
            }
            boolean stands = items == 0 ? readFirst(scroll, draft) : readItem(scroll, draft);
            if (!stands) {
                return NONE;
            }
            scroll.advance();
            if (scroll.token != STOP) {
                return NONE;
            }
        }
        return NONE;
    }

    private static boolean readFirst(Scroll scroll, Jar draft) {
        if (!scroll.spells("jar") || !scroll.numberComes(0, KINDS - 1)) {
            return false;
        }
        draft.begin(scroll.value);
        return true;
    }

    private static boolean readItem(Scroll scroll, Jar draft) {
        if (scroll.spells("mood")) {
            return readMood(scroll, draft);
        }
        if (scroll.spells("bound")) {
            return readBound(scroll, draft);
        }
        if (scroll.spells("vow")) {
            return readVow(scroll, draft);
        }
        return scroll.spells("say") && readSay(scroll, draft);
    }

    private static boolean readMood(Scroll scroll, Jar draft) {
        if (!scroll.numberComes(0, draft.wrath - 1)) {
            return false;
        }
        int anger = scroll.value;
        if (!scroll.numberComes(0, MOST)) {
            return false;
        }
        draft.feel(anger, scroll.value);
        return true;
    }

    private static boolean readBound(Scroll scroll, Jar draft) {
        if (!scroll.numberComes(angerOf(draft.mind) + 1, MOST)) {
            return false;
        }
        int wrath = scroll.value;
        if (!scroll.numberComes(1, MOST)) {
            return false;
        }
        draft.wrath = wrath;
        draft.height = scroll.value;
        return true;
    }

    private static boolean readVow(Scroll scroll, Jar draft) {
        if (!scroll.numberComes(0, CENTURIES - 1)) {
            return false;
        }
        int century = scroll.value;
        if (!scroll.numberComes(0, DEATH)) {
            return false;
        }
        put(draft.vows, century, scroll.value);
        return true;
    }

    /** The token behind say is looked at even if he is not OUT: the fault stands there. */
    private static boolean readSay(Scroll scroll, Jar draft) {
        if (!scroll.numberComes(0, WORDS - 1) || beingOf(draft.mind) != OUT) {
            return false;
        }
        draft.listen(scroll.value);
        return true;
    }

    /** All that an image keeps. */
    private static final class Jar {
        private int kind;
        private int wrath;
        private int height;
        private int mind;
        private int said;
        private int noteCount;
        private int pasts;
        private boolean isKept = false;
        private final int[] vows = new int[CENTURIES];
        private final int[] notes = new int[NOTES * NOTE_PARTS];
        private final int[] pastMinds = new int[UNDOS];
        private final int[] pastSaids = new int[UNDOS];

        /** All as at first, but for the kind. */
        private void begin(int newKind) {
            kind = newKind;
            wrath = FIRST_WRATH;
            height = FIRST_HEIGHT;
            mind = JarSpirit.mind(FIRST_ANGER, 0, OUT);
            said = 0;
            noteCount = 0;
            pasts = 0;
            System.arraycopy(FIRST_VOWS, 0, vows, 0, CENTURIES);
        }

        /** All as the other has it. */
        private void take(Jar other) {
            kind = other.kind;
            wrath = other.wrath;
            height = other.height;
            mind = other.mind;
            said = other.said;
            noteCount = other.noteCount;
            pasts = other.pasts;
            System.arraycopy(other.vows, 0, vows, 0, CENTURIES);
            System.arraycopy(other.notes, 0, notes, 0, NOTES * NOTE_PARTS);
            System.arraycopy(other.pastMinds, 0, pastMinds, 0, UNDOS);
            System.arraycopy(other.pastSaids, 0, pastSaids, 0, UNDOS);
        }

        private void feel(int anger, int pride) {
            mind = JarSpirit.mind(anger, pride, beingOf(mind));
        }

        /** What a mind that is OUT becomes by w, said behind n others. */
        private int hear(int before, int n, int w) {
            int anger = kept(angerOf(before) + angerMove(kind, w, n));
            int pride = kept(prideOf(before) + prideMove(kind, w, n));
            return judge(anger, pride, w);
        }

        /** What he is behind w, moved as he is by now. */
        private int judge(int anger, int pride, int w) {
            int being = OUT;
            if (anger >= wrath) {
                being = STRUCK;
            } else if (w == DOUBT && pride >= height) {
                being = IN;
            }
            return JarSpirit.mind(anger, pride, being);
        }

        private void listen(int w) {
            mind = hear(mind, said, w);
            said++;
        }

        /** Keeps what undo goes back to; the oldest makes room. */
        private void remember() {
            if (pasts >= UNDOS) {
                System.arraycopy(pastMinds, 1, pastMinds, 0, UNDOS - 1);
                System.arraycopy(pastSaids, 1, pastSaids, 0, UNDOS - 1);
                pasts = UNDOS - 1;
            }
            put(pastMinds, pasts, mind);
            put(pastSaids, pasts, said);
            pasts++;
        }

        private void goBack() {
            pasts--;
            mind = at(pastMinds, pasts);
            said = at(pastSaids, pasts);
        }

        private void addNote(int w, int n, int a, int p) {
            int start = noteCount * NOTE_PARTS;
            put(notes, start, w);
            put(notes, start + 1, n);
            put(notes, start + 2, a);
            put(notes, start + 3, p);
            noteCount++;
        }

        private boolean notesFit(int aKind) {
            for (int i = 0; i < noteCount; i++) {
                int start = i * NOTE_PARTS;
                int w = at(notes, start);
                int n = at(notes, start + 1);
                boolean fits = angerMove(aKind, w, n) == at(notes, start + 2)
                    && prideMove(aKind, w, n) == at(notes, start + 3);
                if (!fits) {
                    return false;
                }
            }
            return true;
        }
    }

    /** A row of words, spelled by a number or sought. */
    private static final class Talk {
        private final int[] row = new int[LONGEST_TALK];
        private final int[] failed = new int[MOODS];
        private Jar jar = null;
        private int end;
        private boolean brief;
        private int mostPride;
        private int doubtPride;
        private int length;
        private int heard;

        /** The row that a number tells, first word first: how many words; NONE: it tells none. */
        private int spell(int number, int most) {
            if (number < 0 || number >= powerOfTen(most)) {
                return NONE;
            }
            int words = 0;
            for (int rest = number; rest > 0 && words < LONGEST_ROW; rest /= 10) {
                words++;
            }
            int rest = number;
            for (int i = words - 1; i >= 0; i--) {
                int w = rest % 10 - 1;
                if (!isWord(w)) {
                    return NONE;
                }
                put(row, i, w);
                rest /= 10;
            }
            return words;
        }

        /** The fewest words to being IN, the first such row in row; NONE: none. */
        private int shortestIn(Jar asked) {
            int being = beingOf(asked.mind);
            if (being != OUT) {
                return being == IN ? 0 : NONE;
            }
            seek(asked, IN, false);
            for (int left = 1; left <= LONGEST_TALK; left++) {
                if (reaches(this, asked.mind, asked.said, 0, left)) {
                    return left;
                }
            }
            return NONE;
        }

        /** The most words with him OUT behind each, the first such row in row. */
        private int longestOut(Jar asked, boolean isBrief) {
            if (beingOf(asked.mind) != OUT) {
                return 0;
            }
            seek(asked, OUT, isBrief);
            for (int left = LONGEST_TALK; left > 0; left--) {
                if (reaches(this, asked.mind, asked.said, 0, left)) {
                    return left;
                }
            }
            return 0;
        }

        private void seek(Jar asked, int toBe, boolean isBrief) {
            jar = asked;
            end = toBe;
            brief = isBrief;
            Arrays.fill(failed, 0);
            doubtPride = prideMove(asked.kind, DOUBT, 0);
            mostPride = 0;
            for (int w = 0; w < WORDS; w++) {
                mostPride = Math.max(mostPride, prideMove(asked.kind, w, 0));
            }
        }

        /** Whether exactly so many words are left to the end; they come into row, the first ones in order. */
        private static boolean reaches(Talk t, int mind, int n, int place, int left) {
            if (t.jar == null || left < 1 || place + left > LONGEST_TALK || isHopeless(t, mind, left)) {
                return false;
            }
            // Whether the end is reached depends on left and on n being odd, not on the row so far.
            int mark = 1 << (left + (n % 2 == 0 ? 0 : LONGEST_TALK + 1));
            int mood = mind % MOODS;
            if ((at(t.failed, mood) & mark) != 0) {
                return false;
            }
            for (int w = 0; w < WORDS; w++) {
                if (t.brief && (w == TALE || w == OATH)) {
                    continue;
                }
                int then = t.jar.hear(mind, n, w);
                boolean ends = left == 1
                    ? beingOf(then) == t.end
                    : beingOf(then) == OUT && reaches(t, then, n + 1, place + 1, left - 1);
                if (ends) {
                    put(t.row, place, w);
                    return true;
                }
            }
            put(t.failed, mood, at(t.failed, mood) | mark);
            return false;
        }

        /** Even the proudest words leave too little for the doubt that must come last. */
        private static boolean isHopeless(Talk t, int mind, int left) {
            int most = prideOf(mind) + (left - 1) * t.mostPride + t.doubtPride;
            return t.end == IN && t.jar != null && most < t.jar.height;
        }

        /** Of 10 to the length, how many ways of hearing the spelled row end with him IN. */
        private long weighIn(Jar asked, int words, int tenths) {
            jar = asked;
            length = words;
            heard = tenths;
            return weigh(this, asked.mind, asked.said, 0);
        }

        private static long weigh(Talk t, int mind, int n, int place) {
            if (t.jar == null || place >= t.length || place >= LONGEST_ODDS || beingOf(mind) != OUT) {
                return beingOf(mind) == IN ? powerOfTen(t.length - place) : 0;
            }
            int then = t.jar.hear(mind, n, at(t.row, place));
            return t.heard * weigh(t, then, n + 1, place + 1)
                + (TENTHS - t.heard) * weigh(t, mind, n, place + 1);
        }
    }

    /** THE TEXT, and the token of it that is being read. */
    private static final class Scroll {
        private final int[] bytes = new int[TEXT_BYTES];
        private int length = 0;
        private int next = 0;
        private int start = 0;
        private int token = END;
        private int value = NONE;

        /** NONE at the text's end, which begins no token. */
        private int byteAt(int place) {
            return place >= 0 && place < length && place < bytes.length ? bytes[place] : NONE;
        }

        private static boolean isLetter(int c) {
            return c >= 'a' && c <= 'z';
        }

        private static boolean isFigure(int c) {
            return c >= '0' && c <= '9';
        }

        /** Goes on to the next token; the one at the text's end starts at the text's length. */
        private void advance() {
            while (next < length && byteAt(next) == ' ') {
                next++;
            }
            start = next;
            int first = byteAt(start);
            if (isLetter(first)) {
                passLetters();
            } else if (isFigure(first)) {
                passFigures();
            } else if (start < length) {
                token = first == ';' ? STOP : ODD_BYTE;
                next++;
            } else {
                token = END;
            }
        }

        private void passLetters() {
            token = LETTERS;
            while (next < length && isLetter(byteAt(next))) {
                next++;
            }
        }

        private void passFigures() {
            token = FIGURES;
            int number = 0;
            while (next < length && isFigure(byteAt(next))) {
                number = number * 10 + byteAt(next) - '0';
                next++;
            }
            value = next - start > 2 ? NONE : number;
        }

        private boolean spells(String word) {
            if (token != LETTERS || next - start != word.length()) {
                return false;
            }
            for (int i = 0; i < word.length(); i++) {
                if (byteAt(start + i) != word.charAt(i)) {
                    return false;
                }
            }
            return true;
        }

        /** Goes on to the next token: whether it is a number from least to most. */
        private boolean numberComes(int least, int most) {
            advance();
            return token == FIGURES && within(value, least, most);
        }
    }
}
