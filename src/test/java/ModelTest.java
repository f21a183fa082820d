import java.math.BigInteger;
import java.util.ArrayDeque;
import java.util.ArrayList;
import java.util.HashSet;
import java.util.List;
import java.util.Random;
import java.util.regex.Matcher;
import java.util.regex.Pattern;

/** Random runs against a second, plainer telling of the document (seeds are fixed: each run is the same). */
public final class ModelTest extends Check {
    private static final int RUNS = 1000, TEXTS = 20000;

    public static void main(String[] args) {
        for (int run = 0; run < RUNS; run++) {
            new Run(run).go();
        }
        everyMoodOfEveryKind();
        randomTexts();
        end("all is as the model says");
    }

    /** FEWEST over a net of moods, with every KIND, so that the search's shortcuts are tried. */
    private static void everyMoodOfEveryKind() {
        for (int kind = 0; kind < 6; kind++) {
            for (int gap = 1; gap <= 5; gap += 2) {
                for (int height = 1; height <= 49; height += 4) {
                    for (int pride = 0; pride <= 12; pride += 3) {
                        Soul soul = new Soul(kind, 30 - gap, pride, 30, height);
                        JarSpirit x = jarOf(kind, 30 - gap, pride, 30, height);
                        compareFewest("kind " + kind + " gap " + gap + " height " + height + " pride " + pride, x, soul);
                    }
                }
            }
        }
    }

    /** Texts of ITEMS with numbers at their edges, some of them spoilt by a byte or two. */
    private static void randomTexts() {
        Random random = new Random(8);
        int whole = 0;
        for (int i = 0; i < TEXTS; i++) {
            JarSpirit x = new JarSpirit();
            String text = anyText(random);
            type(x, text);
            Telling telling = new Telling(text);
            int want = telling.read();
            due("read of \"" + text + "\"", x.read(), want);
            if (want > 0) {
                whole++;
                Soul s = telling.soul;
                int[] now = {s.kind, s.anger, s.pride, s.wrath, s.height, s.said, s.being};
                for (int what = 0; what < now.length; what++) {
                    due("now " + what + " of \"" + text + "\"", x.now(what), now[what]);
                }
                for (int c = 0; c < 8; c++) {
                    due("vow " + c + " of \"" + text + "\"", x.since(telling.vows[c]) >> c & 1, 1);
                }
            }
        }
        due("some texts are whole, some are not", whole > TEXTS / 5 && whole < TEXTS * 4 / 5 ? 1 : 0, 1);
    }

    private static String anyText(Random random) {
        StringBuilder text = new StringBuilder(anyItem(random, 0));
        for (int items = random.nextInt(9); items > 0; items--) {
            text.append(anyItem(random, 1 + random.nextInt(4)));
        }
        String signs = "jarmodbunvwsyzj0123456789;;  -{`/:!\177\0";
        for (int spoils = random.nextInt(4) - 1; spoils > 0 && text.length() > 0; spoils--) {
            int place = random.nextInt(text.length());
            char sign = signs.charAt(random.nextInt(signs.length()));
            switch (random.nextInt(4)) {
                case 0: text.deleteCharAt(place); break;
                case 1: text.insert(place, sign); break;
                case 2: text.setCharAt(place, sign); break;
                default: text.setLength(place);
            }
        }
        text.setLength(Math.min(150, text.length()));
        return text.toString();
    }

    private static String anyItem(Random random, int word) {
        int[][][] edges = {{{0, 5}}, {{0, 39}, {0, 99}}, {{21, 99}, {1, 99}}, {{0, 7}, {0, 4}}, {{0, 5}}};
        StringBuilder item = new StringBuilder(blanks(random, 0)).append(Telling.WORDS[word]);
        for (int i = 0; i < edges[word].length; i++) {
            int[] edge = edges[word][i];
            int number = random.nextInt(12) == 0
                ? edge[random.nextInt(2)] + random.nextInt(3) - 1
                : edge[0] + random.nextInt(Math.min(edge[1] - edge[0] + 1, word == 1 ? 22 : 99));
            item.append(blanks(random, i)).append(random.nextInt(9) == 0 ? "0" : "").append(Math.max(0, number));
        }
        return item.append(blanks(random, 0)).append(';').toString();
    }

    private static String blanks(Random random, int least) {
        return "   ".substring(0, Math.max(least, random.nextInt(9) - 5));
    }

    /** THE TEXT told a second time: TOKENS by a pattern, a row of what each ITEM wants. */
    private static final class Telling {
        static final String[] WORDS = {"jar", "mood", "bound", "vow", "say"};
        private final List<String> tokens = new ArrayList<>();
        private final List<Integer> starts = new ArrayList<>();
        private final Soul soul = new Soul(0, 20, 0, 40, 9);
        private final int[] vows = {0, 1, 2, 3, 4, 4, 4, 4};

        Telling(String text) {
            Matcher matcher = Pattern.compile("[a-z]+|[0-9]+|[^ ]", Pattern.DOTALL).matcher(text);
            while (matcher.find()) {
                tokens.add(matcher.group());
                starts.add(matcher.start());
            }
            tokens.add("");
            starts.add(text.length());
        }

        int read() {
            int at = 0;
            int items = 0;
            while (at == 0 || at < tokens.size() - 1) {
                int word = java.util.Arrays.asList(WORDS).indexOf(tokens.get(at));
                if (word < 0 || (word == 0) != (at == 0)) {
                    return -10 - starts.get(at);
                }
                int numbers = word == 0 || word == 4 ? 1 : 2;
                int[] given = new int[2];
                for (int i = 0; i < numbers; i++) {
                    String token = tokens.get(at + 1 + i);
                    if (!token.matches("[0-9]{1,2}") || !stands(word, i, Integer.parseInt(token))) {
                        return -10 - starts.get(at + 1 + i);
                    }
                    given[i] = Integer.parseInt(token);
                }
                if (!tokens.get(at + 1 + numbers).equals(";")) {
                    return -10 - starts.get(at + 1 + numbers);
                }
                is(word, given[0], given[1]);
                at += numbers + 2;
                items++;
            }
            return items;
        }

        private boolean stands(int word, int i, int number) {
            switch (word * 2 + i) {
                case 0: return number <= 5;
                case 2: return number < soul.wrath;
                case 4: return number > soul.anger;
                case 5: return number > 0;
                case 6: return number <= 7;
                case 7: return number <= 4;
                case 8: return number <= 5 && soul.being == 0;
                default: return true;
            }
        }

        private void is(int word, int first, int second) {
            switch (word) {
                case 0: soul.kind = first; break;
                case 1: soul.anger = first; soul.pride = second; break;
                case 2: soul.wrath = first; soul.height = second; break;
                case 3: vows[first] = second; break;
                default:
                    Soul then = soul.after(first);
                    soul.anger = then.anger;
                    soul.pride = then.pride;
                    soul.said = then.said;
                    soul.being = then.being;
            }
        }
    }

    private static void compareFewest(String where, JarSpirit x, Soul soul) {
        List<Integer> row = soul.fewest();
        due(where + " fewest", x.fewest(-1), row == null ? -1 : row.size());
        for (int i = 0; row != null && i <= row.size(); i++) {
            due(where + " fewest " + i, x.fewest(i), i < row.size() ? row.get(i) : -5);
        }
    }

    /** A spirit, copied at each word. */
    private static final class Soul {
        int kind, anger, pride, wrath, height, said, being;

        Soul(int kind, int anger, int pride, int wrath, int height) {
            this.kind = kind;
            this.anger = anger;
            this.pride = pride;
            this.wrath = wrath;
            this.height = height;
        }

        Soul copy() {
            Soul s = new Soul(kind, anger, pride, wrath, height);
            s.said = said;
            s.being = being;
            return s;
        }

        static int[] move(int kind, int w, int n) {
            int[] plain = new int[][] {{-1, 0}, {1, 3}, {0, 2}, {-2, 0}, {-3, -1}, {2, 0}}[w];
            if (kind == 0) {
                return plain;
            }
            int under = kind == 4 ? 1 : kind == 5 ? 2 : 0;
            int[] m = move(under, w, n);
            switch (kind) {
                case 1: return new int[] {m[0] < 0 ? -(-m[0] / 2) : m[0] / 2, m[1]};
                case 2: return new int[] {m[0] - 1, m[1]};
                case 3: return new int[] {m[0], -m[1]};
                case 4: return n % 2 == 1 ? new int[] {0, 0} : m;
                default: return new int[] {2 * m[0], m[1] + 1};
            }
        }

        Soul after(int w) {
            return after(w, false);
        }

        Soul after(int w, boolean sham) {
            Soul s = copy();
            if (being != 0) {
                return s;
            }
            int[] m = move(kind, w, said);
            if (!sham) {
                s.anger = Math.min(99, Math.max(0, anger + m[0]));
                s.pride = Math.min(99, Math.max(0, pride + m[1]));
            }
            s.said++;
            s.being = s.anger >= wrath ? 2 : w == 1 && s.pride >= height ? 1 : 0;
            return s;
        }

        /** Breadth first: the rows come by length, then rising. */
        List<Integer> fewest() {
            ArrayDeque<Soul> souls = new ArrayDeque<>();
            ArrayDeque<List<Integer>> rows = new ArrayDeque<>();
            HashSet<Integer> seen = new HashSet<>();
            souls.add(this);
            rows.add(new ArrayList<>());
            while (!souls.isEmpty()) {
                Soul s = souls.poll();
                List<Integer> row = rows.poll();
                if (s.being == 1) {
                    return row;
                }
                if (s.being == 2 || row.size() == 12) {
                    continue;
                }
                for (int w = 0; w < 6; w++) {
                    Soul then = s.after(w);
                    int key = ((then.anger * 100 + then.pride) * 3 + then.being) * 20 + row.size();
                    if (seen.add(key)) {
                        List<Integer> longer = new ArrayList<>(row);
                        longer.add(w);
                        souls.add(then);
                        rows.add(longer);
                    }
                }
            }
            return null;
        }

        /** Breadth first, too: the first row of the last layer that is not empty. */
        List<Integer> delay(boolean brief) {
            List<Integer> best = new ArrayList<>();
            List<Soul> souls = new ArrayList<>();
            List<List<Integer>> rows = new ArrayList<>();
            if (being == 0) {
                souls.add(this);
                rows.add(best);
            }
            for (int length = 1; length <= 12; length++) {
                List<Soul> nextSouls = new ArrayList<>();
                List<List<Integer>> nextRows = new ArrayList<>();
                HashSet<Integer> seen = new HashSet<>();
                for (int i = 0; i < souls.size(); i++) {
                    for (int w = 0; w < 6; w++) {
                        Soul then = souls.get(i).after(w);
                        boolean allowed = !brief || w != 3 && w != 4;
                        if (allowed && then.being == 0 && seen.add(then.anger * 100 + then.pride)) {
                            List<Integer> longer = new ArrayList<>(rows.get(i));
                            longer.add(w);
                            nextSouls.add(then);
                            nextRows.add(longer);
                        }
                    }
                }
                if (nextRows.isEmpty()) {
                    return best;
                }
                best = nextRows.get(0);
                souls = nextSouls;
                rows = nextRows;
            }
            return best;
        }

        int strikes(int w) {
            Soul s = copy();
            for (int i = 1; i <= 60 && s.being == 0; i++) {
                s = s.after(w);
                if (s.being == 2) {
                    return i;
                }
            }
            return -1;
        }

        /** Each way of hearing is weighed apart. */
        BigInteger[] odds(int[] row, int c) {
            BigInteger sum = BigInteger.ZERO;
            for (int heard = 0; heard < 1 << row.length; heard++) {
                Soul s = copy();
                BigInteger weight = BigInteger.ONE;
                for (int i = 0; i < row.length; i++) {
                    boolean hears = (heard >> i & 1) == 1;
                    weight = weight.multiply(BigInteger.valueOf(hears ? c : 10 - c));
                    s = hears ? s.after(row[i]) : s;
                }
                sum = s.being == 1 ? sum.add(weight) : sum;
            }
            BigInteger all = BigInteger.TEN.pow(row.length);
            BigInteger divisor = sum.gcd(all);
            return new BigInteger[] {sum.divide(divisor), all.divide(divisor)};
        }

        int jars(int seed, int n) {
            BigInteger x = BigInteger.valueOf(seed);
            int ins = 0;
            for (int i = 0; i < n; i++) {
                Soul s = copy();
                for (int k = 0; k < 20 && s.being == 0; k++) {
                    x = x.multiply(BigInteger.valueOf(1103515245)).add(BigInteger.valueOf(12345));
                    x = x.mod(BigInteger.valueOf(2147483648L));
                    s = s.after(x.divide(BigInteger.valueOf(65536)).mod(BigInteger.valueOf(6)).intValue());
                }
                ins += s.being == 1 ? 1 : 0;
            }
            return ins;
        }

        int lie(int w) {
            int[][] gets = new int[2][2];
            for (int his = 0; his < 2; his++) {
                for (int ones = 0; ones < 2; ones++) {
                    int being = after(ones == 0 ? w : 0, his == 1).being;
                    gets[his][ones] = being == 1 ? 2 : being == 0 ? 1 : 0;
                }
            }
            int bits = 0;
            for (int his = 0; his < 2; his++) {
                for (int ones = 0; ones < 2; ones++) {
                    boolean oneRests = gets[his][1 - ones] <= gets[his][ones];
                    boolean heRests = 2 - gets[1 - his][ones] <= 2 - gets[his][ones];
                    bits += oneRests && heRests ? 1 << his * 2 + ones : 0;
                }
            }
            return bits;
        }
    }

    /** All that an IMAGE keeps. */
    private static final class Kept {
        Soul soul = new Soul(0, 20, 0, 40, 9);
        int[] vows = {0, 1, 2, 3, 4, 4, 4, 4};
        final List<Soul> past = new ArrayList<>();
        final List<int[]> notes = new ArrayList<>();

        Kept copy() {
            Kept k = new Kept();
            k.soul = soul.copy();
            k.vows = vows.clone();
            k.past.addAll(past);
            k.notes.addAll(notes);
            return k;
        }

        void remember() {
            past.add(soul.copy());
            if (past.size() > 8) {
                past.remove(0);
            }
        }
    }

    /** One object, used for 512 calls at most: it is changed, and all that it has is compared by its digest. */
    private static final class Run {
        private static final int CALLS = 512, DEAREST = 60;

        private final int number;
        private final Random random;
        private final JarSpirit x = new JarSpirit();
        private final Kept[] images = new Kept[2];
        private final int[] refused = {0, 0, 0};
        private Kept now = new Kept();
        private Soul soul = now.soul;
        private String text = "";
        private long above = 0;
        private long below = 1;
        private int calls = 0;
        private String where;

        Run(int number) {
            this.number = number;
            this.random = new Random(number);
        }

        void go() {
            typeSome();
            for (int step = 0; calls < CALLS - DEAREST; step++) {
                where = "run " + number + " step " + step;
                change();
                compare();
                if (upTo(2) == 0) {
                    ask();
                }
            }
            goBackToFirst();
        }

        private int upTo(int most) {
            return random.nextInt(most + 1);
        }

        /** An answer is due, of one call more; a refusal is counted. */
        private void call(String what, long got, long want) {
            calls++;
            due(where + " " + what, got, want);
        }

        private long refuse(long answer) {
            refused[answer == NO ? 1 : answer == FULL ? 2 : 0]++;
            return answer;
        }

        private void typeSome() {
            where = "run " + number + " at first";
            while (text.isEmpty() || text.length() > 50) {
                text = anyText(random);
            }
            for (int i = 0; i < text.length(); i++) {
                call("type", x.type(text.charAt(i)), i + 1);
            }
        }

        private void change() {
            switch (upTo(17)) {
                case 0: changeJar(); break;
                case 1: changeMood(); break;
                case 2: changeBound(); break;
                case 3: changeVow(); break;
                case 4: case 5: addNote(); break;
                case 6: forgetNotes(); break;
                case 7: lidOff(); break;
                case 8: goBack(); break;
                case 9: keepImage(); break;
                case 10: goOnFromImage(); break;
                case 11: readText(); break;
                case 12: callBadly(); break;
                default: sayOne();
            }
        }

        private void goOn(Kept from) {
            now = from;
            soul = now.soul;
        }

        private void changeJar() {
            if (upTo(3) != 0) {
                return;
            }
            int kind = upTo(5);
            call("jar", x.jar(kind), soul.said);
            goOn(new Kept());
            soul.kind = kind;
        }

        private void changeMood() {
            int anger = upTo(upTo(1) == 0 ? 99 : 30);
            int pride = upTo(upTo(1) == 0 ? 99 : 12);
            boolean taken = anger < soul.wrath;
            call("mood", x.mood(anger, pride), taken ? 1 : refuse(NO));
            soul.anger = taken ? anger : soul.anger;
            soul.pride = taken ? pride : soul.pride;
        }

        private void changeBound() {
            int wrath = 1 + upTo(98);
            int height = 1 + upTo(upTo(1) == 0 ? 98 : 30);
            boolean taken = soul.anger < wrath;
            call("bound", x.bound(wrath, height), taken ? 1 : refuse(NO));
            soul.wrath = taken ? wrath : soul.wrath;
            soul.height = taken ? height : soul.height;
        }

        private void changeVow() {
            int c = upTo(7);
            int v = upTo(4);
            call("vow", x.vow(c, v), now.vows[c]);
            now.vows[c] = v;
        }

        private void addNote() {
            int w = upTo(5);
            int n = upTo(9);
            int[] m = Soul.move(upTo(5), w, n);
            boolean room = now.notes.size() < 6;
            if (room) {
                now.notes.add(new int[] {w, n, m[0], m[1]});
            }
            call("note", x.note(w, n, m[0], m[1]), room ? now.notes.size() : refuse(FULL));
        }

        private void forgetNotes() {
            call("forget", x.forget(), now.notes.size());
            now.notes.clear();
        }

        private void lidOff() {
            call("open", x.open(), soul.being == 1 ? soul.pride : refuse(NO));
            if (soul.being == 1) {
                now.remember();
                soul.being = 0;
                soul.pride = 0;
            }
        }

        private void goBack() {
            if (now.past.isEmpty()) {
                call("undo", x.undo(), refuse(NO));
                return;
            }
            Soul old = now.past.remove(now.past.size() - 1);
            soul.anger = old.anger;
            soul.pride = old.pride;
            soul.said = old.said;
            soul.being = old.being;
            call("undo", x.undo(), soul.said);
        }

        private void goBackToFirst() {
            where = "run " + number + " at last";
            while (!now.past.isEmpty()) {
                goBack();
                compare();
            }
        }

        private void keepImage() {
            int i = upTo(1);
            images[i] = now.copy();
            call("image " + i, x.image(i), 1);
        }

        private void goOnFromImage() {
            int i = upTo(1);
            call("from " + i, x.from(i), images[i] == null ? refuse(NO) : 1);
            if (images[i] != null) {
                goOn(images[i].copy());
            }
        }

        private void readText() {
            Telling telling = new Telling(text);
            int items = telling.read();
            call("read of \"" + text + "\"", x.read(), items);
            if (items > 0) {
                goOn(new Kept());
                soul = telling.soul;
                now.soul = soul;
                now.vows = telling.vows;
            }
        }

        private void callBadly() {
            switch (upTo(4)) {
                case 0: call("vow", x.vow(upTo(7), 5), refuse(BAD)); break;
                case 1: call("say", x.say(-1), refuse(BAD)); break;
                case 2: call("image", x.image(2), refuse(BAD)); break;
                case 3: call("odds", x.odds(10 * upTo(9), 11), refuse(BAD)); break;
                default: call("now", x.now(7), refuse(BAD));
            }
        }

        private void sayOne() {
            int w = upTo(5);
            if (soul.being != 0) {
                call("say", x.say(w), refuse(NO));
                return;
            }
            now.remember();
            soul = soul.after(w);
            now.soul = soul;
            call("say", x.say(w), soul.being);
        }

        private void compare() {
            call("digest", x.digest(), digestDue());
            int reason = upTo(2);
            call("status " + reason, x.status(reason), refused[reason]);
        }

        private long digestDue() {
            List<Long> all = new ArrayList<>();
            add(all, soul.said, now.notes.size(), now.past.size(), text.length());
            add(all, soul.kind, soul.anger, soul.pride, soul.wrath, soul.height, soul.being);
            add(all, now.vows);
            for (int[] note : now.notes) {
                add(all, note);
            }
            all.add(above);
            all.add(below);
            long h = 1223;
            for (long v : all) {
                h = 31 * h + v;
            }
            return h;
        }

        private static void add(List<Long> all, int... more) {
            for (int v : more) {
                all.add((long) v);
            }
        }

        private void ask() {
            switch (upTo(8)) {
                case 0: askWords(); break;
                case 1: compareFewest(where, x, soul); calls += 14; break;
                case 2: askDelay(); break;
                case 3: askStrikes(); break;
                case 4: askVows(); break;
                case 5: askKinds(); break;
                case 6: askLie(); break;
                case 7: askOdds(); break;
                default: askJars();
            }
        }

        private int[] anyRow(int most) {
            int[] row = new int[upTo(most)];
            for (int i = 0; i < row.length; i++) {
                row[i] = upTo(1) == 0 ? 1 : upTo(5);
            }
            return row;
        }

        private int told(int[] row) {
            int number = 0;
            for (int w : row) {
                number = number * 10 + w + 1;
            }
            return number;
        }

        private void askWords() {
            int[] row = anyRow(9);
            Soul s = soul;
            for (int w : row) {
                s = s.after(w);
            }
            int[] dues = {s.anger, s.pride, s.being, s.said - soul.said};
            for (int what = 0; what < 4; what++) {
                call("words " + told(row) + " " + what, x.words(told(row), what), dues[what]);
            }
        }

        private void askDelay() {
            for (int which = 0; which < 2; which++) {
                List<Integer> row = soul.delay(which == 1);
                call("delay", x.delay(which, -1), row.size());
                for (int i = 0; i <= row.size(); i++) {
                    call("delay " + i, x.delay(which, i), i < row.size() ? row.get(i) : -5);
                }
            }
        }

        private void askStrikes() {
            for (int w = 0; w < 6; w++) {
                call("strikes " + w, x.strikes(w), soul.strikes(w));
                int[] m = Soul.move(soul.kind, w, soul.said);
                call("moves ANGER " + w, x.moves(w, 0), m[0]);
                call("moves PRIDE " + w, x.moves(w, 1), m[1]);
            }
        }

        private void askVows() {
            for (int v = 0; v < 5; v++) {
                int bits = 0;
                int castUp = -1;
                for (int c = 7; c >= 0; c--) {
                    bits += now.vows[c] == v ? 1 << c : 0;
                    boolean fromHere = true;
                    for (int later = c; later < 8; later++) {
                        fromHere &= now.vows[later] >= v;
                    }
                    castUp = fromHere ? c : castUp;
                }
                call("since " + v, x.since(v), bits);
                call("cast " + v, x.cast(v), castUp);
            }
            int c = upTo(7);
            int sum = 0;
            for (int i = c; i < 8; i++) {
                sum += now.vows[i] == 4 ? -4 : now.vows[i];
            }
            call("reward", x.reward(c), 1);
            fractionIs(new BigInteger[] {BigInteger.valueOf(sum), BigInteger.valueOf(8 - c)});
        }

        private void askKinds() {
            List<Integer> kinds = new ArrayList<>();
            int bits = 0;
            for (int kind = 0; kind < 6; kind++) {
                boolean fits = true;
                for (int[] n : now.notes) {
                    int[] m = Soul.move(kind, n[0], n[1]);
                    fits &= m[0] == n[2] && m[1] == n[3];
                }
                if (fits) {
                    kinds.add(kind);
                    bits += 1 << kind;
                }
            }
            call("is", x.is(), bits);
            int best = -1;
            int fewest = 100;
            for (int w = 0; w < 6 && !kinds.isEmpty(); w++) {
                int most = 0;
                for (int kind : kinds) {
                    int alike = 0;
                    for (int other : kinds) {
                        alike += java.util.Arrays.equals(Soul.move(kind, w, soul.said), Soul.move(other, w, soul.said)) ? 1 : 0;
                    }
                    most = Math.max(most, alike);
                }
                if (most < fewest) {
                    fewest = most;
                    best = w;
                }
            }
            call("next", x.next(), best);
        }

        private void askLie() {
            for (int w = 0; w < 6; w++) {
                call("lie " + w, x.lie(w), soul.being == 0 ? soul.lie(w) : refuse(NO));
            }
        }

        private void askOdds() {
            int[] row = anyRow(7);
            int c = upTo(10);
            BigInteger[] odds = soul.odds(row, c);
            call("odds", x.odds(told(row), c), 1);
            fractionIs(odds);
        }

        private void fractionIs(BigInteger[] due) {
            BigInteger divisor = due[0].gcd(due[1]);
            above = due[0].divide(divisor).longValue();
            below = due[1].divide(divisor).longValue();
            call("above", x.part(0), above);
            call("below", x.part(1), below);
        }

        private void askJars() {
            int seed = upTo(999999);
            int n = upTo(60);
            call("jars", x.jars(seed, n), soul.jars(seed, n));
        }
    }
}
