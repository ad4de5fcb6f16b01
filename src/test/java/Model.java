import java.math.BigInteger;
import java.util.ArrayList;
import java.util.Arrays;
import java.util.List;
import java.util.function.IntPredicate;
import java.util.function.ToIntFunction;
import java.util.regex.Matcher;
import java.util.regex.Pattern;

/**
 * The document once more, as slowly and as near to its words as can be: fish by fish, letter by letter, with a
 * class for each kind and a new reef for each trial. ModelTests sets it beside BoneWords.
 */
final class Model {
    private static final int BEYOND = 0, FULL = 1, KIND = 2, NONE = 3, STATE = 4, MISSING = 5, SIZE = 6;

    static final class Finding extends RuntimeException {
        private static final long serialVersionUID = 1;
        final int which;

        Finding(int which) {
            super(null, null, false, false);
            this.which = which;
        }
    }

    private static void ask(boolean holds, int finding) {
        if (!holds) {
            throw new Finding(finding);
        }
    }

    private static void range(int v, int low, int high) {
        ask(low <= v && v <= high, BEYOND);
    }

    private static String spelt(int word) {
        return String.valueOf(10000 + word).substring(1);
    }

    // ---- kinds

    static class Writer {
        int number;

        int eats(int fat, int at) { return 2; }

        int writes(int fat) { return 2; }

        List<Integer> keeps(int[] bones) {
            List<Integer> all = new ArrayList<>();
            for (int b : bones) {
                if (likes(b)) {
                    all.add(b);
                }
            }
            return all;
        }

        boolean likes(int letter) { return true; }
    }

    static class Poet extends Writer {
        @Override int eats(int fat, int at) { return fat >= 60 ? 0 : super.eats(fat, at); }

        @Override int writes(int fat) { return super.writes(fat) + (fat < 20 ? 2 : 0); }

        @Override boolean likes(int letter) { return letter != 0; }
    }

    static class Widow extends Poet {
        @Override int eats(int fat, int at) { return Math.max(0, super.eats(fat, at) - 1); }

        @Override int writes(int fat) { return 1; }
    }

    static class Scholar extends Writer {
        @Override int eats(int fat, int at) { return super.eats(fat, at) + 1; }
    }

    static class Lawyer extends Scholar {
        @Override int eats(int fat, int at) { return 2 * super.eats(fat, at); }

        @Override int writes(int fat) { return super.writes(fat) + 2; }

        @Override boolean likes(int letter) { return List.of(0, 2, 4, 6, 8).contains(letter); }
    }

    static class Censor extends Lawyer {
        @Override int eats(int fat, int at) { return super.eats(fat, at) - at; }

        @Override int writes(int fat) { return 0; }

        @Override boolean likes(int letter) { return false; }
    }

    static class Child extends Writer {
        @Override int eats(int fat, int at) { return 1; }

        @Override int writes(int fat) { return fat % 2 != 0 ? super.writes(fat) - 1 : super.writes(fat); }

        @Override List<Integer> keeps(int[] bones) { return List.of(bones[0]); }
    }

    private static final Writer[] KINDS =
        {new Writer(), new Poet(), new Scholar(), new Lawyer(), new Censor(), new Child(), new Widow()};
    private static final List<String> NAMES =
        List.of("writer", "poet", "scholar", "lawyer", "censor", "child", "widow");

    // ---- the reef

    static final class One {
        int kind, at, fat = 30, written;
        String word;
        boolean away;

        One(int kind, int word) {
            this.kind = kind;
            this.word = spelt(word);
        }

        int next() { return word.charAt(at) - '0'; }

        void putNext(int letter) { word = word.substring(0, at) + letter + word.substring(at + 1); }

        int told(int what) {
            return new int[] {kind, Integer.parseInt(word), at, fat, written}[what];
        }

        One copyOfIt() {
            One c = new One(kind, Integer.parseInt(word));
            c.at = at;
            c.fat = fat;
            c.written = written;
            return c;
        }
    }

    static final class State {
        int[] jar = new int[10];
        int[] bones = {12, 12, 12, 12, 12, 12};
        int[] list = {3, 3, 3, 3, 3, 3};
        int[] spots = {-1, -1, -1, -1, -1, -1, -1, -1, -1, -1};
        List<One> writers = new ArrayList<>();
        int day = 0;
        int z = 1;

        State twin() {
            State c = new State();
            c.jar = jar.clone();
            c.bones = bones.clone();
            c.list = list.clone();
            c.spots = spots.clone();
            for (One w : writers) {
                c.writers.add(w.copyOfIt());
            }
            c.day = day;
            c.z = z;
            return c;
        }

        int[] three(int fish) {
            String s = String.valueOf(1000 + bones[fish]).substring(1);
            return new int[] {s.charAt(0) - '0', s.charAt(1) - '0', s.charAt(2) - '0'};
        }

        void day() {
            int left = list[day % 6];
            for (One w : writers) {
                int eats = w.away ? 0 : KINDS[w.kind].eats(w.fat, w.at);
                while (eats > 0 && left > 0) {
                    eats--;
                    left--;
                    for (int letter : KINDS[w.kind].keeps(three(day % 6))) {
                        if (jar[letter] < 999) {
                            jar[letter]++;
                        }
                    }
                    w.fat = w.fat + 3 > 99 ? 99 : w.fat + 3;
                }
            }
            for (One w : writers) {
                int writes = w.away ? 0 : KINDS[w.kind].writes(w.fat);
                while (writes > 0 && jar[w.next()] > 0) {
                    writes--;
                    jar[w.next()]--;
                    if (w.at < 3) {
                        w.at++;
                    } else {
                        w.at = 0;
                        w.written = w.written == 9999 ? 9999 : w.written + 1;
                    }
                }
            }
            for (One w : writers) {
                w.fat = w.fat < 2 ? 0 : w.fat - 2;
            }
            if (day < 99999) {
                day++;
            }
            if (day % 7 == 0) {
                for (int l = 0; l < 10; l++) {
                    jar[l] = jar[l] - jar[l] / 10;
                }
            }
        }

        State days(int n) {
            for (int i = 0; i < n; i++) {
                day();
            }
            return this;
        }

        int sum(int what) {
            return writers.stream().mapToInt(w -> w.told(what)).sum();
        }

        int letters() { return Arrays.stream(jar).sum(); }

        int draw() {
            z = (int) (z * 1103515245L + 12345L);
            return (int) ((z & 0xffffffffL) / 256);
        }
    }

    private State now = new State();
    private State kept = null;
    private String tape = "";
    private final long[][] sheets = new long[4][];
    private final int[] bitsOf = new int[4];
    private final int[] found = new int[7];

    /** Not a call: what an act answers with a finding. */
    long answer(Finding f) {
        found[f.which]++;
        return -1000001 - f.which;
    }

    private One one(int writer) {
        range(writer, 0, now.writers.size() - 1);
        return now.writers.get(writer);
    }

    private static int set(int end, IntPredicate in) {
        int bits = 0;
        for (int i = 0; i < end; i++) {
            if (in.test(i)) {
                bits += 1 << i;
            }
        }
        return bits;
    }

    private static int bestOf(int end, ToIntFunction<Integer> worth) {
        int best = 0;
        for (int i = 1; i < end; i++) {
            if (worth.applyAsInt(i) > worth.applyAsInt(best)) {
                best = i;
            }
        }
        return best;
    }

    private static int firstOf(int from, int to, IntPredicate holds) {
        for (int i = from; i <= to; i++) {
            if (holds.test(i)) {
                return i;
            }
        }
        throw new Finding(NONE);
    }

    // ---- the calls

    public int jar(int letter, int v) {
        range(letter, 0, 9);
        range(v, 0, 999);
        int was = now.jar[letter];
        now.jar[letter] = v;
        return was;
    }

    public int bones(int letter) {
        range(letter, 0, 9);
        return now.jar[letter];
    }

    public int fish(int fish, int what, int v) {
        range(fish, 0, 5);
        range(what, 0, 1);
        range(v, 0, what == 0 ? 999 : 20);
        int[] row = what == 0 ? now.bones : now.list;
        int was = row[fish];
        row[fish] = v;
        return was;
    }

    public int fishOf(int fish, int what) {
        range(fish, 0, 5);
        range(what, 0, 2);
        return new int[] {now.bones[fish], now.list[fish],
            (int) Arrays.stream(now.three(fish)).distinct().count()}[what];
    }

    public int writer(int kind, int word) {
        range(kind, 0, 6);
        range(word, 0, 9999);
        ask(now.writers.size() < 8, FULL);
        now.writers.add(new One(kind, word));
        return now.writers.size() - 1;
    }

    public int of(int writer, int what) {
        One w = one(writer);
        range(what, 0, 7);
        if (what < 5) {
            return w.told(what);
        }
        return what == 5 ? KINDS[w.kind].eats(w.fat, w.at) : what == 6 ? KINDS[w.kind].writes(w.fat) : w.next();
    }

    public int change(int writer, int what, int v) {
        One w = one(writer);
        range(what, 0, 4);
        range(v, 0, new int[] {6, 9999, 3, 99, 9999}[what]);
        int was = w.told(what);
        if (what == 0) {
            w.kind = v;
        } else if (what == 1) {
            w.word = spelt(v);
        } else if (what == 2) {
            w.at = v;
        } else if (what == 3) {
            w.fat = v;
        } else {
            w.written = v;
        }
        return was;
    }

    public int keeps(int writer, int fish) {
        One w = one(writer);
        range(fish, 0, 5);
        List<Integer> kept = KINDS[w.kind].keeps(now.three(fish));
        return set(10, kept::contains);
    }

    private static boolean has(int[] jar, String word, int times) {
        int[] rest = jar.clone();
        for (char c : word.toCharArray()) {
            rest[c - '0'] -= times;
        }
        return Arrays.stream(rest).allMatch(r -> r >= 0);
    }

    public int spells(int word) {
        range(word, 0, 9999);
        String s = spelt(word);
        int times = 0;
        while (has(now.jar, s, times + 1)) {
            times++;
        }
        return times;
    }

    public int go(int n) {
        range(n, 1, 60);
        ask(now.day + n <= 99999, STATE);
        return now.days(n).sum(4);
    }

    public int now(int what) {
        range(what, 0, 6);
        switch (what) {
            case 0: return now.day;
            case 1: return now.sum(4);
            case 2: return now.letters();
            case 3: return now.sum(3);
            case 4: return set(now.writers.size(), w -> now.jar[now.writers.get(w).next()] == 0);
            case 5: return set(10, l -> now.jar[l] == 0);
            default: return set(now.writers.size(), w -> now.writers.get(w).fat == 0);
        }
    }

    public int ahead(int writer, int what, int n) {
        one(writer);
        range(what, 2, 4);
        range(n, 0, 100);
        return now.twin().days(n).writers.get(writer).told(what);
    }

    public int later(int letter, int n) {
        range(letter, 0, 9);
        range(n, 0, 100);
        return now.twin().days(n).jar[letter];
    }

    public int when(int writer, int v) {
        one(writer);
        range(v, 0, 9999);
        return firstOf(0, 100, n -> now.twin().days(n).writers.get(writer).written >= v);
    }

    public int starves(int writer) {
        one(writer);
        return firstOf(0, 100, n -> now.twin().days(n).writers.get(writer).fat == 0);
    }

    public int out(int letter) {
        range(letter, 0, 9);
        return firstOf(0, 100, n -> now.twin().days(n).jar[letter] == 0);
    }

    public int catchFor(int n) {
        range(n, 0, 40);
        return bestOf(6, f -> {
            State t = now.twin();
            t.list[f] = 20;
            return t.days(n).sum(4);
        });
    }

    public int fewest(int fish, int writer, int v, int n) {
        range(fish, 0, 5);
        one(writer);
        range(v, 0, 9999);
        range(n, 0, 40);
        return firstOf(0, 20, c -> {
            State t = now.twin();
            t.list[fish] = c;
            return t.days(n).writers.get(writer).written >= v;
        });
    }

    private State withLetter(int writer, int letter) {
        State t = now.twin();
        t.writers.get(writer).putNext(letter);
        return t;
    }

    private State withKind(int writer, int kind) {
        State t = now.twin();
        t.writers.get(writer).kind = kind;
        return t;
    }

    public int letterFor(int writer, int n) {
        one(writer);
        range(n, 0, 40);
        return bestOf(10, l -> withLetter(writer, l).days(n).writers.get(writer).written);
    }

    public int kindFor(int writer, int n) {
        one(writer);
        range(n, 0, 40);
        return bestOf(7, k -> withKind(writer, k).days(n).writers.get(writer).written);
    }

    public int away(int writer, int v, int n) {
        one(writer);
        range(v, 0, 9999);
        range(n, 0, 20);
        int best = -1;
        for (int s = 0; s < 1 << now.writers.size(); s++) {
            if ((s & 1 << writer) != 0 || best >= 0 && Integer.bitCount(s) >= Integer.bitCount(best)) {
                continue;
            }
            State t = now.twin();
            for (int w = 0; w < t.writers.size(); w++) {
                t.writers.get(w).away = (s & 1 << w) != 0;
            }
            if (t.days(n).writers.get(writer).written >= v) {
                best = s;
            }
        }
        ask(best >= 0, NONE);
        return best;
    }

    public int bonesFor(int fish, int n) {
        range(fish, 0, 5);
        range(n, 0, 6);
        int best = -1;
        int most = -1;
        for (int b = 999; b >= 0; b--) {
            State t = now.twin();
            t.bones[fish] = b;
            int letters = t.days(n).letters();
            if (letters >= most) {
                most = letters;
                best = b;
            }
        }
        return best;
    }

    private long[] thereIs(int s) {
        range(s, 0, 3);
        ask(sheets[s] != null, MISSING);
        return sheets[s];
    }

    private static boolean tells(long[] sheet, State t, int writer) {
        boolean all = true;
        for (int i = 0; i < sheet.length; i++) {
            all &= sheet[i] == -1 || sheet[i] == t.writers.get(writer).at;
            t.day();
        }
        return all;
    }

    public int fits(int s, int writer) {
        long[] sheet = thereIs(s);
        one(writer);
        return set(10, l -> tells(sheet, withLetter(writer, l), writer));
    }

    public int kinds(int s, int writer) {
        long[] sheet = thereIs(s);
        one(writer);
        return set(7, k -> tells(sheet, withKind(writer, k), writer));
    }

    public int texts(int v) {
        range(v, 0, 9);
        int n = 0;
        for (int w = 0; w < 10000; w++) {
            if (has(now.jar, spelt(w), v)) {
                n++;
            }
        }
        return n;
    }

    public int catches(int n) {
        range(n, 1, 20);
        ask(now.day + n <= 99999, STATE);
        for (int i = 0; i < n; i++) {
            int fish = now.draw() % 6;
            int fishes = now.draw() % 21;
            now.list[fish] = fishes;
            now.day();
        }
        return now.sum(4);
    }

    public long odds(int word, int what) {
        range(word, 0, 9999);
        range(what, 0, 1);
        ask(now.letters() > 0, STATE);
        BigInteger above = BigInteger.ONE;
        for (char c : spelt(word).toCharArray()) {
            above = above.multiply(BigInteger.valueOf(now.jar[c - '0']));
        }
        BigInteger below = BigInteger.valueOf(now.letters()).pow(4);
        BigInteger shared = above.gcd(below);
        return (what == 0 ? above : below).divide(shared).longValueExact();
    }

    public int seed(int v) {
        int was = now.z;
        now.z = v;
        return was;
    }

    public int feed(int bytes, int n) {
        range(n, 1, 4);
        ask(tape.length() + n <= 120, FULL);
        String all = "" + (char) (bytes >>> 24) + (char) (bytes >>> 16 & 255) + (char) (bytes >>> 8 & 255)
            + (char) (bytes & 255);
        tape += all.substring(4 - n);
        return tape.length();
    }

    public int wipe() {
        int had = tape.length();
        tape = "";
        return had;
    }

    // ---- texts: first all tokens, then the items

    private static final Pattern TOKENS = Pattern.compile(" *(?:([a-z]+)|([0-9]+)|(;)|([^ ])|$)", Pattern.DOTALL);

    static final class Fault extends RuntimeException {
        private static final long serialVersionUID = 1;

        Fault() {
            super(null, null, false, false);
        }
    }

    private final List<String> tokens = new ArrayList<>();
    private final List<Integer> places = new ArrayList<>();
    private int read;

    private void cut() {
        tokens.clear();
        places.clear();
        read = 0;
        Matcher m = TOKENS.matcher(tape);
        int from = 0;
        while (from < tape.length() && m.find(from)) {
            for (int g = 1; g <= 4; g++) {
                if (m.group(g) != null) {
                    tokens.add(m.group(g));
                    places.add(m.start(g));
                }
            }
            from = m.end();
        }
        tokens.add("");
        places.add(tape.length());
    }

    private boolean may(String token) {
        if (tokens.get(read).equals(token)) {
            read++;
            return true;
        }
        return false;
    }

    private int number(int most) {
        String t = tokens.get(read);
        if (!t.matches("[0-9]+") || new BigInteger(t).compareTo(BigInteger.valueOf(most)) > 0) {
            throw new Fault();
        }
        read++;
        return Integer.parseInt(t);
    }

    private void item(State t) {
        if (may("fish")) {
            int fish = number(5);
            t.bones[fish] = number(999);
            if (may("catch")) {
                t.list[fish] = number(20);
            }
        } else if (may("jar")) {
            int letter = number(9);
            t.jar[letter] = number(999);
        } else {
            int kind = NAMES.indexOf(tokens.get(read));
            if (kind < 0 || t.writers.size() == 8) {
                throw new Fault();
            }
            read++;
            One w = new One(kind, may("word") ? number(9999) : 0);
            w.fat = may("fat") ? number(99) : 30;
            t.writers.add(w);
        }
    }

    public int text() {
        cut();
        State t = now.twin();
        int items = 0;
        try {
            do {
                item(t);
                items++;
            } while (may(";"));
            if (!tokens.get(read).isEmpty()) {
                throw new Fault();
            }
            now = t;
        } catch (Fault f) {
            items = -1 - places.get(read);
        }
        tape = "";
        return items;
    }

    // ---- spots, sheets, images

    public int hold(int spot, int writer) {
        range(spot, 0, 9);
        range(writer, -1, now.writers.size() - 1);
        now.spots[spot] = writer;
        return 1;
    }

    public int as(int spot, int kind) {
        range(spot, 0, 9);
        range(kind, 0, 6);
        ask(now.spots[spot] >= 0, MISSING);
        One w = now.writers.get(now.spots[spot]);
        ask(KINDS[kind].getClass().isInstance(KINDS[w.kind]), KIND);
        return now.spots[spot];
    }

    public int sheet(int s, int bits, int n) {
        range(s, 0, 3);
        ask(List.of(0, 8, 16, 32).contains(bits), BEYOND);
        ask(n >= 0, SIZE);
        ask(n <= 40, BEYOND);
        sheets[s] = bits == 0 ? null : new long[n];
        bitsOf[s] = bits;
        return bits == 0 ? 0 : n;
    }

    public int write(int s, int i, int v) {
        long[] sheet = thereIs(s);
        range(i, 0, sheet.length - 1);
        sheet[i] = bitsOf[s] == 32 ? v : Math.floorMod(v + (1L << bitsOf[s] - 1), 1L << bitsOf[s]) - (1L << bitsOf[s] - 1);
        return 1;
    }

    public int copy(int s, int from, int t, int to, int n) {
        range(s, 0, 3);
        range(t, 0, 3);
        long[] one = thereIs(s);
        long[] other = thereIs(t);
        ask(bitsOf[s] == bitsOf[t], KIND);
        ask(from >= 0 && to >= 0 && n >= 0, BEYOND);
        ask((long) from + n <= one.length && (long) to + n <= other.length, BEYOND);
        long[] were = one.clone();
        for (int i = 0; i < n; i++) {
            other[to + i] = were[from + i];
        }
        return n;
    }

    public int load(int s) {
        int came = 0;
        for (long v : thereIs(s)) {
            if (came == 10 || v < 0 || v > 999) {
                break;
            }
            now.jar[came++] = (int) v;
        }
        return came;
    }

    public int judge(int s) {
        long[] sheet = thereIs(s);
        for (int i = 0; i < sheet.length; i++) {
            if (i >= now.writers.size() || now.writers.get(i).written != sheet[i]) {
                return i + 1;
            }
        }
        return 0;
    }

    public int image() {
        kept = now.twin();
        return 1;
    }

    public int undo() {
        ask(kept != null, NONE);
        now = kept.twin();
        return now.day;
    }

    public int tear() {
        int was = kept == null ? 0 : 1;
        kept = null;
        return was;
    }

    public int count(int what) {
        range(what, 0, 7);
        switch (what) {
            case 0: return now.day;
            case 1: return now.writers.size();
            case 2: return now.letters();
            case 3: return now.sum(4);
            case 4: return now.sum(3);
            case 5: return tape.length();
            case 6: return now.z;
            default: return (int) Arrays.stream(now.spots).filter(w -> w >= 0).count();
        }
    }

    public int status(int which) {
        range(which, -1, 6);
        return which == -1 ? Arrays.stream(found).sum() : found[which];
    }
}
