/** Fishbones as an alphabet: a reef on which words are eaten, and written with the bones. */
public final class BoneWords {
    private static final int LOW = -1000001;
    private static final int BEYOND = 0;
    private static final int FULL = 1;
    private static final int UNKIND = 2;
    private static final int NONE = 3;
    private static final int STATE = 4;
    private static final int MISSING = 5;
    private static final int SIZE = 6;
    private static final int ALL_FINDINGS = 7;

    private static final int LETTERS = 10;
    private static final int FISHES = 6;
    private static final int WRITERS = 8;
    private static final int SPOTS = 10;
    private static final int SHEETS = 4;
    private static final int NUMBERS = 40;
    private static final int TAPE = 120;
    private static final int MOST_BONES = 999;
    private static final int MOST_CATCH = 20;
    private static final int MOST_WORD = 9999;
    private static final int MOST_FAT = 99;
    private static final int MOST_WRITTEN = 9999;
    private static final int LAST_DAY = 99999;
    private static final int FAT_AT_FIRST = 30;
    private static final int PLACES = 4;

    /** What is told of a writer, as of() and change() number it. */
    private static final int KIND = 0;
    private static final int WORD = 1;
    private static final int AT = 2;
    private static final int FAT = 3;
    private static final int WRITTEN = 4;
    private static final int[] MOST = {6, MOST_WORD, 3, MOST_FAT, MOST_WRITTEN};

    /** What the digit in each place of a word counts. */
    private static final int[] TENS = {1000, 100, 10, 1};

    private static final int FORESIGHT = 100;
    private static final int PLAN = 40;
    private static final int PLAN_AWAY = 20;
    private static final int PLAN_BONES = 6;

    private final Reef reef = new Reef();
    /** What will be is tried here, so that no call needs a new reef. */
    private final Reef trial = new Reef();
    private final Reef kept = new Reef();
    private boolean isKept = false;
    private final Sheet[] sheets = new Sheet[SHEETS];
    private final Tape tape = new Tape();
    private final int[] found = new int[ALL_FINDINGS];
    private final long[] rows = new long[PLACES + 1];

    public BoneWords() {
        for (int s = 0; s < SHEETS; s++) {
            sheets[s] = new Sheet();
        }
    }

    // ---- jar, fishes, writers

    public int jar(int letter, int v) {
        if (!isLetter(letter) || !within(v, MOST_BONES)) {
            return finding(BEYOND);
        }
        int had = reef.jar[letter];
        reef.jar[letter] = v;
        return had;
    }

    public int bones(int letter) {
        return isLetter(letter) ? reef.jar[letter] : finding(BEYOND);
    }

    public int fish(int fish, int what, int v) {
        if (!isFish(fish) || !within(what, 1) || !within(v, what == 0 ? MOST_BONES : MOST_CATCH)) {
            return finding(BEYOND);
        }
        int[] row = what == 0 ? reef.bonesOf : reef.catchOf;
        int was = row[fish];
        row[fish] = v;
        return was;
    }

    public int fishOf(int fish, int what) {
        if (!isFish(fish) || !within(what, 2)) {
            return finding(BEYOND);
        }
        if (what == 0) {
            return reef.bonesOf[fish];
        }
        return what == 1 ? reef.catchOf[fish] : Integer.bitCount(lettersOf(reef.bonesOf[fish]));
    }

    public int writer(int kind, int word) {
        if (!Kinds.isKind(kind) || !within(word, MOST_WORD)) {
            return finding(BEYOND);
        }
        if (reef.isFull()) {
            return finding(FULL);
        }
        return reef.addWriter(kind, word, FAT_AT_FIRST);
    }

    public int of(int writer, int what) {
        if (!isWriter(writer) || !within(what, 7)) {
            return finding(BEYOND);
        }
        switch (what) {
            case 5:
                return reef.eats(writer);
            case 6:
                return reef.writes(writer);
            case 7:
                return reef.nextLetter(writer);
            default:
                return reef.row(what)[writer];
        }
    }

    public int change(int writer, int what, int v) {
        if (!isWriter(writer) || !within(what, WRITTEN) || !within(v, MOST[what])) {
            return finding(BEYOND);
        }
        int[] row = reef.row(what);
        int was = row[writer];
        row[writer] = v;
        return was;
    }

    public int keeps(int writer, int fish) {
        if (!isWriter(writer) || !isFish(fish)) {
            return finding(BEYOND);
        }
        int set = 0;
        for (int place = 0; place < 3; place++) {
            int letter = bone(reef.bonesOf[fish], place);
            if (Kinds.isKept(reef.kind[writer], place, letter)) {
                set |= 1 << letter;
            }
        }
        return set;
    }

    public int spells(int word) {
        if (!within(word, MOST_WORD)) {
            return finding(BEYOND);
        }
        int times = MOST_BONES;
        for (int place = 0; place < PLACES; place++) {
            int letter = digit(word, place);
            times = Math.min(times, reef.jar[letter] / Math.max(1, howOften(letter, word)));
        }
        return times;
    }

    // ---- days

    public int go(int n) {
        if (n < 1 || n > 60) {
            return finding(BEYOND);
        }
        if (reef.day > LAST_DAY - n) {
            return finding(STATE);
        }
        reef.passDays(n, 0);
        return reef.sumOf(WRITTEN);
    }

    public int now(int what) {
        switch (what) {
            case 0:
                return reef.day;
            case 1:
                return reef.sumOf(WRITTEN);
            case 2:
                return reef.lettersInJar();
            case 3:
                return reef.sumOf(FAT);
            case 4:
                return reef.writersWhoWait();
            case 5:
                return reef.lettersLacking();
            case 6:
                return reef.writersWhoStarve();
            default:
                return finding(BEYOND);
        }
    }

    // ---- what will be (nothing changes)

    public int ahead(int writer, int what, int n) {
        if (!isWriter(writer) || what < AT || what > WRITTEN || !within(n, FORESIGHT)) {
            return finding(BEYOND);
        }
        trial.become(reef);
        trial.passDays(n, 0);
        return trial.row(what)[writer];
    }

    public int later(int letter, int n) {
        if (!isLetter(letter) || !within(n, FORESIGHT)) {
            return finding(BEYOND);
        }
        trial.become(reef);
        trial.passDays(n, 0);
        return trial.jar[letter];
    }

    public int when(int writer, int v) {
        if (!isWriter(writer) || !within(v, MOST_WRITTEN)) {
            return finding(BEYOND);
        }
        trial.become(reef);
        for (int days = 0; days <= FORESIGHT; days++) {
            if (trial.written[writer] >= v) {
                return days;
            }
            trial.dayGoesBy(0);
        }
        return finding(NONE);
    }

    public int starves(int writer) {
        if (!isWriter(writer)) {
            return finding(BEYOND);
        }
        return daysUntilNone(trial.fat, writer);
    }

    public int out(int letter) {
        if (!isLetter(letter)) {
            return finding(BEYOND);
        }
        return daysUntilNone(trial.jar, letter);
    }

    /** The row is one of the trial's own. */
    private int daysUntilNone(int[] row, int i) {
        trial.become(reef);
        for (int days = 0; days <= FORESIGHT; days++) {
            if (row[i] == 0) {
                return days;
            }
            trial.dayGoesBy(0);
        }
        return finding(NONE);
    }

    // ---- what to catch, to write

    public int catchFor(int n) {
        if (!within(n, PLAN)) {
            return finding(BEYOND);
        }
        int best = 0;
        int most = -1;
        for (int fish = 0; fish < FISHES; fish++) {
            trial.become(reef);
            trial.catchOf[fish] = MOST_CATCH;
            trial.passDays(n, 0);
            int all = trial.sumOf(WRITTEN);
            if (all > most) {
                most = all;
                best = fish;
            }
        }
        return best;
    }

    public int fewest(int fish, int writer, int v, int n) {
        if (!isFish(fish) || !isWriter(writer) || !within(v, MOST_WRITTEN) || !within(n, PLAN)) {
            return finding(BEYOND);
        }
        for (int fishes = 0; fishes <= MOST_CATCH; fishes++) {
            trial.become(reef);
            trial.catchOf[fish] = fishes;
            trial.passDays(n, 0);
            if (trial.written[writer] >= v) {
                return fishes;
            }
        }
        return finding(NONE);
    }

    public int letterFor(int writer, int n) {
        if (!isWriter(writer) || !within(n, PLAN)) {
            return finding(BEYOND);
        }
        int best = 0;
        int most = -1;
        for (int letter = 0; letter < LETTERS; letter++) {
            trial.become(reef);
            trial.putNextLetter(writer, letter);
            trial.passDays(n, 0);
            if (trial.written[writer] > most) {
                most = trial.written[writer];
                best = letter;
            }
        }
        return best;
    }

    public int kindFor(int writer, int n) {
        if (!isWriter(writer) || !within(n, PLAN)) {
            return finding(BEYOND);
        }
        int best = 0;
        int most = -1;
        for (int kind = 0; kind < Kinds.COUNT; kind++) {
            trial.become(reef);
            trial.kind[writer] = kind;
            trial.passDays(n, 0);
            if (trial.written[writer] > most) {
                most = trial.written[writer];
                best = kind;
            }
        }
        return best;
    }

    public int away(int writer, int v, int n) {
        if (!isWriter(writer) || !within(v, MOST_WRITTEN) || !within(n, PLAN_AWAY)) {
            return finding(BEYOND);
        }
        int sets = 1 << reef.writers;
        for (int size = 0; size < reef.writers; size++) {
            for (int set = 0; set < sets; set++) {
                if (Integer.bitCount(set) != size || (set >> writer & 1) == 1) {
                    continue;
                }
                trial.become(reef);
                trial.passDays(n, set);
                if (trial.written[writer] >= v) {
                    return set;
                }
            }
        }
        return finding(NONE);
    }

    public int bonesFor(int fish, int n) {
        if (!isFish(fish) || !within(n, PLAN_BONES)) {
            return finding(BEYOND);
        }
        int best = 0;
        int most = -1;
        for (int three = 0; three <= MOST_BONES; three++) {
            trial.become(reef);
            trial.bonesOf[fish] = three;
            trial.passDays(n, 0);
            int all = trial.lettersInJar();
            if (all > most) {
                most = all;
                best = three;
            }
        }
        return best;
    }

    // ---- what was written

    public int fits(int s, int writer) {
        int wrong = findingOf(s, writer);
        if (wrong != 0) {
            return wrong;
        }
        int set = 0;
        for (int letter = 0; letter < LETTERS; letter++) {
            trial.become(reef);
            trial.putNextLetter(writer, letter);
            if (goesAsTold(sheets[s], writer)) {
                set |= 1 << letter;
            }
        }
        return set;
    }

    public int kinds(int s, int writer) {
        int wrong = findingOf(s, writer);
        if (wrong != 0) {
            return wrong;
        }
        int set = 0;
        for (int kind = 0; kind < Kinds.COUNT; kind++) {
            trial.become(reef);
            trial.kind[writer] = kind;
            if (goesAsTold(sheets[s], writer)) {
                set |= 1 << kind;
            }
        }
        return set;
    }

    /** 0 if the sheet is there and the writer too. */
    private int findingOf(int s, int writer) {
        if (!isSheet(s)) {
            return finding(BEYOND);
        }
        if (sheets[s].isMissing()) {
            return finding(MISSING);
        }
        return isWriter(writer) ? 0 : finding(BEYOND);
    }

    /** Whether the trial, from today on, brings a writer's AT as the sheet tells it. */
    private boolean goesAsTold(Sheet sheet, int writer) {
        for (int i = 0; i < sheet.size; i++) {
            if (i > 0) {
                trial.dayGoesBy(0);
            }
            if (sheet.row[i] != -1 && sheet.row[i] != trial.at[writer]) {
                return false;
            }
        }
        return true;
    }

    /** Words are not tried one by one: rows[k] counts the ways to fill k places with the letters so far. */
    public int texts(int v) {
        if (!within(v, 9)) {
            return finding(BEYOND);
        }
        for (int k = 0; k <= PLACES; k++) {
            rows[k] = k == 0 ? 1 : 0;
        }
        for (int letter = 0; letter < LETTERS; letter++) {
            int most = v == 0 ? PLACES : Math.min(PLACES, reef.jar[letter] / v);
            for (int k = PLACES; k >= 1; k--) {
                for (int j = 1; j <= Math.min(most, k); j++) {
                    rows[k] += choices(k, j) * rows[k - j];
                }
            }
        }
        return (int) rows[PLACES];
    }

    /** In how many ways j of k places can be chosen. */
    private static long choices(int k, int j) {
        long ways = 1;
        for (int i = 1; i <= j; i++) {
            ways = ways * (k - j + i) / i;
        }
        return ways;
    }

    // ---- catches by draws

    public int catches(int n) {
        if (n < 1 || n > 20) {
            return finding(BEYOND);
        }
        if (reef.day > LAST_DAY - n) {
            return finding(STATE);
        }
        for (int i = 0; i < n; i++) {
            int fish = reef.draw() % FISHES;
            reef.catchOf[fish] = reef.draw() % (MOST_CATCH + 1);
            reef.dayGoesBy(0);
        }
        return reef.sumOf(WRITTEN);
    }

    public long odds(int word, int what) {
        if (!within(word, MOST_WORD) || !within(what, 1)) {
            return finding(BEYOND);
        }
        long all = reef.lettersInJar();
        if (all == 0) {
            return finding(STATE);
        }
        long above = 1;
        long below = 1;
        for (int place = 0; place < PLACES; place++) {
            above *= reef.jar[digit(word, place)];
            below *= all;
        }
        long shared = Math.max(1, commonDivisor(below, above));
        return what == 0 ? above / shared : below / shared;
    }

    private static long commonDivisor(long a, long b) {
        long high = a;
        long low = b;
        for (int i = 0; i < 200 && low != 0; i++) {
            long rest = high % low;
            high = low;
            low = rest;
        }
        return high;
    }

    public int seed(int v) {
        int was = reef.z;
        reef.z = v;
        return was;
    }

    // ---- texts

    public int feed(int bytes, int n) {
        if (n < 1 || n > 4) {
            return finding(BEYOND);
        }
        if (tape.size > TAPE - n) {
            return finding(FULL);
        }
        for (int i = n - 1; i >= 0; i--) {
            tape.add(bytes >>> (8 * i) & 255);
        }
        return tape.size;
    }

    public int wipe() {
        int had = tape.size;
        tape.size = 0;
        return had;
    }

    /** Items are read into the trial, so that one with a fault leaves the reef alone. */
    public int text() {
        trial.become(reef);
        int answer = tape.readInto(trial);
        if (answer >= 0) {
            reef.become(trial);
        }
        tape.size = 0;
        return answer;
    }

    // ---- spots, sheets

    public int hold(int spot, int writer) {
        if (!within(spot, SPOTS - 1) || writer != -1 && !isWriter(writer)) {
            return finding(BEYOND);
        }
        reef.spots[spot] = writer;
        return 1;
    }

    public int as(int spot, int kind) {
        if (!within(spot, SPOTS - 1) || !Kinds.isKind(kind)) {
            return finding(BEYOND);
        }
        int writer = reef.spots[spot];
        if (!isWriter(writer)) {
            return finding(MISSING);
        }
        return Kinds.isUnder(reef.kind[writer], kind) ? writer : finding(UNKIND);
    }

    public int sheet(int s, int bits, int n) {
        if (!isSheet(s) || bits != 0 && bits != 8 && bits != 16 && bits != 32) {
            return finding(BEYOND);
        }
        if (n < 0) {
            return finding(SIZE);
        }
        if (n > NUMBERS) {
            return finding(BEYOND);
        }
        sheets[s].begin(bits, n);
        return sheets[s].size;
    }

    public int write(int s, int i, int v) {
        if (!isSheet(s)) {
            return finding(BEYOND);
        }
        Sheet sheet = sheets[s];
        if (sheet.isMissing()) {
            return finding(MISSING);
        }
        if (i < 0 || i >= sheet.size) {
            return finding(BEYOND);
        }
        sheet.row[i] = sheet.lowestBits(v);
        return 1;
    }

    public int copy(int s, int from, int t, int to, int n) {
        if (!isSheet(s) || !isSheet(t)) {
            return finding(BEYOND);
        }
        Sheet one = sheets[s];
        Sheet other = sheets[t];
        if (one.isMissing() || other.isMissing()) {
            return finding(MISSING);
        }
        if (one.bits != other.bits) {
            return finding(UNKIND);
        }
        if (!one.has(from, n) || !other.has(to, n)) {
            return finding(BEYOND);
        }
        System.arraycopy(one.row, from, other.row, to, n);
        return n;
    }

    public int load(int s) {
        if (!isSheet(s)) {
            return finding(BEYOND);
        }
        Sheet sheet = sheets[s];
        if (sheet.isMissing()) {
            return finding(MISSING);
        }
        int came = 0;
        while (came < sheet.size && came < LETTERS && within(sheet.row[came], MOST_BONES)) {
            reef.jar[came] = sheet.row[came];
            came++;
        }
        return came;
    }

    public int judge(int s) {
        if (!isSheet(s)) {
            return finding(BEYOND);
        }
        Sheet sheet = sheets[s];
        if (sheet.isMissing()) {
            return finding(MISSING);
        }
        for (int i = 0; i < sheet.size; i++) {
            if (!isWriter(i) || sheet.row[i] != reef.written[i]) {
                return 1 + i;
            }
        }
        return 0;
    }

    // ---- images

    public int image() {
        kept.become(reef);
        isKept = true;
        return 1;
    }

    public int undo() {
        if (!isKept) {
            return finding(NONE);
        }
        reef.become(kept);
        return reef.day;
    }

    public int tear() {
        int was = isKept ? 1 : 0;
        isKept = false;
        return was;
    }

    public int count(int what) {
        switch (what) {
            case 0:
                return reef.day;
            case 1:
                return reef.writers;
            case 2:
                return reef.lettersInJar();
            case 3:
                return reef.sumOf(WRITTEN);
            case 4:
                return reef.sumOf(FAT);
            case 5:
                return tape.size;
            case 6:
                return reef.z;
            case 7:
                return reef.spotsHeld();
            default:
                return finding(BEYOND);
        }
    }

    public int status(int which) {
        if (which == -1) {
            int all = 0;
            for (int i = 0; i < ALL_FINDINGS; i++) {
                all += found[i];
            }
            return all;
        }
        return within(which, ALL_FINDINGS - 1) ? found[which] : finding(BEYOND);
    }

    // ---- what the calls share

    private int finding(int which) {
        if (within(which, ALL_FINDINGS - 1)) {
            found[which]++;
        }
        return LOW - which;
    }

    private boolean isWriter(int writer) {
        return writer >= 0 && writer < reef.writers;
    }

    private static boolean isLetter(int letter) {
        return within(letter, LETTERS - 1);
    }

    private static boolean isFish(int fish) {
        return within(fish, FISHES - 1);
    }

    private static boolean isSheet(int s) {
        return within(s, SHEETS - 1);
    }

    private static boolean within(int v, int most) {
        return v >= 0 && v <= most;
    }

    /** The letter in a place (0 to 3) of a word. */
    private static int digit(int word, int place) {
        return word / TENS[place] % 10;
    }

    /** The letter in a place (0 to 2) of a fish's bones. */
    private static int bone(int bones, int place) {
        return bones / TENS[place + 1] % 10;
    }

    private static int lettersOf(int bones) {
        return 1 << bone(bones, 0) | 1 << bone(bones, 1) | 1 << bone(bones, 2);
    }

    private static int howOften(int letter, int word) {
        int times = 0;
        for (int place = 0; place < PLACES; place++) {
            if (digit(word, place) == letter) {
                times++;
            }
        }
        return times;
    }

    /** What the kinds of writers have in common and in which they differ. */
    private static final class Kinds {
        static final int WRITER = 0;
        static final int POET = 1;
        static final int SCHOLAR = 2;
        static final int LAWYER = 3;
        static final int CENSOR = 4;
        static final int CHILD = 5;
        static final int WIDOW = 6;
        static final int COUNT = 7;
        /** The kind that each stands under; none above a writer. */
        private static final int[] UNDER = {-1, WRITER, WRITER, SCHOLAR, LAWYER, WRITER, POET};

        static boolean isKind(int kind) {
            return kind >= 0 && kind < COUNT;
        }

        /** Whether a kind is another one or stands under it. */
        static boolean isUnder(int kind, int other) {
            int k = kind;
            for (int steps = 0; steps < COUNT && isKind(k); steps++) {
                if (k == other) {
                    return true;
                }
                k = UNDER[k];
            }
            return false;
        }

        static int eats(int kind, int fat, int at) {
            switch (kind) {
                case POET:
                    return poetEats(fat);
                case WIDOW:
                    return Math.max(0, poetEats(fat) - 1);
                case SCHOLAR:
                    return 3;
                case LAWYER:
                    return 6;
                case CENSOR:
                    return 6 - at;
                case CHILD:
                    return 1;
                default:
                    return 2;
            }
        }

        private static int poetEats(int fat) {
            return fat >= 60 ? 0 : 2;
        }

        static int writes(int kind, int fat) {
            switch (kind) {
                case POET:
                    return fat < 20 ? 4 : 2;
                case WIDOW:
                    return 1;
                case LAWYER:
                    return 4;
                case CENSOR:
                    return 0;
                case CHILD:
                    return fat % 2 == 1 ? 1 : 2;
                default:
                    return 2;
            }
        }

        /** Whether a letter in a place of a fish that is eaten comes to the jar. */
        static boolean isKept(int kind, int place, int letter) {
            switch (kind) {
                case POET:
                case WIDOW:
                    return letter != 0;
                case LAWYER:
                    return letter % 2 == 0;
                case CENSOR:
                    return false;
                case CHILD:
                    return place == 0;
                default:
                    return true;
            }
        }

        static String nameOf(int kind) {
            switch (kind) {
                case POET:
                    return "poet";
                case SCHOLAR:
                    return "scholar";
                case LAWYER:
                    return "lawyer";
                case CENSOR:
                    return "censor";
                case CHILD:
                    return "child";
                case WIDOW:
                    return "widow";
                default:
                    return "writer";
            }
        }
    }

    /** All that an image keeps, and how a day goes by. */
    private static final class Reef {
        final int[] jar = new int[LETTERS];
        final int[] bonesOf = new int[FISHES];
        final int[] catchOf = new int[FISHES];
        final int[] kind = new int[WRITERS];
        final int[] word = new int[WRITERS];
        final int[] at = new int[WRITERS];
        final int[] fat = new int[WRITERS];
        final int[] written = new int[WRITERS];
        final int[] spots = new int[SPOTS];
        int writers = 0;
        int day = 0;
        int z = 1;

        Reef() {
            for (int fish = 0; fish < FISHES; fish++) {
                bonesOf[fish] = 12;
                catchOf[fish] = 3;
            }
            for (int spot = 0; spot < SPOTS; spot++) {
                spots[spot] = -1;
            }
        }

        void become(Reef other) {
            System.arraycopy(other.jar, 0, jar, 0, LETTERS);
            System.arraycopy(other.bonesOf, 0, bonesOf, 0, FISHES);
            System.arraycopy(other.catchOf, 0, catchOf, 0, FISHES);
            System.arraycopy(other.kind, 0, kind, 0, WRITERS);
            System.arraycopy(other.word, 0, word, 0, WRITERS);
            System.arraycopy(other.at, 0, at, 0, WRITERS);
            System.arraycopy(other.fat, 0, fat, 0, WRITERS);
            System.arraycopy(other.written, 0, written, 0, WRITERS);
            System.arraycopy(other.spots, 0, spots, 0, SPOTS);
            writers = other.writers;
            day = other.day;
            z = other.z;
        }

        boolean isFull() {
            return writers >= WRITERS;
        }

        /** The new writer's number, or -1 if there is no room. */
        int addWriter(int newKind, int newWord, int newFat) {
            if (isFull()) {
                return -1;
            }
            int w = writers;
            kind[w] = newKind;
            word[w] = newWord;
            at[w] = 0;
            fat[w] = newFat;
            written[w] = 0;
            writers = w + 1;
            return w;
        }

        int[] row(int what) {
            switch (what) {
                case KIND:
                    return kind;
                case WORD:
                    return word;
                case AT:
                    return at;
                case FAT:
                    return fat;
                default:
                    return written;
            }
        }

        int eats(int w) {
            return Kinds.eats(kind[w], fat[w], at[w]);
        }

        int writes(int w) {
            return Kinds.writes(kind[w], fat[w]);
        }

        int nextLetter(int w) {
            return digit(word[w], at[w]);
        }

        void putNextLetter(int w, int letter) {
            word[w] += (letter - nextLetter(w)) * TENS[at[w]];
        }

        int draw() {
            z = z * 1103515245 + 12345;
            return z >>> 8;
        }

        /** Writers of the idle set neither eat nor write. */
        void passDays(int n, int idle) {
            for (int i = 0; i < n; i++) {
                dayGoesBy(idle);
            }
        }

        void dayGoesBy(int idle) {
            eatCatch(catchOf[day % FISHES], bonesOf[day % FISHES], idle);
            for (int w = 0; w < writers; w++) {
                if ((idle >> w & 1) == 0) {
                    writeLetters(w);
                }
            }
            for (int w = 0; w < writers; w++) {
                fat[w] = Math.max(0, fat[w] - 2);
            }
            day = Math.min(LAST_DAY, day + 1);
            if (day % 7 == 0) {
                cookSoup();
            }
        }

        private void eatCatch(int caught, int bones, int idle) {
            int left = caught;
            for (int w = 0; w < writers; w++) {
                if ((idle >> w & 1) == 0) {
                    int eaten = Math.min(left, eats(w));
                    left -= eaten;
                    keepBones(kind[w], bones, eaten);
                    fat[w] = Math.min(MOST_FAT, fat[w] + 3 * eaten);
                }
            }
        }

        private void keepBones(int eater, int bones, int eaten) {
            for (int place = 0; place < 3; place++) {
                int letter = bone(bones, place);
                if (Kinds.isKept(eater, place, letter)) {
                    jar[letter] = Math.min(MOST_BONES, jar[letter] + eaten);
                }
            }
        }

        private void writeLetters(int w) {
            int most = writes(w);
            for (int i = 0; i < most; i++) {
                int letter = nextLetter(w);
                if (jar[letter] == 0) {
                    return;
                }
                jar[letter]--;
                at[w]++;
                if (at[w] >= PLACES) {
                    at[w] = 0;
                    written[w] = Math.min(MOST_WRITTEN, written[w] + 1);
                }
            }
        }

        private void cookSoup() {
            for (int letter = 0; letter < LETTERS; letter++) {
                jar[letter] -= jar[letter] / 10;
            }
        }

        int sumOf(int what) {
            int[] row = row(what);
            int sum = 0;
            for (int w = 0; w < writers; w++) {
                sum += row[w];
            }
            return sum;
        }

        int lettersInJar() {
            int sum = 0;
            for (int letter = 0; letter < LETTERS; letter++) {
                sum += jar[letter];
            }
            return sum;
        }

        int writersWhoWait() {
            int set = 0;
            for (int w = 0; w < writers; w++) {
                if (jar[nextLetter(w)] == 0) {
                    set |= 1 << w;
                }
            }
            return set;
        }

        int lettersLacking() {
            int set = 0;
            for (int letter = 0; letter < LETTERS; letter++) {
                if (jar[letter] == 0) {
                    set |= 1 << letter;
                }
            }
            return set;
        }

        int writersWhoStarve() {
            int set = 0;
            for (int w = 0; w < writers; w++) {
                if (fat[w] == 0) {
                    set |= 1 << w;
                }
            }
            return set;
        }

        int spotsHeld() {
            int held = 0;
            for (int spot = 0; spot < SPOTS; spot++) {
                if (spots[spot] >= 0) {
                    held++;
                }
            }
            return held;
        }
    }

    /** A row of numbers; bits is 0 while it is missing. */
    private static final class Sheet {
        final int[] row = new int[NUMBERS];
        int size = 0;
        int bits = 0;

        boolean isMissing() {
            return bits == 0;
        }

        void begin(int newBits, int n) {
            bits = newBits;
            size = newBits == 0 ? 0 : n;
            for (int i = 0; i < NUMBERS; i++) {
                row[i] = 0;
            }
        }

        int lowestBits(int v) {
            if (bits == 8) {
                return (byte) v;
            }
            return bits == 16 ? (short) v : v;
        }

        /** Whether it has n numbers from one on; size - n, as from + n might wrap around. */
        boolean has(int from, int n) {
            return n >= 0 && from >= 0 && n <= size && from <= size - n;
        }
    }

    /** The bytes of a text, and the token at hand while it is read. */
    private static final class Tape {
        private static final int END = 0;
        private static final int NAME = 1;
        private static final int NUMBER = 2;
        private static final int SIGN = 3;
        private static final int OTHER = 4;

        private final int[] bytes = new int[TAPE];
        int size = 0;
        private int token = END;
        private int place = 0;
        private int next = 0;
        private int value = 0;

        void add(int b) {
            if (size < TAPE) {
                bytes[size] = b;
                size++;
            }
        }

        /** How many items there are, or -1 less the place of the token that can't stand there. */
        int readInto(Reef reef) {
            next = 0;
            toNextToken();
            for (int items = 1; items <= TAPE; items++) {
                if (!readItem(reef)) {
                    return -1 - place;
                }
                if (token == END) {
                    return items;
                }
                if (token != SIGN) {
                    return -1 - place;
                }
                toNextToken();
            }
            return -1 - place;
        }

        private boolean readItem(Reef reef) {
            if (isName("fish")) {
                return readFish(reef);
            }
            if (isName("jar")) {
                return readJar(reef);
            }
            for (int kind = 0; kind < Kinds.COUNT; kind++) {
                if (isName(Kinds.nameOf(kind))) {
                    return readWriter(reef, kind);
                }
            }
            return false;
        }

        private boolean readWriter(Reef reef, int kind) {
            if (reef.isFull()) {
                return false;
            }
            int word = 0;
            int fat = FAT_AT_FIRST;
            toNextToken();
            if (isName("word")) {
                toNextToken();
                if (!isNumber(MOST_WORD)) {
                    return false;
                }
                word = takeNumber();
            }
            if (isName("fat")) {
                toNextToken();
                if (!isNumber(MOST_FAT)) {
                    return false;
                }
                fat = takeNumber();
            }
            reef.addWriter(kind, word, fat);
            return true;
        }

        private boolean readFish(Reef reef) {
            toNextToken();
            if (!isNumber(FISHES - 1)) {
                return false;
            }
            int fish = takeNumber();
            if (!isNumber(MOST_BONES)) {
                return false;
            }
            reef.bonesOf[fish] = takeNumber();
            if (isName("catch")) {
                toNextToken();
                if (!isNumber(MOST_CATCH)) {
                    return false;
                }
                reef.catchOf[fish] = takeNumber();
            }
            return true;
        }

        private boolean readJar(Reef reef) {
            toNextToken();
            if (!isNumber(LETTERS - 1)) {
                return false;
            }
            int letter = takeNumber();
            if (!isNumber(MOST_BONES)) {
                return false;
            }
            reef.jar[letter] = takeNumber();
            return true;
        }

        private boolean isName(String name) {
            if (token != NAME || next - place != name.length()) {
                return false;
            }
            for (int i = 0; i < name.length() && place + i < TAPE; i++) {
                if (bytes[place + i] != name.charAt(i)) {
                    return false;
                }
            }
            return true;
        }

        private boolean isNumber(int most) {
            return token == NUMBER && value <= most;
        }

        private int takeNumber() {
            int taken = value;
            toNextToken();
            return taken;
        }

        /** At the end the place is how many bytes there are: a fault there tells just that. */
        private void toNextToken() {
            while (next < size && bytes[next] == ' ') {
                next++;
            }
            place = next;
            if (next >= size) {
                token = END;
            } else if (isSmallLetter(bytes[next])) {
                token = NAME;
                while (next < size && isSmallLetter(bytes[next])) {
                    next++;
                }
            } else if (isDigit(bytes[next])) {
                token = NUMBER;
                value = 0;
                while (next < size && isDigit(bytes[next])) {
                    // no number may be 10000, and no run of digits wraps around
                    value = Math.min(10000, value * 10 + bytes[next] - '0');
                    next++;
                }
            } else {
                token = bytes[next] == ';' ? SIGN : OTHER;
                next++;
            }
        }

        private static boolean isSmallLetter(int b) {
            return b >= 'a' && b <= 'z';
        }

        private static boolean isDigit(int b) {
            return b >= '0' && b <= '9';
        }
    }
}
