/** The document's terms, sentence by sentence, at their edges. Arguments: class, document. */
public final class TermsTests extends Sentences {
    private static final int[] ALL_KINDS = {0, 1, 2, 3, 4, 5, 6};
    private static final String JARS_112 = "jar 0 1;jar 0 1;jar 0 1;jar 0 1;jar 0 1;jar 0 1;jar 0 1;"
        + "jar 0 1;jar 0 1;jar 0 1;jar 0 1;jar 0 1;jar 0 1;jar 0 1;";

    // ---- findings

    private static void findings() {
        says("FINDINGS are answers below -1000000: LOW is -1000001; LOW BEYOND, LOW - 1 FULL, LOW - 2 KIND, LOW - 3 NONE,"
            + " LOW - 4 STATE, LOW - 5 MISSING, LOW - 6 SIZE (in longs, too).");
        BoneWords x = reef("writer");
        x.hold(0, 0);
        for (int i = 0; i < 30; i++) {
            x.feed(0, 4);
        }
        so(-1000001, x.bones(10));
        so(-1000002, x.feed(0, 1));
        so(-1000003, x.as(0, 1));
        so(-1000004, x.undo());
        so(-1000005L, x.odds(0, 0));
        so(-1000006, x.judge(0));
        so(-1000007, x.sheet(0, 8, -1));
        so(-1000001L, x.odds(-1, 0));
        says("What seed() and count(6) tell, z, may be any int: that is no finding.");
        for (int v : new int[] {0, -1, -1000000, BEYOND, FULL, KIND, NONE, STATE, MISSING, SIZE, -1000008, MAX, MIN}) {
            BoneWords y = new BoneWords();
            so(1, y.seed(v));
            so(v, y.count(6));
            so(v, y.seed(v));
            so(0, y.status(-1));
        }
    }

    private static void order() {
        says("Each act tells its findings in the order in which they are asked (that of its words);");
        BoneWords x = reef("writer;poet;poet;poet;poet;poet;poet;poet");
        so(BEYOND, x.writer(7, 0));
        so(BEYOND, x.writer(0, 10000));
        so(FULL, x.writer(6, 9999));
        for (int i = 0; i < 30; i++) {
            x.feed(0, 4);
        }
        so(BEYOND, x.feed(0, 5));
        so(BEYOND, x.feed(0, 0));
        so(FULL, x.feed(0, 4));
        so(BEYOND, x.odds(10000, 0));
        so(BEYOND, x.odds(0, 2));
        so(STATE, x.odds(9999, 1));
        so(BEYOND, x.as(10, 0));
        so(BEYOND, x.as(0, 7));
        so(MISSING, x.as(0, 6));
        so(BEYOND, x.fits(4, 0));
        so(MISSING, x.fits(3, 8));
        so(BEYOND, x.kinds(4, 0));
        so(MISSING, x.kinds(3, 8));
        so(BEYOND, x.sheet(4, 8, -1));
        so(BEYOND, x.sheet(0, 9, -1));
        so(SIZE, x.sheet(0, 8, -1));
        so(BEYOND, x.write(4, 40, 0));
        so(MISSING, x.write(3, 40, 0));
        so(BEYOND, x.copy(4, 0, 3, 0, 0));
        so(BEYOND, x.copy(3, 0, 4, 0, 0));
        so(MISSING, x.copy(3, -1, 3, -1, -1));
        x.sheet(0, 8, 1);
        x.sheet(1, 16, 1);
        so(MISSING, x.copy(0, -1, 3, -1, -1));
        so(MISSING, x.copy(3, 0, 1, 0, 99));
        so(KIND, x.copy(0, -1, 1, 0, 99));
        int[] counts = {15, 2, 1, 0, 1, 7, 1};
        for (int which = 0; which < 7; which++) {
            so(counts[which], x.status(which));
        }
        says("one that answers a finding changes nothing but status().");
        // RefusalTests has this for every act
        so(BEYOND, x.change(0, 1, 10000));
        so(0, x.of(0, 1));
        so(FULL, x.feed('x', 1));
        so(120, x.count(5));
        so(16, x.status(0));
        so(3, x.status(1));
    }

    private static void sets() {
        says("Quotients are cut.");
        BoneWords x = bare("jar 1 19;jar 2 7");
        so(1, x.spells(2222));
        so(18, x.later(1, 7));
        says("Sets are told as bits;");
        BoneWords y = bare("writer;writer;writer;writer;writer;writer;writer;writer;fish 0 905;jar 0 1");
        y.change(7, 1, 9999);
        so(1 << 0 | 1 << 5 | 1 << 9, y.keeps(0, 0));
        so(1 << 7, y.now(4));
        so(1022, y.now(5));
        y.change(0, 3, 0);
        y.change(7, 3, 0);
        so(1 << 0 | 1 << 7, y.now(6));
        says("of several that would do the least number counts, where nothing else is told.");
        // fishes 2 and 4 are caught once in six days and bring a word each, the others bring none
        so(2, bare("writer word 1111;fish 2 111;fish 4 111").catchFor(6));
        // in two days one word is written with a 3 or a 7 as its first letter
        so(3, bare("writer word 333;jar 3 9;jar 7 9").letterFor(0, 2));
        // a thin poet and a lawyer write four letters, the others two at most
        so(1, bare("writer word 1111 fat 9;jar 1 9").kindFor(0, 1));
        so(3, bare("writer word 1111 fat 20;jar 1 9").kindFor(0, 1));
        // a poet keeps no 0s, and 9s would be written
        so(111, bare("poet word 9999;fish 0 0 catch 1").bonesFor(0, 1));
        so(1, bare("writer word 1111;writer word 1111;writer word 1111;jar 1 8").away(2, 1, 2));
        so(0, bare("writer").fewest(5, 0, 0, 40));
        so(0, bare("writer").when(0, 0));
    }

    // ---- 1: jar, fishes, writers

    private static void jar() {
        says("1. LETTERS 0 to 9; THE JAR has so many of each (0 to 999; 0 at first; what would be more is lost).");
        for (int l = 0; l < 10; l++) {
            BoneWords x = new BoneWords();
            int letter = l;
            so(0, x.bones(l));
            range(x, 0, 999, v -> x.jar(letter, v));
        }
        BoneWords all = new BoneWords();
        range(all, 0, 9, all::bones);
        // two fishes with three 5s each
        int[] ahead = {999, 998, 994, 993, 992};
        int[] then = {999, 999, 999, 999, 998};
        for (int i = 0; i < 5; i++) {
            BoneWords x = bare("writer word 9999;fish 0 555 catch 2");
            x.jar(5, ahead[i]);
            x.go(1);
            so(then[i], x.bones(5));
        }
        // what is lost doesn't come back when there is room again
        BoneWords x = bare("writer word 5555;fish 0 555 catch 2;jar 5 999");
        so(997, x.later(5, 1));
        so(995, x.later(5, 2));
    }

    private static void fishes() {
        says("FISHES 0 to 5, each with three BONES (LETTERS; 0, 1, 2 at first; told as one number, 0 to 999, by its digits:"
            + " 12 at first).");
        BoneWords x = reef("writer");
        range(x, 0, 5, f -> x.fishOf(f, 0));
        BoneWords y = reef("writer");
        range(y, 0, 999, v -> y.fish(5, 0, v));
        for (int f = 0; f < 6; f++) {
            so(12, x.fishOf(f, 0));
            so(7, x.keeps(0, f));
        }
        int[] bones = {0, 9, 90, 900, 999, 120};
        int[] letters = {1, 513, 513, 513, 512, 7};
        for (int i = 0; i < 6; i++) {
            x.fish(i, 0, bones[i]);
            so(bones[i], x.fishOf(i, 0));
            so(letters[i], x.keeps(0, i));
        }
        says("THE LIST: a CATCH of each FISH (0 to 20; 3 at first), that of FISH DAY modulo 6 on a DAY.");
        BoneWords z = new BoneWords();
        for (int f = 0; f < 6; f++) {
            so(3, z.fishOf(f, 1));
        }
        range(z, 0, 20, v -> z.fish(5, 1, v));
        BoneWords list = bare("writer word 9999");
        for (int f = 0; f < 6; f++) {
            list.fish(f, 0, 111 * f + 111);
            list.fish(f, 1, 1);
        }
        for (int day = 0; day < 13; day++) {
            for (int f = 0; f < 6; f++) {
                so(3 * ((day + 5 - f) / 6), list.bones(f + 1));
            }
            list.go(1);
        }
    }

    private static void writers() {
        says("WRITERS 0, 1, .. (at most 8), of KINDS: 0 WRITER; 1 POET, 2 SCHOLAR, 5 CHILD under WRITER; 3 LAWYER under"
            + " SCHOLAR; 4 CENSOR under LAWYER; 6 WIDOW under POET;");
        BoneWords x = new BoneWords();
        so(BEYOND, x.of(0, 0));
        for (int w = 0; w < 8; w++) {
            so(BEYOND, x.of(w, 0));
            so(w, x.writer(Math.min(6, w), 0));
            so(Math.min(6, w), x.of(w, 0));
        }
        so(FULL, x.writer(0, 0));
        so(BEYOND, x.of(8, 0));
        int[] above = {1, 3, 5, 13, 29, 33, 67};
        for (int w = 0; w < 7; w++) {
            x.hold(0, w);
            for (int kind = 0; kind < 7; kind++) {
                so((above[w] >> kind & 1) == 1 ? w : KIND, x.as(0, kind));
            }
        }
        says("each with a WORD of four LETTERS (told as one number, 0 to 9999, by its digits, the first one the highest; 0 at"
            + " first), AT (how many of them are written; 0 to 3; 0 at first), FAT (0 to 99; 30 at first), WRITTEN (how often;"
            + " 0 to 9999; 0 at first).");
        int[] most = {6, 9999, 3, 99, 9999};
        int[] first = {0, 0, 0, 30, 0};
        for (int what = 1; what < 5; what++) {
            BoneWords y = reef("writer");
            int one = what;
            so(first[what], y.of(0, what));
            range(y, 0, most[what], v -> y.change(0, one, v));
        }
        BoneWords y = reef("writer word 7;writer word 9876");
        int[] small = {0, 0, 0, 7};
        for (int at = 0; at < 4; at++) {
            y.change(0, 2, at);
            y.change(1, 2, at);
            so(small[at], y.of(0, 7));
            so(9 - at, y.of(1, 7));
        }
    }

    private static BoneWords oneOf(int kind, int fat) {
        BoneWords x = new BoneWords();
        x.writer(kind, 0);
        x.change(0, 3, fat);
        return x;
    }

    private static void eats(int kind, int fat, int eats) {
        so(eats, oneOf(kind, fat).of(0, 5));
        BoneWords x = oneOf(kind, fat);
        noCatch(x);
        x.fish(0, 1, 20);
        x.fish(0, 0, 999);
        so(Math.max(0, Math.min(99, fat + 3 * eats) - 2), x.ahead(0, 3, 1));
    }

    private static void eating() {
        int[] fats = {0, 1, 19, 20, 59, 60, 61, 99};
        says("EATS (FISHES in a DAY, at most): WRITER: 2.");
        for (int fat : fats) {
            eats(0, fat, 2);
        }
        says("POET: as a WRITER, but 0, if FAT is 60 or more.");
        says("WIDOW: as a POET, less 1 (0 at least).");
        for (int fat : fats) {
            eats(1, fat, fat < 60 ? 2 : 0);
            eats(6, fat, fat < 60 ? 1 : 0);
        }
        says("SCHOLAR: as a WRITER, and 1. LAWYER: twice a SCHOLAR.");
        for (int fat : fats) {
            eats(2, fat, 3);
            eats(3, fat, 6);
        }
        says("CENSOR: as a LAWYER, less AT. CHILD: 1.");
        for (int fat : fats) {
            eats(4, fat, 6);
            eats(5, fat, 1);
        }
        for (int at = 0; at < 4; at++) {
            BoneWords x = bare("censor fat 10;fish 0 0 catch 20");
            x.change(0, 2, at);
            so(6 - at, x.of(0, 5));
            so(8 + 3 * (6 - at), x.ahead(0, 3, 1));
            for (int kind : ALL_KINDS) {
                x.change(0, 0, kind);
                int[] eats = {2, 2, 3, 6, 6 - at, 1, 1};
                so(eats[kind], x.of(0, 5));
            }
        }
    }

    private static void writes(int kind, int fat, int writes) {
        BoneWords x = oneOf(kind, fat);
        so(writes, x.of(0, 6));
        noCatch(x);
        x.jar(0, 99);
        so(99 - writes, x.later(0, 1));
    }

    private static void writing() {
        int[] fats = {0, 1, 18, 19, 20, 21, 98, 99};
        says("WRITES (LETTERS in a DAY, at most): WRITER: 2.");
        says("POET: as a WRITER, and 2, if FAT is below 20. WIDOW: 1. SCHOLAR: as a WRITER. LAWYER: as a SCHOLAR, and 2."
            + " CENSOR: 0.");
        for (int fat : fats) {
            writes(0, fat, 2);
            writes(1, fat, fat < 20 ? 4 : 2);
            writes(6, fat, 1);
            writes(2, fat, 2);
            writes(3, fat, 4);
            writes(4, fat, 0);
        }
        says("CHILD: as a WRITER, less 1, if FAT is odd.");
        int[] childs = {2, 1, 2, 1, 2, 1, 2, 1};
        for (int i = 0; i < 8; i++) {
            writes(5, fats[i], childs[i]);
        }
    }

    private static void keeping() {
        says("KEEPS (whether LETTERS of what it eats come to THE JAR): WRITER: all. POET: all but LETTERS 0. WIDOW: as a POET."
            + " SCHOLAR: all. LAWYER: even ones. CENSOR: none. CHILD: the first of the three.");
        int[] bones = {0, 102, 210, 789, 468};
        int[][] sets = {{1, 0, 1, 1, 0, 1, 0}, {7, 6, 7, 5, 0, 2, 6}, {7, 6, 7, 5, 0, 4, 6},
            {896, 896, 896, 256, 0, 128, 896}, {336, 336, 336, 336, 0, 16, 336}};
        for (int kind : ALL_KINDS) {
            for (int i = 0; i < 5; i++) {
                BoneWords x = oneOf(kind, 30);
                noCatch(x);
                x.change(0, 1, 3333);
                x.fish(0, 0, bones[i]);
                x.fish(0, 1, 1);
                so(sets[i][kind], x.keeps(0, 0));
                x.go(1);
                so(1023 & ~sets[i][kind], x.now(5));
            }
        }
    }

    // ---- 2: a day

    private static void daysEating() {
        says("2. A DAY goes by: (1) of the FISHES of the CATCH WRITERS by numbers eat as many as each EATS (as it is ahead of its"
            + " first one; as far as there are any left):");
        int[][] fats = {{28, 28, 28}, {31, 28, 28}, {34, 28, 28}, {34, 31, 28}, {34, 34, 28}, {34, 34, 31}, {34, 34, 34},
            {34, 34, 34}};
        for (int caught = 0; caught < 8; caught++) {
            BoneWords x = bare("writer word 9999;writer word 9999;writer word 9999");
            x.fish(0, 1, caught);
            x.go(1);
            for (int w = 0; w < 3; w++) {
                so(fats[caught][w], x.of(w, 3));
            }
            // three letters for each fish that was eaten, no more
            so(3 * Math.min(caught, 6), x.now(2));
            so(caught, x.fishOf(0, 1));
        }
        int[] poets = {57, 58, 59, 60};
        int[] then = {61, 62, 63, 58};
        for (int i = 0; i < 4; i++) {
            BoneWords x = bare("poet word 9999;fish 0 111 catch 20");
            x.change(0, 3, poets[i]);
            so(then[i], x.ahead(0, 3, 1));
        }
        // of seven the lawyer eats six; by numbers the writer comes first
        so(31, bare("lawyer word 9;writer word 9;fish 0 111 catch 7").ahead(1, 3, 1));
        so(43, bare("writer word 9;lawyer word 9;fish 0 111 catch 7").ahead(1, 3, 1));
        says("for each one its BONES come to THE JAR, as far as it KEEPS them, and FAT is 3 more (99 at most).");
        int[] ahead = {92, 93, 94, 95, 96, 97, 98, 99};
        int[] behind = {96, 97, 97, 97, 97, 97, 97, 97};
        for (int i = 0; i < 8; i++) {
            BoneWords x = bare("writer word 9;fish 0 117 catch 2");
            x.change(0, 3, ahead[i]);
            so(behind[i], x.ahead(0, 3, 1));
            so(4, x.later(1, 1));
            so(2, x.later(7, 1));
        }
        so(94, bare("child word 9 fat 93;fish 0 117 catch 2").ahead(0, 3, 1));
        so(97, bare("child word 9 fat 97;fish 0 117 catch 2").ahead(0, 3, 1));
        so(1, bare("child word 9;fish 0 117 catch 2").later(1, 1));
        so(0, bare("child word 9;fish 0 117 catch 2").later(7, 1));
    }

    private static void daysWriting() {
        says("(2) WRITERS by numbers: as many LETTERS as one WRITES (as it is ahead of its first one): the next one of its WORD, if"
            + " THE JAR has one: it is 1 less there, AT is 1 more;");
        // what was eaten on this day counts in FAT: 16 and 3 is thin, 17 and 3 is not; 30 and 3 is odd
        so(0, bare("poet word 1111 fat 16;fish 0 222 catch 1;jar 1 9").ahead(0, 2, 1));
        so(2, bare("poet word 1111 fat 17;fish 0 222 catch 1;jar 1 9").ahead(0, 2, 1));
        so(1, bare("child word 1111 fat 30;fish 0 222 catch 1;jar 1 9").ahead(0, 2, 1));
        so(2, bare("child word 1111 fat 31;fish 0 222 catch 1;jar 1 9").ahead(0, 2, 1));
        // it takes the last one there is, and what was eaten on this day
        so(0, bare("widow word 1111;jar 1 1").later(1, 1));
        so(1, bare("widow word 1111;jar 1 1").ahead(0, 2, 1));
        so(0, bare("widow word 1111").ahead(0, 2, 1));
        so(1, bare("widow word 1111;fish 0 123 catch 1").ahead(0, 2, 1));
        so(0, bare("widow word 1111;fish 0 123 catch 1").later(1, 1));
        BoneWords x = bare("writer word 1111;widow word 1111;widow word 1111;jar 1 3");
        x.go(1);
        so(2, x.of(0, 2));
        so(1, x.of(1, 2));
        so(0, x.of(2, 2));
        says("behind the fourth WRITTEN is 1 more (9999 at most), AT is 0.");
        for (int at = 0; at < 4; at++) {
            BoneWords y = bare("widow word 1111;jar 1 13");
            y.change(0, 2, at);
            y.change(0, 4, 9997);
            y.go(1);
            so((at + 1) % 4, y.of(0, 2));
            so(at == 3 ? 9998 : 9997, y.of(0, 4));
            y.change(0, 0, 3);
            y.go(1);
            so((at + 1) % 4, y.of(0, 2));
            so(at == 3 ? 9999 : 9998, y.of(0, 4));
            y.go(1);
            so((at + 1) % 4, y.of(0, 2));
            so(9999, y.of(0, 4));
            so(4, y.bones(1));
            y.go(1);
            so((at + 1) % 4, y.of(0, 2));
            so(9999, y.of(0, 4));
            so(0, y.bones(1));
        }
        says("It ends in this DAY at the first that THE JAR hasn't.");
        // the lawyer waits for a 2 and leaves the 3s; the one behind it goes on
        BoneWords z = bare("lawyer word 1233;writer word 3333;jar 1 9;jar 3 9");
        z.go(1);
        so(1, z.of(0, 2));
        so(2, z.of(1, 2));
        so(8, z.bones(1));
        so(7, z.bones(3));
        z.go(1);
        so(1, z.of(0, 2));
        z.jar(2, 1);
        z.go(1);
        so(1, z.of(0, 4));
        so(1, z.of(0, 2));
    }

    private static void daysEnding() {
        says("(3) FAT of all is 2 less (0 at least).");
        int[] ahead = {0, 1, 2, 3, 4, 50, 98, 99};
        int[] behind = {0, 0, 0, 1, 2, 48, 96, 97};
        BoneWords x = bare("writer;poet;scholar;lawyer;censor;child;widow;writer");
        for (int w = 0; w < 8; w++) {
            x.change(w, 3, ahead[w]);
        }
        x.go(1);
        for (int w = 0; w < 8; w++) {
            so(behind[w], x.of(w, 3));
        }
        says("(4) DAY is one more (99999 at most);");
        BoneWords y = new BoneWords();
        for (int day = 0; day < 15; day++) {
            so(day, y.count(0));
            y.go(1);
        }
        // DAY 99999 is behind more than 512 calls: LateTests goes there
        says("if it is a multiple of 7 then, there is SOUP: of each LETTER a tenth (cut) is gone from THE JAR.");
        int[] had = {0, 1, 9, 10, 11, 19, 20, 99, 100, 999};
        int[] left = {0, 1, 9, 9, 10, 18, 18, 90, 90, 900};
        BoneWords z = bare("writer word 9999");
        z.change(0, 0, 4);
        for (int day = 1; day <= 22; day++) {
            for (int l = 0; l < 10; l++) {
                z.jar(l, had[l]);
            }
            z.go(1);
            for (int l = 0; l < 10; l++) {
                so(day % 7 == 0 ? left[l] : had[l], z.bones(l));
            }
        }
        // behind eating and writing: 8 and 3 less 1 is 10, of which one is gone
        BoneWords soup = bare("widow word 1111;fish 0 111 catch 1;jar 1 20");
        soup.go(6);
        soup.jar(1, 8);
        soup.go(1);
        so(9, soup.bones(1));
    }

    private static void draws() {
        says("DRAWS: z is told (1 at first); each makes it z * 1103515245 + 12345 (an int), and gives z >>> 8.");
        so(1, new BoneWords().count(6));
        // by hand, modulo 2^32: from z to the second draw's z, and what the two give by 6 and by 21
        int[] z = {1, 0, -1, MIN, MAX};
        for (int from : z) {
            long one = (from * 1103515245L + 12345) & 0xffffffffL;
            long two = (one * 1103515245L + 12345) & 0xffffffffL;
            BoneWords x = new BoneWords();
            x.seed(from);
            x.catches(1);
            so((int) two, x.count(6));
            so(two / 256 % 21, x.fishOf((int) (one / 256 % 6), 1));
        }
    }

    // ---- 3: texts

    private static void faulty(String text, int place) {
        BoneWords x = new BoneWords();
        so(-1 - place, read(x, text));
        so(0, x.count(1));
        so(0, x.count(2));
        so(0, x.count(5));
        so(0, x.status(-1));
    }

    private static void fine(String text, int items) {
        so(items, read(new BoneWords(), text));
    }

    private static void tape() {
        says("3. A TEXT is read from THE TAPE (bytes, at most 120).");
        fine(JARS_112 + "jar 0 12", 15);
        fine(JARS_112 + "    poet", 15);
        fine(JARS_112 + "poet    ", 15);
        faulty(JARS_112 + "       ;", 119);
        faulty(JARS_112 + "   poet;", 120);
        faulty(JARS_112 + "jar 0 1x", 119);
        BoneWords x = new BoneWords();
        feed(x, JARS_112 + "jar 0 12");
        so(120, x.count(5));
        so(FULL, x.feed('3', 1));
        so(15, x.text());
        so(12, x.bones(0));
    }

    private static void tokens() {
        says("TOKENS, each as long as can be:");
        fine("poet word5fat6", 1);
        faulty("poetword5", 0);
        faulty("writerpoet", 0);
        faulty("poet wordfat 5", 5);
        faulty("jar 1 2 3", 8);
        faulty("fish 12 3", 5);
        faulty("poet word 12 34", 13);
        faulty("jar 12", 4);
        says("WORDS (letters a to z), NUMBERS (digits, 9999 at most), SIGN ; ;");
        int[] none = {0, 1, 9, 10, 13, '!', ',', '-', '.', '/', ':', '<', '@', 'A', 'Z', '[', '`', '{', 127, 128, 160,
            'j' + 128, '0' + 128, ';' + 128, 255};
        for (int b : none) {
            faulty((char) b + "jar 0 1", 0);
            faulty("jar" + (char) b + " 0 1", 3);
            faulty("jar 0 1" + (char) b, 7);
        }
        fine("poet word 9999", 1);
        fine("poet word 0", 1);
        fine("poet word 000000000000000000000000000009999", 1);
        // none of these may wrap around: 2^32 and 7, 2^64 and 7
        String[] large = {"10000", "99990", "4294967303", "18446744073709551623", "99999999999999999999999999999999"};
        for (String number : large) {
            faulty("poet word " + number, 10);
            faulty("jar 0 " + number, 6);
        }
        says("blanks may stand between.");
        fine("   jar   0   1   ;   poet   ", 2);
        fine("jar0 1;poet", 2);
        fine("fish0 1catch2;jar 0 1;widow word3fat4", 3);
        faulty("jar 01", 6);
        faulty("j ar 0 1", 0);
        says("TEXT: ITEM { ; ITEM }.");
        fine("poet", 1);
        fine("poet;poet", 2);
        faulty("", 0);
        faulty("  ", 2);
        faulty(";", 0);
        faulty(";poet", 0);
        faulty("poet;", 5);
        faulty("poet; ", 6);
        faulty("poet;;poet", 5);
        faulty("poet poet", 5);
        faulty("jar 0 1 jar 0 1", 8);
        faulty("fish 0 1 fish 0 1", 9);
    }

    private static void items() {
        says("ITEM: writer, poet, scholar, lawyer, censor, child or widow, perhaps word and a NUMBER (0 to 9999), perhaps fat and a"
            + " NUMBER (0 to 99): a new one;");
        String[] names = {"writer", "poet", "scholar", "lawyer", "censor", "child", "widow"};
        for (int kind : ALL_KINDS) {
            BoneWords x = new BoneWords();
            so(4, read(x, names[kind] + ";" + names[kind] + " word 9999;" + names[kind] + " fat 0;" + names[kind]
                + " word 0 fat 99"));
            int[] words = {0, 9999, 0, 0};
            int[] fats = {30, 30, 0, 99};
            for (int w = 0; w < 4; w++) {
                so(kind, x.of(w, 0));
                so(words[w], x.of(w, 1));
                so(0, x.of(w, 2));
                so(fats[w], x.of(w, 3));
                so(0, x.of(w, 4));
            }
            so(BEYOND, x.of(4, 0));
            String name = names[kind];
            int behind = name.length() + 1;
            faulty(name + " word 10000", behind + 5);
            faulty(name + " fat 100", behind + 4);
            faulty(name + " word", behind + 4);
            faulty(name + " fat", behind + 3);
            faulty(name + " fat 1 word 1", behind + 6);
            faulty(name + " word 1 word 1", behind + 7);
            faulty(name + " fat 1 fat 1", behind + 6);
            faulty(name + " 1", behind);
            faulty(name + "s", 0);
            faulty(name.substring(1), 0);
            faulty(name.substring(0, name.length() - 1), 0);
        }
        says("fish, two NUMBERS (a FISH, 0 to 999: its BONES), perhaps catch and a NUMBER (0 to 20);");
        BoneWords x = reef("fish 0 0 catch 20;fish 5 999 catch 0;fish 4 1");
        int[] bones = {0, 12, 12, 12, 1, 999};
        int[] caught = {20, 3, 3, 3, 3, 0};
        for (int f = 0; f < 6; f++) {
            so(bones[f], x.fishOf(f, 0));
            so(caught[f], x.fishOf(f, 1));
        }
        faulty("fish 6 0", 5);
        faulty("fish 5 1000", 7);
        faulty("fish 5 0 catch 21", 15);
        faulty("fish 5 0 catch", 14);
        faulty("fish 5 catch 1", 7);
        faulty("fish 5 0 catch 1 catch 1", 17);
        faulty("fish 5", 6);
        faulty("fish", 4);
        faulty("fish catch", 5);
        says("jar, two NUMBERS (a LETTER, 0 to 999).");
        BoneWords y = reef("jar 0 999;jar 9 1;jar 8 5;jar 8 0");
        so(999, y.bones(0));
        so(1, y.bones(9));
        so(0, y.bones(8));
        faulty("jar 10 0", 4);
        faulty("jar 9 1000", 6);
        faulty("jar 9", 5);
        faulty("jar", 3);
        faulty("jar 9 9 catch 1", 8);
    }

    private static void faults() {
        says("FAULT: the place (from 0) of the first byte of the first TOKEN that can't stand there");
        faulty("0", 0);
        faulty("poet fish jar 99", 5);
        faulty("jar 0 9999 jar 99", 6);
        says("(a NUMBER that isn't as told, another WORD, a byte that begins no TOKEN, the WORD of a 9th WRITER: its own),");
        faulty("jar 0 1;jar 11 1", 12);
        faulty("jar 0 1;goat", 8);
        faulty("jar 0 1;#", 8);
        faulty("poet;poet;poet;poet;poet;poet;poet;poet;  poet word 99999", 42);
        BoneWords x = reef("poet;poet;poet;poet;poet;poet;poet");
        so(-7, read(x, "poet; widow"));
        so(7, x.count(1));
        so(1, read(x, "poet fat 7"));
        so(-1, read(x, "poet"));
        so(-9, read(x, "jar 0 1;widow;#"));
        so(0, x.bones(0));
        so(1, read(x, "jar 0 1"));
        so(1, x.bones(0));
        says("or how many bytes there are if it ends too early.");
        faulty("jar 0   ", 8);
        faulty("poet word ", 10);
        faulty("poet;   ", 8);
        faulty("fish 0 1 catch", 14);
        says("SPOTS 0 to 9 hold a WRITER or nothing (at first).");
        BoneWords y = reef("writer");
        range(y, 0, 9, spot -> y.as(spot, 0));
        for (int spot = 0; spot < 10; spot++) {
            so(MISSING, y.as(spot, 0));
            y.hold(spot, 0);
            so(0, y.as(spot, 0));
            so(spot + 1, y.count(7));
        }
    }

    // ---- sheets

    /** Which number of 8, 16 or 32 bits stands where v was written: THE JAR takes 0 to 999 alone. */
    private static int loaded(int bits, int v) {
        BoneWords x = new BoneWords();
        fill(x, 0, bits, v);
        return x.load(0) == 0 ? -1 : x.bones(0);
    }

    /** Whether what was written reads as -1, any. */
    private static int isAny(int bits, int v) {
        BoneWords x = reef("writer");
        fill(x, 0, bits, v);
        return x.fits(0, 0) == 1023 && x.load(0) == 0 ? 1 : 0;
    }

    private static void sheets() {
        says("SHEETS 0 to 3: rows of at most 40 numbers of 8, 16 or 32 bits (told with their sign: of 8 bits 255 is -1), or"
            + " MISSING (at first).");
        BoneWords x = new BoneWords();
        for (int s = 0; s < 4; s++) {
            so(MISSING, x.load(s));
        }
        range(x, 0, 3, x::load);
        BoneWords y = new BoneWords();
        so(40, y.sheet(0, 8, 40));
        so(1, y.write(0, 39, 1));
        so(BEYOND, y.write(0, 40, 1));
        so(BEYOND, y.sheet(0, 8, 41));
        so(1, isAny(8, 255));
        so(1, isAny(8, -1));
        so(1, isAny(8, 65535));
        so(1, isAny(8, MAX));
        so(0, isAny(8, 254));
        so(0, isAny(16, 255));
        so(1, isAny(16, 65535));
        so(1, isAny(16, -1));
        so(0, isAny(32, 65535));
        so(0, isAny(32, 255));
        so(0, isAny(32, MAX));
        so(1, isAny(32, -1));
        int[] v = {127, 128, 129, 255, 256, 257, -128, -129, -255, -256, 383, 384, MIN, MIN + 5};
        int[] of8 = {127, -1, -1, -1, 0, 1, -1, 127, 1, 0, 127, -1, 0, 5};
        int[] of16 = {127, 128, 129, 255, 256, 257, -1, -1, -1, -1, 383, 384, 0, 5};
        int[] of32 = {127, 128, 129, 255, 256, 257, -1, -1, -1, -1, 383, 384, -1, -1};
        for (int i = 0; i < v.length; i++) {
            so(of8[i], loaded(8, v[i]));
            so(of16[i], loaded(16, v[i]));
            so(of32[i], loaded(32, v[i]));
        }
        so(999, loaded(16, 65536 + 999));
        so(0, loaded(16, 65536));
        so(1, loaded(16, -65535));
        so(-1, loaded(32, 65536));
        so(-1, loaded(32, 65536 + 999));
    }

    public static void main(String[] args) throws Exception {
        open(args.length == 2 ? args[1] : "../shared/DOC.md");
        section("terms", "## Terms\n", "\nAhead of the calls");
        findings();
        order();
        sets();
        jar();
        fishes();
        writers();
        eating();
        writing();
        keeping();
        daysEating();
        daysWriting();
        daysEnding();
        draws();
        tape();
        tokens();
        items();
        faults();
        sheets();
        close();
        finish("TermsTests");
    }
}
