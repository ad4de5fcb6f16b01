/** Each promise, sentence by sentence, at its edges. Arguments: class, document. */
public final class EdgeTests extends Sentences {
    private static final String EIGHT = "writer;poet;scholar;lawyer;censor;child;widow;writer";

    // ---- a new object

    private static void p01() {
        promise(1, "A new object");
        says("All as at first; no WRITERS; THE TAPE is empty, no image is kept.");
        BoneWords x = new BoneWords();
        int[] counts = {0, 0, 0, 0, 0, 0, 1, 0};
        for (int what = 0; what < 8; what++) {
            so(counts[what], x.count(what));
        }
        for (int l = 0; l < 10; l++) {
            so(0, x.bones(l));
            so(MISSING, x.as(l, 0));
        }
        for (int f = 0; f < 6; f++) {
            so(12, x.fishOf(f, 0));
            so(3, x.fishOf(f, 1));
        }
        for (int s = 0; s < 4; s++) {
            so(MISSING, x.judge(s));
        }
        so(BEYOND, x.of(0, 0));
        so(NONE, x.undo());
        so(0, x.tear());
        so(0, x.wipe());
        so(0, new BoneWords().status(-1));
        // one object knows nothing of another
        x.jar(0, 5);
        x.image();
        x.sheet(0, 8, 1);
        x.feed(0, 1);
        BoneWords y = new BoneWords();
        so(0, y.bones(0));
        so(0, y.tear());
        so(MISSING, y.load(0));
        so(0, y.wipe());
    }

    // ---- jar, fishes, writers

    private static void p02and03() {
        promise(2, "jar");
        says("THE JAR has v of a LETTER: how many it had. BEYOND.");
        BoneWords x = new BoneWords();
        range(x, 0, 9, letter -> x.jar(letter, 7));
        so(7, x.jar(0, 0));
        so(7, x.jar(9, 999));
        range(x, 0, 999, v -> x.jar(4, v));
        so(999, x.jar(4, 0));
        so(0, x.jar(4, 1));
        so(999, x.bones(9));
        so(999 + 1, x.now(2));
        promise(3, "bones");
        says("How many of a LETTER THE JAR has. BEYOND.");
        range(x, 0, 9, x::bones);
        so(0, x.bones(0));
        so(1, x.bones(4));
        so(999, x.bones(9));
    }

    private static void p04and05() {
        promise(4, "fish");
        says("BONES (what 0), CATCH (1) of a FISH becomes v: what it was. BEYOND.");
        BoneWords x = new BoneWords();
        range(x, 0, 5, fish -> x.fish(fish, 0, 444));
        range(x, 0, 5, fish -> x.fish(fish, 1, 4));
        BoneWords y = new BoneWords();
        range(y, 0, 1, what -> y.fish(3, what, 20));
        range(y, 0, 999, v -> y.fish(1, 0, v));
        range(y, 0, 20, v -> y.fish(2, 1, v));
        int[] bones = {12, 999, 12, 20, 12, 12};
        int[] caught = {3, 3, 20, 20, 3, 3};
        for (int f = 0; f < 6; f++) {
            so(bones[f], y.fish(f, 0, 0));
            so(caught[f], y.fish(f, 1, 0));
        }
        so(0, y.fish(1, 0, 1));
        so(0, y.fish(1, 1, 1));
        promise(5, "fishOf");
        says("Of a FISH: what 0 BONES, 1 CATCH, 2 how many LETTERS it has that are unlike. BEYOND.");
        BoneWords z = new BoneWords();
        range(z, 0, 5, fish -> z.fishOf(fish, 2));
        range(z, 0, 2, what -> z.fishOf(5, what));
        int[] tried = {0, 999, 9, 90, 900, 998, 989, 899, 12, 987};
        int[] unlike = {1, 1, 2, 2, 2, 2, 2, 2, 3, 3};
        for (int i = 0; i < tried.length; i++) {
            z.fish(5, 0, tried[i]);
            so(tried[i], z.fishOf(5, 0));
            so(unlike[i], z.fishOf(5, 2));
        }
        z.fish(5, 1, 0);
        so(0, z.fishOf(5, 1));
        so(3, z.fishOf(0, 1));
    }

    private static void p06() {
        promise(6, "writer");
        says("A new WRITER with a WORD: the number. BEYOND. FULL.");
        BoneWords x = new BoneWords();
        range(x, 0, 6, kind -> x.writer(kind, 0));
        range(x, 0, 9999, word -> x.writer(0, word));
        so(4, x.count(1));
        int[] kinds = {0, 6, 0, 0};
        int[] words = {0, 0, 0, 9999};
        for (int w = 0; w < 4; w++) {
            so(kinds[w], x.of(w, 0));
            so(words[w], x.of(w, 1));
            so(0, x.of(w, 2));
            so(30, x.of(w, 3));
            so(0, x.of(w, 4));
        }
        for (int w = 4; w < 8; w++) {
            so(w, x.writer(w - 3, w));
        }
        so(FULL, x.writer(0, 0));
        so(FULL, x.writer(6, 9999));
        so(2, x.status(1));
        so(8, x.count(1));
        int[] all = {0, 6, 0, 0, 1, 2, 3, 4};
        for (int w = 0; w < 8; w++) {
            so(all[w], x.of(w, 0));
            so(w == 3 ? 9999 : w < 4 ? 0 : w, x.of(w, 1));
        }
    }

    private static void p07and08() {
        promise(7, "of");
        says("Of a WRITER: what 0 KIND, 1 WORD, 2 AT, 3 FAT, 4 WRITTEN, 5 EATS, 6 WRITES, 7 its next LETTER. BEYOND.");
        BoneWords x = reef("poet word 1234 fat 19;censor word 9;widow");
        x.change(0, 2, 3);
        x.change(0, 4, 9999);
        int[] told = {1, 1234, 3, 19, 9999, 2, 4, 4};
        for (int what = 0; what < 8; what++) {
            so(told[what], x.of(0, what));
        }
        range(x, 0, 7, what -> x.of(0, what));
        range(x, 0, 2, writer -> x.of(writer, 0));
        BoneWords full = reef(EIGHT);
        range(full, 0, 7, writer -> full.of(writer, 3));
        so(BEYOND, new BoneWords().of(0, 0));
        promise(8, "change");
        says("KIND (what 0), WORD (1), AT (2), FAT (3), WRITTEN (4) of a WRITER becomes v: what it was. BEYOND.");
        int[] most = {6, 9999, 3, 99, 9999};
        int[] first = {4, 9, 0, 30, 0};
        for (int what = 0; what < 5; what++) {
            int one = what;
            so(first[what], x.change(1, what, 0));
            range(x, 0, most[what], v -> x.change(1, one, v));
            so(most[what], x.change(1, what, 1));
            so(1, x.of(1, what));
            so(told[what], x.of(0, what));
        }
        range(full, 0, 4, what -> full.change(0, what, 3));
        range(full, 0, 7, writer -> full.change(writer, 1, 5));
        so(5, full.of(7, 1));
        so(0, full.of(6, 1));
        BoneWords none = new BoneWords();
        so(BEYOND, none.change(0, 0, 0));
    }

    private static void p09and10() {
        promise(9, "keeps");
        says("BONES of a FISH that a WRITER KEEPS, as a set of LETTERS. BEYOND.");
        BoneWords x = reef("writer;poet;scholar;lawyer;censor;child;widow;fish 5 909;fish 4 0;fish 3 987");
        int[] of909 = {513, 512, 513, 1, 0, 512, 512};
        int[] of000 = {1, 0, 1, 1, 0, 1, 0};
        int[] of987 = {896, 896, 896, 256, 0, 512, 896};
        for (int w = 0; w < 7; w++) {
            so(of909[w], x.keeps(w, 5));
            so(of000[w], x.keeps(w, 4));
            so(of987[w], x.keeps(w, 3));
        }
        range(x, 0, 6, writer -> x.keeps(writer, 0));
        range(x, 0, 5, fish -> x.keeps(0, fish));
        so(BEYOND, new BoneWords().keeps(0, 0));
        promise(10, "spells");
        says("How often THE JAR has all LETTERS of a WORD (0 to 9999) now. BEYOND.");
        BoneWords y = reef("jar 0 4;jar 1 3;jar 9 999;jar 8 8;jar 7 1");
        int[] words = {0, 1, 1111, 111, 1011, 9999, 8889, 8899, 9897, 7777, 2000, 2, 9990, 1999};
        int[] often = {1, 1, 0, 1, 1, 249, 2, 4, 1, 0, 0, 0, 4, 3};
        for (int i = 0; i < words.length; i++) {
            so(often[i], y.spells(words[i]));
        }
        range(y, 0, 9999, y::spells);
        so(0, new BoneWords().spells(0));
        y.jar(0, 3);
        so(0, y.spells(0));
        for (int l = 0; l < 10; l++) {
            y.jar(l, 999);
        }
        so(999, y.spells(1239));
    }

    // ---- days

    private static void p11() {
        promise(11, "go");
        says("n DAYS (1 to 60): WRITTEN of all together then. BEYOND.");
        BoneWords x = bare("writer word 1111;widow word 2222;jar 1 99;jar 2 99");
        so(0, x.go(1));
        so(1, x.now(0));
        so(1, x.go(1));
        so(3, x.go(2));
        range(x, 1, 60, x::go);
        so(4 + 1 + 60, x.now(0));
        BoneWords steps = reef("scholar word 1200;poet word 21 fat 99;child word 2100;jar 0 5");
        BoneWords leap = reef("scholar word 1200;poet word 21 fat 99;child word 2100;jar 0 5");
        int last = 0;
        for (int day = 0; day < 60; day++) {
            last = steps.go(1);
        }
        so(last, leap.go(60));
        for (int l = 0; l < 10; l++) {
            so(steps.bones(l), leap.bones(l));
        }
        for (int w = 0; w < 3; w++) {
            for (int what = 2; what < 5; what++) {
                so(steps.of(w, what), leap.of(w, what));
            }
        }
        BoneWords most = bare(EIGHT);
        for (int w = 0; w < 8; w++) {
            most.change(w, 4, 9999);
        }
        so(79992, most.go(60));
        so(0, new BoneWords().go(60));
        says("STATE: DAY would be above 99999.");
        // DAY 99999 is behind more than 512 calls: LateTests goes there
        BoneWords late = new BoneWords();
        for (int i = 1; i <= 500; i++) {
            so(0, late.go(60));
        }
        so(30000, late.now(0));
        so(0, late.status(-1));
    }

    private static void p12() {
        promise(12, "now");
        says("What 0 DAY, 1 WRITTEN of all together, 2 LETTERS in THE JAR together, 3 FAT of all together,"
            + " 4 WRITERS whose next LETTER THE JAR hasn't, as a set, 5 LETTERS that THE JAR hasn't, as a set,"
            + " 6 WRITERS whose FAT is 0, as a set. BEYOND.");
        BoneWords none = new BoneWords();
        int[] first = {0, 0, 0, 0, 0, 1023, 0};
        for (int what = 0; what < 7; what++) {
            so(first[what], none.now(what));
        }
        range(none, 0, 6, none::now);
        BoneWords x = bare(EIGHT);
        so(255, x.now(4));
        so(0, x.now(6));
        x.jar(0, 1);
        so(0, x.now(4));
        so(1022, x.now(5));
        for (int w = 0; w < 8; w++) {
            x.change(w, 4, 9999);
            x.change(w, 3, 99);
        }
        for (int l = 0; l < 10; l++) {
            x.jar(l, 999);
        }
        int[] most = {0, 79992, 9990, 792, 0, 0, 0};
        for (int what = 0; what < 7; what++) {
            so(most[what], x.now(what));
        }
        x.change(0, 1, 10);
        x.change(0, 2, 3);
        x.change(7, 1, 10);
        x.change(7, 2, 2);
        x.jar(1, 0);
        so(128, x.now(4));
        so(2, x.now(5));
        x.jar(1, 1);
        so(0, x.now(5));
        x.change(0, 3, 0);
        x.change(6, 3, 1);
        x.change(7, 3, 0);
        so(129, x.now(6));
        x.go(1);
        so(193, x.now(6));
        so(1, x.now(0));
    }

    // ---- what will be

    private static void p13and14() {
        promise(13, "ahead");
        says("What 2, 3, 4 (as in of()) of a WRITER behind n (0 to 100) DAYS. BEYOND.");
        BoneWords x = reef("widow word 1234;scholar word 2100 fat 7;jar 3 50;jar 4 50");
        x.change(1, 2, 3);
        x.change(0, 4, 9990);
        range(x, 0, 1, writer -> x.ahead(writer, 2, 1));
        range(x, 2, 4, what -> x.ahead(0, what, 1));
        range(x, 0, 100, n -> x.ahead(0, 2, n));
        for (int what = 2; what < 5; what++) {
            so(x.of(0, what), x.ahead(0, what, 0));
            so(x.of(1, what), x.ahead(1, what, 0));
        }
        int[] told = new int[6];
        for (int what = 2; what < 5; what++) {
            told[what - 2] = x.ahead(0, what, 100);
            told[what + 1] = x.ahead(1, what, 100);
        }
        int ones = x.later(1, 100);
        so(0, x.now(0));
        x.go(60);
        for (int what = 2; what < 5; what++) {
            so(told[what - 2], x.ahead(0, what, 40));
            so(told[what + 1], x.ahead(1, what, 40));
        }
        so(ones, x.later(1, 40));
        x.go(40);
        for (int what = 2; what < 5; what++) {
            so(told[what - 2], x.of(0, what));
            so(told[what + 1], x.of(1, what));
        }
        so(ones, x.bones(1));
        so(BEYOND, new BoneWords().ahead(0, 2, 0));
        promise(14, "later");
        says("How many of a LETTER THE JAR has behind n (0 to 100) DAYS. BEYOND.");
        BoneWords y = bare("jar 9 999;jar 0 10;widow word 1111;jar 1 2");
        range(y, 0, 9, letter -> y.later(letter, 1));
        range(y, 0, 100, n -> y.later(0, n));
        so(999, y.later(9, 0));
        so(999, y.later(9, 6));
        so(900, y.later(9, 7));
        so(9, y.later(0, 100));
        so(1, y.later(1, 1));
        so(0, y.later(1, 2));
        so(0, y.later(1, 3));
        so(999, y.bones(9));
        so(0, y.now(0));
    }

    private static void p15to17() {
        promise(15, "when");
        says("Behind how many DAYS (0 to 100, the fewest) WRITTEN of a WRITER is v (0 to 9999) or more. BEYOND.");
        BoneWords x = bare("widow word 1111;widow word 1111;jar 1 999");
        x.change(1, 4, 9998);
        range(x, 0, 1, writer -> x.when(writer, 1));
        range(x, 0, 9999, v -> x.when(0, v));
        so(0, x.when(0, 0));
        so(4, x.when(0, 1));
        so(8, x.when(0, 2));
        so(100, x.when(0, 25));
        so(0, x.when(1, 9997));
        so(0, x.when(1, 9998));
        so(4, x.when(1, 9999));
        so(BEYOND, new BoneWords().when(0, 0));
        says("NONE.");
        so(NONE, x.when(0, 26));
        x.change(0, 2, 3);
        so(1, x.when(0, 1));
        so(97, x.when(0, 25));
        so(NONE, x.when(0, 26));
        so(NONE, bare("censor").when(0, 1));
        promise(16, "starves");
        says("Behind how many DAYS (0 to 100, the fewest) FAT of a WRITER is 0. BEYOND.");
        BoneWords y = bare("writer fat 0;writer fat 1;writer fat 2;writer fat 3;writer fat 98;writer fat 99;writer word 9");
        range(y, 0, 6, y::starves);
        int[] days = {0, 1, 1, 2, 49, 50, 15};
        for (int w = 0; w < 7; w++) {
            so(days[w], y.starves(w));
        }
        // three fishes in six days are 9 FAT less 12: 54 is 6 behind 96 days, and 0 three days later
        BoneWords z = bare("writer word 9999;fish 4 0 catch 1;fish 5 0 catch 2");
        int[] fats = {54, 55, 56};
        int[] last = {99, 100, 100};
        for (int i = 0; i < 3; i++) {
            z.change(0, 3, fats[i]);
            so(last[i], z.starves(0));
        }
        so(BEYOND, new BoneWords().starves(0));
        says("NONE.");
        z.change(0, 3, 57);
        so(NONE, z.starves(0));
        so(NONE, reef("lawyer").starves(0));
        promise(17, "out");
        says("Behind how many DAYS (0 to 100, the fewest) THE JAR has none of a LETTER. BEYOND.");
        BoneWords w = bare("widow word 1111;jar 1 6;jar 3 9;jar 4 10;jar 9 1");
        range(w, 0, 9, w::out);
        so(0, w.out(0));
        so(6, w.out(1));
        w.jar(1, 7);
        so(7, w.out(1));
        w.jar(1, 1);
        so(1, w.out(1));
        // one a day and soup: 205 lasts a hundred days
        w.jar(1, 205);
        so(100, w.out(1));
        says("NONE.");
        w.jar(1, 206);
        so(NONE, w.out(1));
        so(NONE, w.out(3));
        so(NONE, w.out(4));
        so(NONE, w.out(9));
    }

    // ---- what to catch, to write

    private static void p18and19() {
        promise(18, "catchFor");
        says("The FISH of which the CATCH must be 20, so that WRITTEN of all together is most behind n (0 to 40) DAYS. BEYOND.");
        // eighteen are eaten by the lawyers: with 19 the writer would have three 1s alone
        BoneWords x = bare("lawyer word 9;lawyer word 9;lawyer word 9;writer word 1111;fish 3 111");
        range(x, 0, 40, x::catchFor);
        so(0, x.catchFor(0));
        so(0, x.catchFor(4));
        so(3, x.catchFor(5));
        so(0, x.fishOf(3, 1));
        BoneWords y = bare("writer word 3333;fish 5 333");
        so(0, y.catchFor(6));
        so(5, y.catchFor(7));
        so(0, new BoneWords().catchFor(40));
        // lawyers and a child take nineteen: the one that is left brings two 1s, and a 21st would bring two more
        BoneWords more = bare("lawyer word 9;lawyer word 9;lawyer word 9;child word 9;writer word 1111;fish 3 211");
        so(0, more.catchFor(9));
        so(3, more.catchFor(10));
        promise(19, "fewest");
        says("The least CATCH of a FISH with which WRITTEN of a WRITER is v (0 to 9999) or more behind n (0 to 40) DAYS. BEYOND.");
        range(x, 0, 5, fish -> x.fewest(fish, 3, 1, 5));
        range(x, 0, 3, writer -> x.fewest(3, writer, 1, 5));
        range(x, 0, 9999, v -> x.fewest(3, 3, v, 5));
        range(x, 0, 40, n -> x.fewest(3, 3, 1, n));
        so(20, x.fewest(3, 3, 1, 5));
        so(0, x.fewest(3, 3, 0, 0));
        x.change(3, 4, 9999);
        so(0, x.fewest(3, 3, 9999, 0));
        BoneWords list = bare("writer word 1111;fish 0 111 catch 20");
        so(2, list.fewest(0, 0, 1, 2));
        so(20, list.fishOf(0, 1));
        says("NONE.");
        x.change(3, 4, 0);
        so(NONE, x.fewest(3, 3, 1, 4));
        so(NONE, x.fewest(3, 3, 2, 5));
        so(NONE, x.fewest(2, 3, 1, 8));
        // a 21st fish would be needed, or the next time when fish 3 is caught
        so(NONE, more.fewest(3, 4, 1, 9));
        so(20, more.fewest(3, 4, 1, 10));
    }

    private static void p20and21() {
        promise(20, "letterFor");
        says("The LETTER that must be the next one of a WRITER's WORD (in that place of it), so that WRITTEN of it is most behind"
            + " n (0 to 40) DAYS. BEYOND.");
        // five days are a 9 and two words, if the 9s spare the 1s
        BoneWords x = bare("writer word 1111;writer word 3333;jar 1 6;jar 9 9");
        x.change(0, 2, 3);
        range(x, 0, 1, writer -> x.letterFor(writer, 1));
        range(x, 0, 40, n -> x.letterFor(0, n));
        so(9, x.letterFor(0, 5));
        so(1, x.letterFor(0, 4));
        so(0, x.letterFor(0, 0));
        so(1111, x.of(0, 1));
        // the letters behind the next one are there once: in its place a 9 alone will do
        BoneWords y = bare("lawyer word 1234;jar 1 1;jar 2 1;jar 3 1;jar 4 1;jar 9 1");
        for (int at = 0; at < 4; at++) {
            y.change(0, 2, at);
            y.jar(at + 1, 0);
            so(9, y.letterFor(0, 1));
            so(1234, y.of(0, 1));
        }
        so(0, bare("writer word 9999").letterFor(0, 40));
        // a 10th letter would make 1230 to 1240
        BoneWords z = bare("lawyer word 1230;jar 0 9;jar 1 9;jar 2 9;jar 4 9");
        z.change(0, 2, 3);
        so(0, z.letterFor(0, 4));
        promise(21, "kindFor");
        says("The KIND of which it must be for that. BEYOND.");
        range(x, 0, 1, writer -> x.kindFor(writer, 1));
        range(x, 0, 40, n -> x.kindFor(0, n));
        so(0, x.kindFor(1, 40));
        // a 4 sets a poet on to take three 1s: who eats one fish and keeps two 1s of it is best
        BoneWords w = bare("poet word 4111 fat 99;poet word 4111 fat 99;writer word 1111;fish 0 411 catch 2;jar 1 5");
        so(6, w.kindFor(2, 4));
        so(0, w.kindFor(2, 0));
        so(0, w.of(2, 0));
        so(3, bare("censor word 1111;jar 1 9").kindFor(0, 1));
    }

    private static void p22and23() {
        promise(22, "away");
        says("The set of fewest other WRITERS such that, if these neither eat nor write from now on, WRITTEN of one is v"
            + " (0 to 9999) or more behind n (0 to 20) DAYS; of several the least. BEYOND.");
        BoneWords x = bare("widow word 1111;widow word 1111;widow word 1111;widow word 1111;widow word 1111;jar 1 4");
        x.writer(6, 1111);
        x.writer(6, 1111);
        x.writer(6, 1111);
        range(x, 0, 7, writer -> x.away(writer, 1, 4));
        range(x, 0, 9999, v -> x.away(0, v, 4));
        range(x, 0, 20, n -> x.away(0, 1, n));
        for (int w = 0; w < 8; w++) {
            so(255 & ~(1 << w), x.away(w, 1, 4));
            so(0, x.away(w, 0, 0));
        }
        x.jar(1, 32);
        so(0, x.away(7, 1, 4));
        // four days with one away are 28
        x.jar(1, 28);
        so(1, x.away(7, 1, 4));
        so(0, x.away(3, 1, 4));
        so(1, x.away(4, 1, 4));
        so(0, x.now(0));
        // they don't eat either: of seven fishes the censor leaves one
        BoneWords y = bare("censor word 9999;writer word 1111;fish 0 111 catch 7");
        so(1, y.away(1, 1, 2));
        // a greater number alone is fewer than two less ones
        BoneWords z = bare("widow word 1111;widow word 1111;writer word 1111;writer word 1111;jar 1 8");
        so(4, z.away(3, 1, 2));
        so(BEYOND, new BoneWords().away(0, 0, 0));
        says("NONE.");
        x.jar(1, 3);
        so(NONE, x.away(0, 1, 20));
        so(NONE, x.away(0, 1, 0));
        x.jar(1, 99);
        so(NONE, x.away(0, 6, 20));
        so(NONE, bare("widow word 1111;jar 1 9").away(0, 1, 3));
        promise(23, "bonesFor");
        says("The BONES (0 to 999) that a FISH must have, so that THE JAR has most LETTERS together behind n (0 to 6) DAYS. BEYOND.");
        // of three 9s two are written; what else comes finds no room
        BoneWords f = bare("scholar word 9999;fish 5 777 catch 1");
        for (int l = 0; l < 9; l++) {
            f.jar(l, 999);
        }
        range(f, 0, 5, fish -> f.bonesFor(fish, 6));
        range(f, 0, 6, n -> f.bonesFor(5, n));
        so(0, f.bonesFor(5, 0));
        so(0, f.bonesFor(5, 5));
        so(999, f.bonesFor(5, 6));
        so(0, f.bonesFor(4, 6));
        so(777, f.fishOf(5, 0));
        so(0, new BoneWords().bonesFor(0, 6));
    }

    // ---- what was written

    private static void p24and25() {
        promise(24, "fits");
        says("LETTERS that could be the next one of a WRITER's WORD (in that place of it), as a set, so that AT now and behind each"
            + " DAY further on is as a sheet tells (-1: any).");
        BoneWords x = bare("widow word 1111;writer;jar 1 99;jar 9 1");
        fill(x, 0, 8, -1, 1, 2, -1, 0);
        so(514, x.fits(0, 0));
        x.write(0, 0, 1);
        so(0, x.fits(0, 0));
        x.write(0, 0, 0);
        so(514, x.fits(0, 0));
        x.write(0, 4, -1);
        x.write(0, 1, 0);
        x.write(0, 2, 0);
        so(1023 - 514, x.fits(0, 0));
        // each number alone can tell it; a fourth, a -2 or a hundred is never AT
        for (int never : new int[] {4, -2, 100, 127, -128}) {
            for (int i = 0; i < 5; i++) {
                fill(x, 1, 8, -1, -1, -1, -1, -1);
                so(1023, x.fits(1, 0));
                x.write(1, i, never);
                so(0, x.fits(1, 0));
            }
        }
        x.sheet(2, 32, 0);
        so(1023, x.fits(2, 0));
        x.change(0, 2, 3);
        fill(x, 2, 8, 3, 0);
        so(514, x.fits(2, 0));
        fill(x, 2, 8, 3, 3);
        so(1023 - 514, x.fits(2, 0));
        // of a row of forty the last one tells AT behind 39 days
        BoneWords y = bare("widow word 1111;jar 1 99");
        y.sheet(0, 16, 40);
        for (int i = 0; i < 40; i++) {
            y.write(0, i, -1);
        }
        so(1023, y.fits(0, 0));
        y.write(0, 39, 3);
        so(2, y.fits(0, 0));
        y.write(0, 39, 0);
        so(1021, y.fits(0, 0));
        says("BEYOND: no such sheet. MISSING. BEYOND: no such WRITER.");
        so(MISSING, x.fits(3, 0));
        so(MISSING, x.fits(3, 2));
        so(BEYOND, x.fits(4, 0));
        range(x, 0, 1, writer -> x.fits(0, writer));
        x.sheet(3, 8, 0);
        so(1023, x.fits(3, 0));
        range(x, 0, 3, s -> x.fits(s, 0));
        x.sheet(3, 0, 0);
        so(MISSING, x.fits(3, 0));
        promise(25, "kinds");
        says("KINDS that it could be of, as a set, likewise.");
        y.jar(1, 5);
        fill(y, 0, 8, 0);
        so(127, y.kinds(0, 0));
        fill(y, 0, 8, 1);
        so(0, y.kinds(0, 0));
        fill(y, 0, 8, 0, 1);
        so(64, y.kinds(0, 0));
        fill(y, 0, 8, 0, 2);
        so(39, y.kinds(0, 0));
        fill(y, 0, 8, 0, 0, 1);
        so(8, y.kinds(0, 0));
        fill(y, 0, 8, 0, -1, 0);
        so(55, y.kinds(0, 0));
        y.change(0, 3, 31);
        fill(y, 0, 32, -1, 1);
        so(96, y.kinds(0, 0));
        y.change(0, 3, 19);
        fill(y, 0, 16, 0, 0);
        so(26, y.kinds(0, 0));
        y.sheet(0, 8, 0);
        so(127, y.kinds(0, 0));
        so(6, y.of(0, 0));
        says("BEYOND: no such sheet. MISSING. BEYOND: no such WRITER.");
        so(MISSING, x.kinds(3, 0));
        so(MISSING, x.kinds(3, 2));
        so(BEYOND, x.kinds(4, 0));
        range(x, 0, 1, writer -> x.kinds(0, writer));
        x.sheet(3, 32, 40);
        range(x, 0, 3, s -> x.kinds(s, 0));
    }

    private static void p26() {
        promise(26, "texts");
        says("How many WORDS (0 to 9999) THE JAR spells v times (0 to 9) or more now. BEYOND.");
        BoneWords x = new BoneWords();
        range(x, 0, 9, x::texts);
        so(10000, x.texts(0));
        so(0, x.texts(1));
        // 0s and 9s are LETTERS as the others: with four of each of two there are sixteen words, with three two fewer
        x.jar(0, 4);
        so(1, x.texts(1));
        x.jar(9, 4);
        so(16, x.texts(1));
        x.jar(0, 3);
        x.jar(9, 3);
        so(14, x.texts(1));
        so(0, x.texts(2));
        x.jar(0, 36);
        x.jar(9, 9);
        // nine times: 0000, and a single 9 in one of four places
        so(5, x.texts(9));
        x.jar(9, 8);
        so(1, x.texts(9));
        x.jar(0, 35);
        so(0, x.texts(9));
        for (int l = 0; l < 10; l++) {
            x.jar(l, 36);
        }
        so(10000, x.texts(9));
        for (int l = 0; l < 10; l++) {
            x.jar(l, 9);
        }
        so(5040, x.texts(9));
    }

    // ---- catches by draws

    private static void p27() {
        promise(27, "catches");
        says("n times (1 to 20) two draws: the CATCH of the FISH of the first one's rest by 6 is the second one's rest by 21; then a"
            + " DAY: WRITTEN of all together then. BEYOND.");
        BoneWords x = bare("widow word 1111;jar 1 9");
        x.change(0, 2, 3);
        range(x, 1, 20, x::catches);
        so(21, x.now(0));
        BoneWords y = bare("widow word 1111;jar 1 9");
        y.change(0, 2, 3);
        so(1, y.catches(1));
        long z = 1;
        int[] caught = new int[6];
        BoneWords w = new BoneWords();
        noCatch(w);
        for (int i = 0; i < 20; i++) {
            z = z * 1103515245L + 12345 & 0xffffffffL;
            int fish = (int) (z / 256 % 6);
            z = z * 1103515245L + 12345 & 0xffffffffL;
            caught[fish] = (int) (z / 256 % 21);
        }
        so(0, w.catches(20));
        for (int f = 0; f < 6; f++) {
            so(caught[f], w.fishOf(f, 1));
        }
        so((int) z, w.count(6));
        // the day comes behind the draws: a z of which they make the catch of fish 0 one
        BoneWords v = bare("writer word 9999");
        int seed = 0;
        long one = 0;
        long two = 0;
        while (one / 256 % 6 != 0 || two / 256 % 21 != 1) {
            seed++;
            one = seed * 1103515245L + 12345 & 0xffffffffL;
            two = one * 1103515245L + 12345 & 0xffffffffL;
        }
        v.seed(seed);
        v.catches(1);
        so(31, v.of(0, 3));
        says("STATE: DAY would be above 99999.");
        // DAY 99999 is behind more than 512 calls: LateTests goes there
        BoneWords late = new BoneWords();
        for (int i = 1; i <= 500; i++) {
            so(0, late.catches(20));
        }
        so(10000, late.now(0));
        so(0, late.status(-1));
    }

    private static void p28and29() {
        promise(28, "odds");
        says("The odds that four LETTERS taken blindly from THE JAR as it is, each put back, are those of a WORD (0 to 9999), one"
            + " behind the other: a fraction in lowest terms: above (what 0), below the line (1). BEYOND.");
        BoneWords x = reef("jar 0 2;jar 9 4");
        range(x, 0, 9999, word -> (int) x.odds(word, 1));
        range(x, 0, 1, what -> (int) x.odds(9, what));
        int[] words = {0, 9, 99, 999, 9999, 9000, 9009, 1, 1000};
        int[] above = {1, 2, 4, 8, 16, 2, 4, 0, 0};
        int[] below = {81, 81, 81, 81, 81, 81, 81, 1, 1};
        for (int i = 0; i < words.length; i++) {
            so(above[i], x.odds(words[i], 0));
            so(below[i], x.odds(words[i], 1));
        }
        BoneWords sure = reef("jar 7 1");
        so(1, sure.odds(7777, 0));
        so(1, sure.odds(7777, 1));
        BoneWords full = new BoneWords();
        for (int l = 0; l < 10; l++) {
            full.jar(l, 999);
        }
        so(1, full.odds(123, 0));
        so(10000, full.odds(123, 1));
        full.jar(0, 998);
        // 9989 is 7 by 1427, 998 2 by 499, 999 3 by 3 by 3 by 37: nothing is shared, and below is beyond an int
        so(9989L * 9989 * 9989 * 9989, full.odds(1111, 1));
        so(999L * 999 * 999 * 999, full.odds(1111, 0));
        so(998L * 998 * 998 * 998, full.odds(0, 0));
        says("STATE: THE JAR is empty.");
        BoneWords none = new BoneWords();
        so(STATE, none.odds(0, 0));
        so(STATE, none.odds(9999, 1));
        so(BEYOND, none.odds(-1, 0));
        so(BEYOND, none.odds(0, 2));
        none.jar(5, 1);
        so(0, none.odds(0, 0));
        so(1, none.odds(0, 1));
        none.jar(5, 0);
        so(STATE, none.odds(5555, 0));
        promise(29, "seed");
        says("z becomes v: what it was.");
        so(1, none.seed(MIN));
        so(MIN, none.seed(MAX));
        so(MAX, none.seed(0));
        so(0, none.seed(BEYOND));
        so(BEYOND, none.seed(SIZE));
        so(SIZE, none.count(6));
        so(3, none.status(4));
        so(2, none.status(0));
        so(5, none.status(-1));
    }

    // ---- texts

    private static void p30to32() {
        promise(30, "feed");
        says("THE TAPE gets the n lowest bytes of a number behind it, the highest of these first (n 1 to 4): how many it has.");
        BoneWords x = new BoneWords();
        so(1, x.feed(0xffffff00 | 'j', 1));
        so(3, x.feed(0xffff0000 | 'a' << 8 | 'r', 2));
        so(6, x.feed(0xff000000 | ' ' << 16 | '1' << 8 | ' ', 3));
        so(10, x.feed(' ' << 24 | '1' << 16 | '2' << 8 | '3', 4));
        so(1, x.text());
        so(123, x.bones(1));
        // the sign's bit is a bit as the others: this byte begins no token
        x.feed('j' << 24 | 'a' << 16 | 'r' << 8 | '1' + 128, 4);
        so(-4, x.text());
        says("BEYOND: n.");
        range(x, 1, 4, n -> x.feed(-1, n));
        so(5, x.count(5));
        says("FULL.");
        for (int n = 1; n <= 4; n++) {
            for (int room = 0; room < 5; room++) {
                BoneWords y = new BoneWords();
                for (int i = 0; i < 29; i++) {
                    y.feed(0, 4);
                }
                for (int i = room; i < 4; i++) {
                    y.feed(0, 1);
                }
                so(n <= room ? 120 - room + n : FULL, y.feed(-1, n));
                so(n <= room ? 120 - room + n : 120 - room, y.count(5));
                so(n <= room ? 0 : 1, y.status(1));
                so(BEYOND, y.feed(0, 5));
            }
        }
        promise(31, "wipe");
        says("THE TAPE is empty: how many it had.");
        BoneWords z = new BoneWords();
        so(0, z.wipe());
        for (int i = 0; i < 30; i++) {
            z.feed(0, 4);
        }
        so(120, z.wipe());
        so(0, z.wipe());
        so(0, z.count(5));
        so(1, read(z, "jar 0 7"));
        so(0, z.wipe());
        so(0, z.status(-1));
        promise(32, "text");
        says("THE TAPE is a TEXT, and empty then; all that it tells is so, item by item: how many ITEMS.");
        so(1, read(z, "poet"));
        so(0, z.count(5));
        so(4, read(z, "jar 0 1;jar 0 2;fish 0 5 catch 6;fish 0 7"));
        so(2, z.bones(0));
        so(7, z.fishOf(0, 0));
        so(6, z.fishOf(0, 1));
        so(7, read(z, "poet;poet;poet;poet;poet;poet;poet word 5"));
        so(8, z.count(1));
        so(5, z.of(7, 1));
        says("With a FAULT: -1 less the FAULT (nothing changes but that THE TAPE is empty; no finding).");
        BoneWords w = reef("child;jar 0 1");
        so(-1, w.text());
        so(-1, read(w, "?"));
        so(-120, read(w, "widow;jar 0 5;fish 0 0 catch 0;poet;poet;poet;poet;poet;" + " ".repeat(63) + "?"));
        so(0, w.count(5));
        so(1, w.count(1));
        so(1, w.bones(0));
        so(12, w.fishOf(0, 0));
        so(3, w.fishOf(0, 1));
        so(0, w.status(-1));
        so(2, read(w, "jar 0 9;jar 1 9"));
    }

    // ---- spots, sheets

    private static void p33and34() {
        promise(33, "hold");
        says("A SPOT holds a WRITER, or nothing (-1): 1. BEYOND.");
        BoneWords x = reef("writer;poet");
        range(x, 0, 9, spot -> x.hold(spot, 1));
        range(x, -1, 1, writer -> x.hold(5, writer));
        so(3, x.count(7));
        so(1, x.as(5, 0));
        so(1, x.hold(5, -1));
        so(MISSING, x.as(5, 0));
        so(1, x.hold(5, -1));
        so(2, x.count(7));
        so(1, x.as(0, 0));
        so(1, x.as(9, 0));
        so(1, x.hold(9, 0));
        so(0, x.as(9, 0));
        BoneWords none = new BoneWords();
        so(BEYOND, none.hold(0, 0));
        so(1, none.hold(0, -1));
        so(BEYOND, none.hold(-1, -1));
        promise(34, "as");
        says("What a SPOT holds as one of a kind (0 to 6): the number of the WRITER. BEYOND.");
        range(x, 0, 9, spot -> x.as(spot, 0));
        range(x, 0, 6, kind -> x.as(0, kind));
        so(1, x.as(0, 0));
        so(1, x.as(0, 1));
        says("MISSING: it holds nothing.");
        for (int kind = 0; kind < 7; kind++) {
            so(MISSING, x.as(5, kind));
        }
        so(BEYOND, x.as(5, 7));
        so(BEYOND, x.as(5, -1));
        says("KIND: it isn't of that kind, nor of one under it.");
        int[] above = {1, 3, 5, 13, 29, 33, 67};
        for (int kind = 0; kind < 7; kind++) {
            x.change(1, 0, kind);
            for (int as = 0; as < 7; as++) {
                so((above[kind] >> as & 1) == 1 ? 1 : KIND, x.as(0, as));
            }
        }
    }

    private static void p35and36() {
        promise(35, "sheet");
        says("A sheet has n numbers, all 0, of 8, 16 or 32 bits; bits 0: it is MISSING: n (0 if it is MISSING).");
        BoneWords x = new BoneWords();
        for (int bits : new int[] {8, 16, 32}) {
            so(1, x.sheet(0, bits, 1));
            x.write(0, 0, 7);
            so(40, x.sheet(0, bits, 40));
            for (int l = 0; l < 10; l++) {
                x.jar(l, 5);
            }
            so(10, x.load(0));
            so(0, x.now(2));
            so(1, x.write(0, 39, 1));
            so(40, x.sheet(0, bits, 40));
            so(1, x.copy(0, 39, 0, 0, 1));
            so(10, x.load(0));
            so(0, x.bones(0));
            so(0, x.sheet(0, bits, 0));
            so(0, x.load(0));
            so(BEYOND, x.write(0, 0, 1));
        }
        so(0, x.sheet(0, 0, 40));
        so(MISSING, x.load(0));
        so(0, x.sheet(1, 0, 0));
        so(MISSING, x.load(1));
        says("BEYOND: no such sheet, other bits.");
        range(x, 0, 3, s -> x.sheet(s, 8, 2));
        for (int bits : new int[] {-1, 1, 7, 9, 15, 17, 24, 31, 33, 64, 256, 264, -8, MIN, MIN + 8, MAX}) {
            so(BEYOND, x.sheet(0, bits, 1));
            so(BEYOND, x.sheet(0, bits, -1));
        }
        so(BEYOND, x.sheet(4, 8, -1));
        so(2, x.load(0));
        says("SIZE: n is below 0 (also with bits 0).");
        for (int n : new int[] {-1, -40, -41, MIN}) {
            for (int bits : new int[] {0, 8, 16, 32}) {
                so(SIZE, x.sheet(0, bits, n));
            }
        }
        so(16, x.status(6));
        so(2, x.load(0));
        says("BEYOND: n is above 40 (also with bits 0).");
        for (int n : new int[] {41, 256, 296, 65536, MAX}) {
            for (int bits : new int[] {0, 8, 16, 32}) {
                so(BEYOND, x.sheet(0, bits, n));
            }
        }
        so(2, x.load(0));
        promise(36, "write");
        says("Number i of a sheet becomes v (its lowest bits): 1.");
        BoneWords y = new BoneWords();
        y.sheet(0, 8, 3);
        so(1, y.write(0, 0, 256 + 1));
        so(1, y.write(0, 2, MIN + 127));
        so(3, y.load(0));
        so(1, y.bones(0));
        so(0, y.bones(1));
        so(127, y.bones(2));
        so(1, y.write(0, 2, 128));
        so(2, y.load(0));
        so(1, y.write(0, 1, -1));
        so(1, y.load(0));
        so(1, y.write(0, 1, 3));
        so(2, y.load(0));
        so(3, y.bones(1));
        says("BEYOND: no such sheet. MISSING. BEYOND: no such number.");
        for (int s = 0; s < 4; s++) {
            y.sheet(s, 8, 1);
        }
        range(y, 0, 3, s -> y.write(s, 0, 0));
        BoneWords z = new BoneWords();
        z.sheet(3, 32, 40);
        so(BEYOND, z.write(4, 0, 0));
        so(BEYOND, z.write(-1, 99, 0));
        so(MISSING, z.write(2, 0, 0));
        so(MISSING, z.write(0, -1, 0));
        range(z, 0, 39, i -> z.write(3, i, 0));
        z.sheet(3, 32, 1);
        range(z, 0, 0, i -> z.write(3, i, 0));
        z.sheet(3, 0, 1);
        so(MISSING, z.write(3, 0, 0));
    }

    private static void rows(BoneWords x, int s, int... want) {
        so(want.length, x.load(s));
        for (int l = 0; l < want.length; l++) {
            so(want[l], x.bones(l));
        }
    }

    private static void p37() {
        promise(37, "copy");
        says("n numbers of a sheet from one on come to another one from one on (as they all were): n.");
        BoneWords x = new BoneWords();
        fill(x, 0, 8, 1, 2, 3, 4);
        fill(x, 1, 8, 5, 6, 7);
        so(2, x.copy(0, 1, 1, 0, 2));
        rows(x, 1, 2, 3, 7);
        rows(x, 0, 1, 2, 3, 4);
        so(1, x.copy(0, 3, 1, 2, 1));
        rows(x, 1, 2, 3, 4);
        so(3, x.copy(0, 0, 0, 1, 3));
        rows(x, 0, 1, 1, 2, 3);
        fill(x, 0, 8, 1, 2, 3, 4);
        so(3, x.copy(0, 1, 0, 0, 3));
        rows(x, 0, 2, 3, 4, 4);
        so(4, x.copy(0, 0, 0, 0, 4));
        rows(x, 0, 2, 3, 4, 4);
        so(0, x.copy(0, 0, 1, 0, 0));
        so(0, x.copy(0, 4, 1, 3, 0));
        rows(x, 1, 2, 3, 4);
        says("BEYOND: no such sheet (either).");
        so(BEYOND, x.copy(4, 0, 0, 0, 1));
        so(BEYOND, x.copy(0, 0, 4, 0, 1));
        so(BEYOND, x.copy(-1, 0, 0, 0, 1));
        so(BEYOND, x.copy(0, 0, -1, 0, 1));
        so(BEYOND, x.copy(MIN, 0, 2, 0, 1));
        so(BEYOND, x.copy(2, 0, MAX, 0, 1));
        says("MISSING: one is.");
        so(MISSING, x.copy(2, 0, 0, 0, 1));
        so(MISSING, x.copy(0, 0, 2, 0, 1));
        so(MISSING, x.copy(2, 0, 3, 0, 1));
        so(MISSING, x.copy(2, 0, 2, 0, 0));
        so(MISSING, x.copy(0, -1, 3, MAX, MIN));
        says("KIND: they are not of as many bits.");
        for (int bits : new int[] {16, 32}) {
            x.sheet(2, bits, 4);
            so(KIND, x.copy(0, 0, 2, 0, 1));
            so(KIND, x.copy(2, 0, 0, 0, 0));
            so(KIND, x.copy(2, -1, 0, 0, MAX));
        }
        says("BEYOND: one has not so many, or from, to or n is below 0.");
        BoneWords y = new BoneWords();
        fill(y, 0, 16, 1, 2, 3, 4);
        fill(y, 1, 16, 5, 6);
        so(BEYOND, y.copy(0, 0, 1, 0, 3));
        so(BEYOND, y.copy(1, 0, 0, 0, 3));
        so(BEYOND, y.copy(0, 3, 1, 0, 2));
        so(BEYOND, y.copy(0, 0, 1, 1, 2));
        so(BEYOND, y.copy(0, 4, 1, 0, 1));
        so(BEYOND, y.copy(0, 5, 1, 0, 0));
        so(BEYOND, y.copy(0, 0, 1, 3, 0));
        so(BEYOND, y.copy(0, -1, 1, 0, 1));
        so(BEYOND, y.copy(0, 0, 1, -1, 1));
        so(BEYOND, y.copy(0, 0, 1, 0, -1));
        so(BEYOND, y.copy(0, -1, 1, 0, 0));
        so(BEYOND, y.copy(0, 0, 1, -1, 0));
        so(BEYOND, y.copy(0, 1, 1, 1, -1));
        so(BEYOND, y.copy(0, MAX, 0, 0, 1));
        so(BEYOND, y.copy(0, MAX, 1, MAX, MAX));
        so(BEYOND, y.copy(0, 1, 1, 1, MAX));
        so(BEYOND, y.copy(0, 0, 1, MAX, 2));
        so(BEYOND, y.copy(0, MIN, 1, MIN, MIN));
        so(BEYOND, y.copy(0, MIN, 1, 0, 1));
        so(19, y.status(0));
        rows(y, 0, 1, 2, 3, 4);
        rows(y, 1, 5, 6);
        BoneWords z = new BoneWords();
        z.sheet(0, 8, 40);
        z.sheet(1, 8, 40);
        z.write(0, 39, 9);
        so(40, z.copy(0, 0, 1, 0, 40));
        so(1, z.copy(1, 39, 1, 0, 1));
        so(10, z.load(1));
        so(9, z.bones(0));
        so(BEYOND, z.copy(0, 0, 1, 0, 41));
        so(BEYOND, z.copy(0, 1, 1, 0, 40));
        so(BEYOND, z.copy(0, 0, 1, 1, 40));
    }

    private static void p38and39() {
        promise(38, "load");
        says("Numbers of a sheet, from its begin on, become how many THE JAR has of LETTERS 0, 1, ..: how many came.");
        BoneWords x = reef("jar 1 5;jar 9 5");
        fill(x, 0, 16, 999);
        so(1, x.load(0));
        so(999, x.bones(0));
        so(5, x.bones(1));
        x.sheet(0, 8, 0);
        so(0, x.load(0));
        so(999, x.bones(0));
        says("It ends at the first that isn't 0 to 999, or for which there is no LETTER.");
        fill(x, 0, 32, 0, 999, 0);
        rows(x, 0, 0, 999, 0);
        for (int bad : new int[] {-1, 1000, MIN, MAX, 65536, -999}) {
            fill(x, 0, 32, 4, bad, 6);
            so(1, x.load(0));
            so(4, x.bones(0));
            so(999, x.bones(1));
            so(0, x.bones(2));
        }
        fill(x, 0, 8, 1, 2, 3, 4, 5, 6, 7, 8, 9);
        so(9, x.load(0));
        so(5, x.bones(9));
        fill(x, 0, 8, 1, 2, 3, 4, 5, 6, 7, 8, 9, 10);
        so(10, x.load(0));
        so(10, x.bones(9));
        fill(x, 0, 8, 9, 8, 7, 6, 5, 4, 3, 2, 1, 0, 11, 12);
        so(10, x.load(0));
        so(0, x.bones(9));
        so(45, x.now(2));
        says("BEYOND: no such sheet. MISSING.");
        for (int s = 0; s < 4; s++) {
            x.sheet(s, 8, s);
        }
        range(x, 0, 3, x::load);
        x.sheet(3, 0, 0);
        so(MISSING, x.load(3));
        so(BEYOND, x.load(4));
        promise(39, "judge");
        says("THE READER: numbers of a sheet are WRITTEN of WRITERS 0, 1, ..: 0 if so; else 1 and the place of the first that"
            + " isn't so.");
        BoneWords y = reef(EIGHT);
        for (int w = 0; w < 8; w++) {
            y.change(w, 4, w == 7 ? 9999 : w);
        }
        fill(y, 0, 16, 0, 1, 2, 3, 4, 5, 6, 9999);
        so(0, y.judge(0));
        for (int w = 7; w >= 0; w--) {
            y.change(w, 4, 100);
            so(w + 1, y.judge(0));
        }
        BoneWords z = reef(EIGHT);
        z.sheet(0, 8, 0);
        so(0, z.judge(0));
        z.sheet(0, 8, 8);
        so(0, z.judge(0));
        z.sheet(0, 8, 9);
        so(9, z.judge(0));
        z.sheet(0, 8, 40);
        so(9, z.judge(0));
        z.write(0, 7, -1);
        so(8, z.judge(0));
        BoneWords none = new BoneWords();
        none.sheet(0, 8, 1);
        so(1, none.judge(0));
        none.sheet(0, 8, 0);
        so(0, none.judge(0));
        says("BEYOND: no such sheet. MISSING.");
        for (int s = 0; s < 4; s++) {
            so(s == 0 ? 9 - 1 : MISSING, z.judge(s));
            z.sheet(s, 8, s);
        }
        range(z, 0, 3, z::judge);
        so(BEYOND, z.judge(4));
    }

    // ---- images

    private static void p40to42() {
        promise(40, "image");
        says("All but THE TAPE and SHEETS is kept: 1.");
        promise(41, "undo");
        says("It becomes what was kept latest (which stays): DAY.");
        says("NONE: nothing is kept.");
        BoneWords x = reef("writer word 1234;jar 1 2;fish 5 678 catch 9");
        so(NONE, x.undo());
        so(1, x.status(3));
        so(1, x.image());
        x.jar(1, 900);
        x.fish(5, 0, 0);
        x.fish(5, 1, 0);
        int[] other = {3, 99, 2, 55, 66};
        for (int what = 0; what < 5; what++) {
            x.change(0, what, other[what]);
        }
        x.hold(0, 0);
        x.hold(9, 0);
        x.seed(5);
        x.writer(6, 5);
        x.sheet(0, 8, 3);
        x.feed('p', 1);
        x.go(9);
        so(BEYOND, x.bones(10));
        for (int times = 0; times < 2; times++) {
            so(0, x.undo());
            int[] was = {0, 1234, 0, 30, 0};
            for (int what = 0; what < 5; what++) {
                so(was[what], x.of(0, what));
            }
            so(BEYOND, x.of(1, 0));
            so(2, x.bones(1));
            so(678, x.fishOf(5, 0));
            so(9, x.fishOf(5, 1));
            so(MISSING, x.as(0, 0));
            so(MISSING, x.as(9, 0));
            int[] counts = {0, 1, 2, 0, 30, 1, 1, 0};
            for (int what = 0; what < 8; what++) {
                so(counts[what], x.count(what));
            }
            so(1, x.write(0, 2, 1));
            x.jar(1, 3);
        }
        // an image of no writers, of eight and of a later day
        BoneWords y = new BoneWords();
        so(1, y.image());
        read(y, EIGHT);
        for (int w = 0; w < 8; w++) {
            y.hold(w, w);
        }
        so(0, y.undo());
        so(0, y.count(1));
        so(0, y.count(7));
        so(0, y.writer(6, 1));
        so(6, y.of(0, 0));
        y.go(60);
        y.image();
        y.go(1);
        y.image();
        y.go(1);
        so(61, y.undo());
        so(61, y.now(0));
        // what changes behind an undo doesn't change what is kept, nor does a trial
        y.change(0, 1, 9);
        y.ahead(0, 2, 9);
        y.letterFor(0, 3);
        read(y, "poet;jar 0 ?");
        so(61, y.undo());
        so(1, y.of(0, 1));
        so(1, y.count(1));
        promise(42, "tear");
        says("Nothing is kept: 1 if something was, else 0.");
        so(1, y.tear());
        so(0, y.tear());
        so(NONE, y.undo());
        so(61, y.now(0));
        so(1, y.image());
        so(61, y.undo());
        so(1, y.tear());
        so(0, new BoneWords().tear());
    }

    private static void p43and44() {
        promise(43, "count");
        says("0 DAY, 1 WRITERS, 2 LETTERS in THE JAR together, 3 WRITTEN of all together, 4 FAT of all together, 5 bytes of"
            + " THE TAPE, 6 z, 7 SPOTS that hold something.");
        BoneWords x = bare(EIGHT);
        for (int w = 0; w < 8; w++) {
            x.change(w, 3, 99);
            x.change(w, 4, 9999);
        }
        for (int l = 0; l < 10; l++) {
            x.jar(l, 999);
            x.hold(l, 7);
        }
        for (int i = 0; i < 30; i++) {
            x.feed(0, 4);
        }
        x.seed(MIN);
        int[] most = {0, 8, 9990, 79992, 792, 120, MIN, 10};
        for (int what = 0; what < 8; what++) {
            so(most[what], x.count(what));
        }
        x.go(60);
        so(60, x.count(0));
        so(0, x.count(4));
        says("BEYOND: another what.");
        range(x, 0, 7, x::count);
        promise(44, "status");
        says("How many acts answered a finding ever (undo() takes none back): which -1: all, 0 to 6: BEYOND to SIZE.");
        BoneWords y = reef("writer");
        for (int which = -1; which < 7; which++) {
            so(0, y.status(which));
        }
        y.image();
        y.hold(0, 0);
        for (int i = 0; i < 30; i++) {
            y.feed(0, 4);
        }
        int[] many = {1, 2, 3, 4, 5, 6, 7};
        for (int i = 0; i < 7; i++) {
            so(i < 1 ? BEYOND : 0, i < 1 ? y.go(0) : 0);
            so(i < 2 ? FULL : 0, i < 2 ? y.feed(0, 1) : 0);
            so(i < 3 ? KIND : 0, i < 3 ? y.as(0, 6) : 0);
            so(i < 4 ? NONE : 0, i < 4 ? y.when(0, 9999) : 0);
            so(i < 5 ? STATE : 0, i < 5 ? y.odds(0, 1) : 0);
            so(i < 6 ? MISSING : 0, i < 6 ? y.judge(0) : 0);
            so(SIZE, y.sheet(0, 8, -1));
        }
        for (int times = 0; times < 2; times++) {
            for (int which = 0; which < 7; which++) {
                so(many[which], y.status(which));
            }
            so(28, y.status(-1));
            so(0, y.undo());
        }
        says("BEYOND (counted from then on): another one.");
        so(BEYOND, y.status(7));
        so(2, y.status(0));
        so(29, y.status(-1));
        range(y, -1, 6, y::status);
    }

    public static void main(String[] args) throws Exception {
        open(args.length == 2 ? args[1] : "../shared/DOC.md");
        p01();
        p02and03();
        p04and05();
        p06();
        p07and08();
        p09and10();
        p11();
        p12();
        p13and14();
        p15to17();
        p18and19();
        p20and21();
        p22and23();
        p24and25();
        p26();
        p27();
        p28and29();
        p30to32();
        p33and34();
        p35and36();
        p37();
        p38and39();
        p40to42();
        p43and44();
        close();
        finish("EdgeTests");
    }
}
