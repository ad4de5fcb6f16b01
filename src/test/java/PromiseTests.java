/** For each promise of the document: ordinary calls, the edges that it names, and wrong ones. */
public final class PromiseTests extends Checks {
    private static void p01() {
        BoneWords x = new BoneWords();
        int[] counts = {0, 0, 0, 0, 0, 0, 1, 0};
        for (int what = 0; what < 8; what++) {
            due("1: count " + what, counts[what], x.count(what));
        }
        for (int f = 0; f < 6; f++) {
            due("1: bones of " + f, 12, x.fishOf(f, 0));
            due("1: catch of " + f, 3, x.fishOf(f, 1));
        }
        for (int l = 0; l < 10; l++) {
            due("1: jar " + l, 0, x.bones(l));
        }
        for (int s = 0; s < 4; s++) {
            due("1: sheet " + s, MISSING, x.judge(s));
        }
        for (int spot = 0; spot < 10; spot++) {
            due("1: spot " + spot, MISSING, x.as(spot, 0));
        }
        due("1: no image", 0, x.tear());
        BoneWords y = new BoneWords();
        due("1: nothing found yet", 0, y.status(-1));
    }

    private static void p02() {
        BoneWords x = new BoneWords();
        due("2: jar", 0, x.jar(9, 999));
        due("2: jar again", 999, x.jar(9, 0));
        due("2: jar then", 0, x.bones(9));
        due("2: jar first", 0, x.jar(0, 5));
        due("2: letter -1", BEYOND, x.jar(-1, 5));
        due("2: letter 10", BEYOND, x.jar(10, 5));
        due("2: v -1", BEYOND, x.jar(0, -1));
        due("2: v 1000", BEYOND, x.jar(0, 1000));
        due("2: v MIN", BEYOND, x.jar(MAX, MIN));
        due("2: nothing changed", 5, x.bones(0));
    }

    private static void p03() {
        BoneWords x = reef("jar 0 1;jar 9 8");
        due("3: bones 0", 1, x.bones(0));
        due("3: bones 9", 8, x.bones(9));
        due("3: letter -1", BEYOND, x.bones(-1));
        due("3: letter 10", BEYOND, x.bones(10));
        due("3: letter MIN", BEYOND, x.bones(MIN));
    }

    private static void p04() {
        BoneWords x = new BoneWords();
        due("4: bones", 12, x.fish(5, 0, 999));
        due("4: bones were", 999, x.fish(5, 0, 0));
        due("4: catch", 3, x.fish(5, 1, 20));
        due("4: catch was", 20, x.fish(5, 1, 0));
        due("4: fish 6", BEYOND, x.fish(6, 0, 0));
        due("4: fish -1", BEYOND, x.fish(-1, 0, 0));
        due("4: what 2", BEYOND, x.fish(0, 2, 0));
        due("4: what -1", BEYOND, x.fish(0, -1, 0));
        due("4: bones 1000", BEYOND, x.fish(0, 0, 1000));
        due("4: bones -1", BEYOND, x.fish(0, 0, -1));
        due("4: catch 21", BEYOND, x.fish(0, 1, 21));
        due("4: catch -1", BEYOND, x.fish(0, 1, -1));
        due("4: as it was", 12, x.fishOf(0, 0));
        due("4: catch as it was", 3, x.fishOf(0, 1));
    }

    private static void p05() {
        BoneWords x = reef("fish 0 7 catch 4;fish 1 555;fish 2 909;fish 3 123;fish 4 0");
        due("5: bones", 7, x.fishOf(0, 0));
        due("5: catch", 4, x.fishOf(0, 1));
        due("5: unlike 007", 2, x.fishOf(0, 2));
        due("5: unlike 555", 1, x.fishOf(1, 2));
        due("5: unlike 909", 2, x.fishOf(2, 2));
        due("5: unlike 123", 3, x.fishOf(3, 2));
        due("5: unlike 000", 1, x.fishOf(4, 2));
        due("5: fish 6", BEYOND, x.fishOf(6, 0));
        due("5: fish -1", BEYOND, x.fishOf(-1, 0));
        due("5: what 3", BEYOND, x.fishOf(0, 3));
        due("5: what -1", BEYOND, x.fishOf(0, -1));
    }

    private static void p06() {
        BoneWords x = new BoneWords();
        due("6: kind 7", BEYOND, x.writer(7, 0));
        due("6: kind -1", BEYOND, x.writer(-1, 0));
        due("6: word 10000", BEYOND, x.writer(0, 10000));
        due("6: word -1", BEYOND, x.writer(0, -1));
        for (int w = 0; w < 8; w++) {
            due("6: writer", w, x.writer(w % 7, 9999 - w));
        }
        due("6: full", FULL, x.writer(0, 0));
        due("6: beyond ahead of full", BEYOND, x.writer(7, 0));
        due("6: eight", 8, x.count(1));
        due("6: its kind", 6, x.of(6, 0));
        due("6: its word", 9992, x.of(7, 1));
        due("6: its at", 0, x.of(7, 2));
        due("6: its fat", 30, x.of(7, 3));
        due("6: its written", 0, x.of(7, 4));
    }

    private static void p07() {
        BoneWords x = reef("writer;poet;scholar;lawyer;censor;child;widow word 1234");
        int[] eats = {2, 2, 3, 6, 6, 1, 1};
        int[] writes = {2, 2, 2, 4, 0, 2, 1};
        for (int w = 0; w < 7; w++) {
            due("7: kind of " + w, w, x.of(w, 0));
            due("7: eats " + w, eats[w], x.of(w, 5));
            due("7: writes " + w, writes[w], x.of(w, 6));
        }
        for (int at = 0; at < 4; at++) {
            x.change(6, 2, at);
            due("7: next letter", 1 + at, x.of(6, 7));
            x.change(4, 2, at);
            due("7: censor at " + at, 6 - at, x.of(4, 5));
        }
        x.change(1, 3, 59);
        x.change(6, 3, 59);
        due("7: poet 59", 2, x.of(1, 5));
        due("7: widow 59", 1, x.of(6, 5));
        x.change(1, 3, 60);
        x.change(6, 3, 60);
        due("7: poet 60", 0, x.of(1, 5));
        due("7: widow 60", 0, x.of(6, 5));
        x.change(1, 3, 20);
        x.change(6, 3, 0);
        due("7: poet 20", 2, x.of(1, 6));
        x.change(1, 3, 19);
        due("7: poet 19", 4, x.of(1, 6));
        due("7: widow thin", 1, x.of(6, 6));
        x.change(5, 3, 31);
        due("7: child odd", 1, x.of(5, 6));
        x.change(5, 3, 33);
        due("7: child odd again", 1, x.of(5, 6));
        x.change(5, 3, 28);
        due("7: child even", 2, x.of(5, 6));
        for (int w : new int[] {0, 2, 3}) {
            x.change(w, 3, 99);
            due("7: fat eats as ever", eats[w], x.of(w, 5));
            due("7: fat writes as ever", writes[w], x.of(w, 6));
        }
        due("7: writer 7", BEYOND, x.of(7, 0));
        due("7: writer -1", BEYOND, x.of(-1, 0));
        due("7: what 8", BEYOND, x.of(0, 8));
        due("7: what -1", BEYOND, x.of(0, -1));
    }

    private static void p08() {
        BoneWords x = reef("poet word 12 fat 40");
        int[] was = {1, 12, 0, 40, 0};
        int[] most = {6, 9999, 3, 99, 9999};
        for (int what = 0; what < 5; what++) {
            due("8: was " + what, was[what], x.change(0, what, most[what]));
            due("8: became " + what, most[what], x.of(0, what));
            due("8: above " + what, BEYOND, x.change(0, what, most[what] + 1));
            due("8: below " + what, BEYOND, x.change(0, what, -1));
            due("8: stays " + what, most[what], x.change(0, what, 0));
        }
        due("8: what 5", BEYOND, x.change(0, 5, 0));
        due("8: what -1", BEYOND, x.change(0, -1, 0));
        due("8: what MAX", BEYOND, x.change(0, MAX, 0));
        due("8: writer 1", BEYOND, x.change(1, 0, 0));
        due("8: writer -1", BEYOND, x.change(-1, 0, 0));
    }

    private static void p09() {
        BoneWords x = reef("writer;poet;scholar;lawyer;censor;child;widow;fish 0 25;fish 1 947;fish 2 333");
        int[] of025 = {37, 36, 37, 5, 0, 1, 36};
        int[] of947 = {656, 656, 656, 16, 0, 512, 656};
        int[] of333 = {8, 8, 8, 0, 0, 8, 8};
        for (int w = 0; w < 7; w++) {
            due("9: 025 by " + w, of025[w], x.keeps(w, 0));
            due("9: 947 by " + w, of947[w], x.keeps(w, 1));
            due("9: 333 by " + w, of333[w], x.keeps(w, 2));
        }
        due("9: writer 7", BEYOND, x.keeps(7, 0));
        due("9: fish 6", BEYOND, x.keeps(0, 6));
        due("9: fish -1", BEYOND, x.keeps(0, -1));
    }

    private static void p10() {
        BoneWords x = reef("jar 0 9;jar 1 7;jar 2 3;jar 9 999");
        due("10: 0000", 2, x.spells(0));
        due("10: 0012", 3, x.spells(12));
        due("10: 1111", 1, x.spells(1111));
        due("10: 1011", 2, x.spells(1011));
        due("10: 0003", 0, x.spells(3));
        due("10: 3000", 0, x.spells(3000));
        due("10: 9999", 249, x.spells(9999));
        due("10: 1999", 7, x.spells(1999));
        due("10: -1", BEYOND, x.spells(-1));
        due("10: 10000", BEYOND, x.spells(10000));
    }

    private static void p11() {
        BoneWords x = bare("writer word 123;jar 0 2;jar 1 2;jar 2 2;jar 3 2");
        due("11: a day", 0, x.go(1));
        due("11: two days", 1, x.go(1));
        due("11: at", 0, x.of(0, 2));
        due("11: no more than there is", 2, x.go(60));
        due("11: day", 62, x.now(0));
        due("11: n 0", BEYOND, x.go(0));
        due("11: n 61", BEYOND, x.go(61));
        due("11: n -1", BEYOND, x.go(-1));
        due("11: n MIN", BEYOND, x.go(MIN));
        due("11: day stays", 62, x.now(0));
    }

    /** What of a day's four parts no other promise's test tells apart. */
    private static void daysEating() {
        BoneWords x = bare("lawyer;writer;child;writer;fish 0 248 catch 9;fish 1 555 catch 2");
        x.go(1);
        // the lawyer eats 6, the writer 2, the child 1 and the last one finds none; nobody has a 0 to write
        due("day: 2s", 9, x.bones(2));
        due("day: 4s", 8, x.bones(4));
        due("day: 8s", 8, x.bones(8));
        due("day: lawyer's fat", 46, x.of(0, 3));
        due("day: writer's fat", 34, x.of(1, 3));
        due("day: child's fat", 31, x.of(2, 3));
        due("day: the last one's fat", 28, x.of(3, 3));
        due("day: list stays", 9, x.fishOf(0, 1));
        x.go(1);
        due("day: the second day's fish goes to the lawyer", 0, x.bones(5));
        due("day: lawyer's fat then", 50, x.of(0, 3));
        BoneWords y = bare("poet fat 59;poet fat 60;lawyer fat 98;fish 0 11 catch 20;jar 1 998;jar 0 0");
        y.go(1);
        due("day: a poet eats as ahead of its first one", 63, y.of(0, 3));
        due("day: a fat poet eats nothing", 58, y.of(1, 3));
        due("day: 99 at most, then 2 less", 97, y.of(2, 3));
        due("day: 999 at most", 999, y.bones(1));
        due("day: the poet's 0s are lost, the lawyer's come and are written", 0, y.bones(0));
        BoneWords z = bare("scholar word 7777;fish 0 77 catch 3;fish 1 7 catch 20");
        z.go(1);
        due("day: what is eaten is written on the same day", 2, z.of(0, 2));
        due("day: a scholar's 7s", 4, z.bones(7));
        z.go(1);
        due("day: 7s of the next fish", 5, z.bones(7));
        due("day: written", 1, z.of(0, 4));
    }

    private static void daysWriting() {
        BoneWords x = bare("writer word 1199;poet word 1122 fat 21;lawyer word 2222;child word 5;jar 1 3;jar 2 5;jar 0 9");
        x.go(1);
        // the writer takes two 1s, the poet the last one and waits; the lawyer goes on with four 2s
        due("day: writer at", 2, x.of(0, 2));
        due("day: poet at", 1, x.of(1, 2));
        due("day: lawyer at", 0, x.of(2, 2));
        due("day: lawyer written", 1, x.of(2, 4));
        due("day: child at", 2, x.of(3, 2));
        due("day: 2s left", 1, x.bones(2));
        due("day: 0s left", 7, x.bones(0));
        x.jar(1, 9);
        x.go(1);
        // now the poet's fat is 19, so it writes 4 but finds 1s for one and a single 2
        due("day: thin poet at", 3, x.of(1, 2));
        due("day: 1s left", 8, x.bones(1));
        due("day: fat", 17, x.of(1, 3));
        BoneWords y = bare("writer word 1;jar 0 999;jar 1 999;fish 0 0");
        y.change(0, 4, 9998);
        y.go(4);
        due("day: written 9999 at most", 9999, y.of(0, 4));
        BoneWords z = bare("writer fat 1");
        z.go(1);
        due("day: fat is 0 at least", 0, z.of(0, 3));
    }

    private static void daysSoup() {
        BoneWords x = bare("jar 0 999;jar 1 10;jar 2 9;jar 3 19;jar 4 20");
        x.go(6);
        due("soup: not ahead of day 7", 999, x.bones(0));
        x.go(1);
        int[] left = {900, 9, 9, 18, 18};
        for (int l = 0; l < 5; l++) {
            due("soup: of letter " + l, left[l], x.bones(l));
        }
        x.go(7);
        due("soup: on day 14", 810, x.bones(0));
        BoneWords y = bare("writer word 1111;jar 1 11;fish 0 111 catch 1");
        y.go(7);
        // 11 and 3, less 2 a day: none is left after six days and a half of a fish; day 6 catches fish 0 again
        due("soup: comes behind eating and writing", 3, y.bones(1));
        due("soup: written ahead of it", 3, y.of(0, 4));
    }

    private static void p12() {
        BoneWords x = bare("writer word 1234 fat 0;poet word 5678 fat 9;child word 9 fat 0;jar 1 4;jar 0 2");
        x.change(0, 4, 7);
        x.change(2, 4, 5);
        due("12: day", 0, x.now(0));
        due("12: written", 12, x.now(1));
        due("12: letters", 6, x.now(2));
        due("12: fat", 9, x.now(3));
        due("12: who waits", 2, x.now(4));
        due("12: lacking", 1020, x.now(5));
        due("12: who starves", 5, x.now(6));
        x.change(2, 2, 3);
        due("12: who waits further on", 6, x.now(4));
        x.go(5);
        due("12: day then", 5, x.now(0));
        read(x, "poet fat 0;poet;poet;poet;child fat 0");
        x.jar(0, 0);
        due("12: all eight wait", 255, x.now(4));
        due("12: eight's fat", 90, x.now(3));
        due("12: of eight two more starve", 143, x.now(6));
        due("12: lacking 0 too", 1021, x.now(5));
        x.jar(0, 1);
        due("12: three wait", 7, x.now(4));
        due("12: nobody starves", 0, reef("writer;poet").now(6));
        due("12: what 7", BEYOND, x.now(7));
        due("12: what -1", BEYOND, x.now(-1));
    }

    private static void p13() {
        BoneWords x = bare("writer word 1111;jar 1 999");
        due("13: at 0", 0, x.ahead(0, 2, 0));
        due("13: at 1", 2, x.ahead(0, 2, 1));
        due("13: fat 15", 0, x.ahead(0, 3, 15));
        due("13: fat 14", 2, x.ahead(0, 3, 14));
        due("13: written 100", 50, x.ahead(0, 4, 100));
        due("13: nothing changes", 0, x.now(0));
        due("13: nor the jar", 999, x.bones(1));
        due("13: n 101", BEYOND, x.ahead(0, 2, 101));
        due("13: n -1", BEYOND, x.ahead(0, 2, -1));
        due("13: what 1", BEYOND, x.ahead(0, 1, 1));
        due("13: what 5", BEYOND, x.ahead(0, 5, 1));
        due("13: writer 1", BEYOND, x.ahead(1, 2, 1));
        due("13: writer -1", BEYOND, x.ahead(-1, 2, 1));
    }

    private static void p14() {
        BoneWords x = bare("writer word 1111;jar 1 999;jar 2 50");
        due("14: now", 999, x.later(1, 0));
        due("14: behind 3", 993, x.later(1, 3));
        due("14: behind soup", 887, x.later(1, 7));
        due("14: 2s behind 14", 41, x.later(2, 14));
        due("14: 100", 15, x.later(2, 100));
        due("14: nothing changes", 999, x.bones(1));
        due("14: n 101", BEYOND, x.later(1, 101));
        due("14: n -1", BEYOND, x.later(1, -1));
        due("14: letter 10", BEYOND, x.later(10, 1));
        due("14: letter -1", BEYOND, x.later(-1, 1));
    }

    private static void p15() {
        BoneWords x = bare("writer word 1111;writer word 2222;jar 1 999;jar 2 7");
        due("15: 0", 0, x.when(0, 0));
        due("15: 1", 2, x.when(0, 1));
        due("15: 50", 100, x.when(0, 50));
        due("15: 51", NONE, x.when(0, 51));
        due("15: 9999", NONE, x.when(0, 9999));
        due("15: as far as the jar goes", 2, x.when(1, 1));
        due("15: no further", NONE, x.when(1, 2));
        x.change(1, 4, 500);
        due("15: more than v", 0, x.when(1, 400));
        due("15: nothing changes", 0, x.now(0));
        due("15: v 10000", BEYOND, x.when(0, 10000));
        due("15: v -1", BEYOND, x.when(0, -1));
        due("15: writer 2", BEYOND, x.when(2, 0));
    }

    private static void p16() {
        BoneWords x = bare("writer;writer fat 0;writer fat 99;writer fat 1");
        due("16: 30", 15, x.starves(0));
        due("16: 0", 0, x.starves(1));
        due("16: 99", 50, x.starves(2));
        due("16: 1", 1, x.starves(3));
        for (int f = 0; f < 6; f++) {
            x.fish(f, 1, 1);
        }
        due("16: fed each day", NONE, x.starves(0));
        due("16: nothing changes", 30, x.of(0, 3));
        due("16: writer 4", BEYOND, x.starves(4));
        due("16: writer -1", BEYOND, x.starves(-1));
    }

    private static void p17() {
        BoneWords x = bare("writer word 1111;jar 1 7;jar 2 9;jar 3 200");
        due("17: written", 4, x.out(1));
        due("17: none now", 0, x.out(0));
        due("17: nine never boil away", NONE, x.out(2));
        x.jar(1, 200);
        // 200, 186: 168, 154: 139, 125: 113, 99: 90, 76: 69, 55: 50, 36: 33, 19: 18, then 2 a day to 4, 0
        due("17: soups help", 65, x.out(1));
        BoneWords y = bare("widow word 1111;jar 1 205");
        due("17: 100", 100, y.out(1));
        y.jar(1, 206);
        due("17: 101", NONE, y.out(1));
        due("17: letter 10", BEYOND, x.out(10));
        due("17: letter -1", BEYOND, x.out(-1));
        due("17: nothing changes", 200, x.bones(1));
    }

    private static void p18() {
        BoneWords x = bare("scholar word 1234;fish 0 1;fish 1 123;fish 2 234;fish 3 411");
        due("18: none helps", 0, x.catchFor(0));
        due("18: none alone", 0, x.catchFor(40));
        x.jar(4, 9);
        // only fish 1 (on day 1) has 1, 2 and 3 together
        due("18: fish 1", 1, x.catchFor(10));
        x.jar(1, 9);
        due("18: fish 1 still", 1, x.catchFor(3));
        x.fish(1, 0, 12);
        due("18: fish 2", 2, x.catchFor(4));
        due("18: nothing changes", 0, x.fishOf(2, 1));
        due("18: n 41", BEYOND, x.catchFor(41));
        due("18: n -1", BEYOND, x.catchFor(-1));
        due("18: no writers", 0, new BoneWords().catchFor(40));
    }

    private static void p19() {
        BoneWords x = bare("lawyer word 2;writer word 1111;fish 0 111;fish 1 111");
        // the lawyer takes the first six of fish 0
        due("19: 8 fishes", 8, x.fewest(0, 1, 1, 2));
        due("19: 7 leave three 1s", 7, x.fewest(0, 1, 1, 8));
        due("19: two words", 8, x.fewest(0, 1, 2, 9));
        due("19: two words with more time", 7, x.fewest(0, 1, 2, 20));
        due("19: already", 0, x.fewest(0, 1, 0, 0));
        due("19: never", NONE, x.fewest(0, 1, 9999, 40));
        due("19: not in a day", NONE, x.fewest(0, 1, 1, 1));
        due("19: nothing changes", 0, x.fishOf(0, 1));
        BoneWords y = bare("lawyer word 2;lawyer word 2;lawyer word 2;writer word 1111;fish 0 111");
        due("19: twenty", 20, y.fewest(0, 3, 1, 3));
        due("19: fish 6", BEYOND, x.fewest(6, 1, 1, 1));
        due("19: writer 2", BEYOND, x.fewest(0, 2, 1, 1));
        due("19: v 10000", BEYOND, x.fewest(0, 1, 10000, 1));
        due("19: v -1", BEYOND, x.fewest(0, 1, -1, 1));
        due("19: n 41", BEYOND, x.fewest(0, 1, 1, 41));
        due("19: n -1", BEYOND, x.fewest(0, 1, 1, -1));
    }

    private static void p20() {
        BoneWords x = bare("writer word 1239;jar 1 9;jar 2 2;jar 3 9;jar 5 9");
        x.change(0, 2, 3);
        // a 2 would be gone with the first word, 1 and 3 do as long as they last
        due("20: least of the best", 1, x.letterFor(0, 4));
        due("20: 0 days", 0, x.letterFor(0, 0));
        x.jar(2, 9);
        due("20: longer", 5, x.letterFor(0, 19));
        due("20: its word stays", 1239, x.of(0, 1));
        x.change(0, 2, 0);
        x.change(0, 1, 9335);
        due("20: in the place of at", 1, x.letterFor(0, 20));
        due("20: writer 1", BEYOND, x.letterFor(1, 0));
        due("20: n 41", BEYOND, x.letterFor(0, 41));
        due("20: n -1", BEYOND, x.letterFor(0, -1));
    }

    private static void p21() {
        BoneWords x = bare("censor word 1111 fat 30;jar 1 999");
        due("21: lawyer", 3, x.kindFor(0, 5));
        due("21: 0 days", 0, x.kindFor(0, 0));
        x.change(0, 3, 10);
        due("21: a thin poet is as fast", 1, x.kindFor(0, 5));
        due("21: nothing changes", 4, x.of(0, 0));
        due("21: writer 1", BEYOND, x.kindFor(1, 0));
        due("21: n 41", BEYOND, x.kindFor(0, 41));
        due("21: n -1", BEYOND, x.kindFor(0, -1));
    }

    private static void p22() {
        BoneWords x = bare("writer word 1111;writer word 1111;writer word 2222;writer word 1111;jar 1 10;jar 2 99");
        due("22: nobody", 0, x.away(0, 1, 2));
        due("22: one, the least", 1, x.away(3, 1, 2));
        due("22: not the one who needs no 1s", 0, x.away(2, 5, 10));
        due("22: both", 3, x.away(3, 2, 4));
        due("22: too many", NONE, x.away(3, 3, 20));
        due("22: not itself", NONE, x.away(0, 3, 20));
        due("22: a single one of two words", 0, x.away(0, 0, 0));
        x.change(2, 0, 3);
        x.change(2, 1, 1111);
        x.jar(1, 12);
        due("22: a greater set of fewer", 4, x.away(3, 1, 2));
        x.change(2, 0, 0);
        x.change(2, 1, 2222);
        x.fish(0, 1, 6);
        x.fish(0, 0, 111);
        x.jar(1, 0);
        // six fishes feed writers 0, 1 and 2; the last one eats if one of them is away
        x.change(2, 0, 4);
        x.change(0, 0, 4);
        x.change(0, 1, 2222);
        due("22: the censors eat all", 5, x.away(3, 1, 2));
        due("22: nothing changes", 0, x.now(0));
        due("22: writer 4", BEYOND, x.away(4, 1, 1));
        due("22: v 10000", BEYOND, x.away(0, 10000, 1));
        due("22: v -1", BEYOND, x.away(0, -1, 1));
        due("22: n 21", BEYOND, x.away(0, 1, 21));
        due("22: n -1", BEYOND, x.away(0, 1, -1));
    }

    private static void p23() {
        BoneWords x = bare("child word 5555;fish 0 555 catch 1");
        due("23: what isn't written at once", 0, x.bonesFor(0, 1));
        x.change(0, 1, 0);
        due("23: not a 0", 100, x.bonesFor(0, 1));
        due("23: 0 days", 0, x.bonesFor(0, 0));
        due("23: fish of another day", 0, x.bonesFor(1, 1));
        x.change(0, 0, 3);
        // a lawyer keeps even ones and writes 0s
        due("23: lawyer", 222, x.bonesFor(0, 6));
        x.change(0, 0, 1);
        due("23: poet", 111, x.bonesFor(0, 6));
        x.jar(1, 999);
        due("23: no room for 1s", 222, x.bonesFor(0, 6));
        for (int l = 0; l < 9; l++) {
            x.jar(l, 999);
        }
        due("23: room for 9s alone", 999, x.bonesFor(0, 1));
        due("23: nothing changes", 555, x.fishOf(0, 0));
        due("23: fish 6", BEYOND, x.bonesFor(6, 1));
        due("23: fish -1", BEYOND, x.bonesFor(-1, 1));
        due("23: n 7", BEYOND, x.bonesFor(0, 7));
        due("23: n -1", BEYOND, x.bonesFor(0, -1));
    }

    private static void p24() {
        BoneWords x = bare("writer word 9112;jar 1 9;jar 2 9;jar 9 1;jar 3 1");
        fill(x, 0, 8, 0, 2, 0);
        due("24: letters that are there", 526, x.fits(0, 0));
        fill(x, 0, 8, 0, 2, 0, 2, 0);
        due("24: twice", 6, x.fits(0, 0));
        fill(x, 0, 16, -1, 0, -1);
        due("24: those that aren't there", 497, x.fits(0, 0));
        fill(x, 0, 32, 1);
        due("24: at isn't so now", 0, x.fits(0, 0));
        fill(x, 0, 8, 255);
        due("24: 255 of 8 bits is any", 1023, x.fits(0, 0));
        x.sheet(0, 8, 0);
        due("24: no numbers", 1023, x.fits(0, 0));
        due("24: nothing changes", 9112, x.of(0, 1));
        due("24: sheet 4", BEYOND, x.fits(4, 9));
        due("24: sheet -1", BEYOND, x.fits(-1, 0));
        due("24: missing ahead of the writer", MISSING, x.fits(1, 9));
        due("24: writer 1", BEYOND, x.fits(0, 1));
    }

    private static void p25() {
        BoneWords x = bare("writer word 1111;jar 1 99");
        fill(x, 0, 8, 0, 2);
        // a child's fat is 30 today: it writes two
        due("25: two a day", 39, x.kinds(0, 0));
        fill(x, 0, 8, 0, 1, 2, 3);
        due("25: a widow", 64, x.kinds(0, 0));
        fill(x, 0, 8, 0, 0, 0);
        due("25: a lawyer or a censor", 24, x.kinds(0, 0));
        fill(x, 0, 8, 4);
        due("25: none", 0, x.kinds(0, 0));
        x.sheet(0, 8, 0);
        due("25: any", 127, x.kinds(0, 0));
        due("25: nothing changes", 0, x.of(0, 0));
        due("25: sheet 4", BEYOND, x.kinds(4, 9));
        due("25: missing ahead of the writer", MISSING, x.kinds(1, 9));
        due("25: writer 1", BEYOND, x.kinds(0, 1));
    }

    private static void p26() {
        BoneWords x = reef("jar 1 7;jar 0 5;jar 2 3;jar 3 4");
        due("26: 0", 10000, x.texts(0));
        due("26: 1", 255, x.texts(1));
        due("26: 3", 60, x.texts(3));
        due("26: 9", 0, x.texts(9));
        due("26: v 10", BEYOND, x.texts(10));
        due("26: v -1", BEYOND, x.texts(-1));
        BoneWords y = reef("jar 4 36");
        due("26: one word", 1, y.texts(9));
        y.jar(4, 35);
        due("26: none", 0, y.texts(9));
        for (int l = 0; l < 10; l++) {
            y.jar(l, 1);
        }
        due("26: unlike letters", 5040, y.texts(1));
    }

    private static void p27() {
        BoneWords x = new BoneWords();
        due("27: no writers", 0, x.catches(1));
        // z 1103527590, then 2524885223 as an unsigned one: 4310654 % 6 is 2, 9862832 % 21 is 14
        due("27: the catch", 14, x.fishOf(2, 1));
        due("27: z", -1770082073, x.count(6));
        due("27: day", 1, x.now(0));
        x.catches(20);
        due("27: day then", 21, x.now(0));
        due("27: n 0", BEYOND, x.catches(0));
        due("27: n 21", BEYOND, x.catches(21));
        due("27: n -1", BEYOND, x.catches(-1));
        BoneWords y = bare("writer word 1111;jar 1 8");
        due("27: written", 1, y.catches(2));
    }

    private static void p28() {
        BoneWords x = new BoneWords();
        due("28: empty", STATE, x.odds(0, 0));
        due("28: beyond ahead of empty", BEYOND, x.odds(0, 2));
        read(x, "jar 0 5;jar 1 7;jar 2 3;jar 3 4");
        due("28: above", 420, x.odds(1203, 0));
        due("28: below", 130321, x.odds(1203, 1));
        due("28: none", 0, x.odds(1239, 0));
        due("28: none below", 1, x.odds(1239, 1));
        x.jar(1, 11);
        x.jar(2, 0);
        due("28: lowest terms", 1, x.odds(3333, 0));
        due("28: lowest terms below", 625, x.odds(3333, 1));
        due("28: put back", 14641, x.odds(1111, 0));
        due("28: all below", 160000, x.odds(1111, 1));
        due("28: word -1", BEYOND, x.odds(-1, 0));
        due("28: word 10000", BEYOND, x.odds(10000, 0));
        due("28: what -1", BEYOND, x.odds(0, -1));
        BoneWords y = new BoneWords();
        for (int l = 0; l < 10; l++) {
            y.jar(l, l == 9 ? 998 : 999);
        }
        due("28: long", 9989L * 9989 * 9989 * 9989, y.odds(0, 1));
        due("28: long above", 999L * 999 * 999 * 998, y.odds(1239, 0));
        y.jar(9, 999);
        due("28: even", 10000, y.odds(1239, 1));
    }

    private static void p29() {
        BoneWords x = new BoneWords();
        due("29: at first", 1, x.seed(MIN));
        due("29: was", MIN, x.seed(-1000001));
        due("29: no finding", -1000001, x.seed(-1000002));
        due("29: none counted", 0, x.status(-1));
        due("29: count is none either", -1000002, x.count(6));
        due("29: still none", 0, x.status(-1));
    }

    private static void p30() {
        BoneWords x = new BoneWords();
        due("30: one", 1, x.feed('j', 1));
        due("30: lowest two", 3, x.feed(0x12346172, 2));
        due("30: three", 6, x.feed(0x7f203120, 3));
        due("30: four", 10, x.feed(0x37373720, 4));
        due("30: read", 1, x.text());
        due("30: highest first", 777, x.bones(1));
        due("30: n 0", BEYOND, x.feed(0, 0));
        due("30: n 5", BEYOND, x.feed(0, 5));
        due("30: n -1", BEYOND, x.feed(0, -1));
        for (int i = 1; i <= 29; i++) {
            x.feed(0, 4);
        }
        due("30: 117", 117, x.feed(-1, 1));
        due("30: 4 too many", FULL, x.feed(0, 4));
        due("30: 3 are not", 120, x.feed(0, 3));
        due("30: full", FULL, x.feed(0, 1));
        due("30: beyond ahead of full", BEYOND, x.feed(0, 5));
        due("30: as many as ever", 120, x.count(5));
    }

    private static void p31() {
        BoneWords x = new BoneWords();
        due("31: none", 0, x.wipe());
        x.feed(0, 3);
        due("31: three", 3, x.wipe());
        due("31: gone", 0, x.wipe());
        due("31: count", 0, x.count(5));
        read(x, "jar 0 1");
        due("31: behind a text", 0, x.wipe());
    }

    private static void p32() {
        String[] faulty = {"", "   ", "jar", "jar 0 ", "jar 0 1 ;", ";", "jar;", "jar 1 2;;jar 1 2", "Jar 0 1", "jar 0 1.",
            "poet 3", "poet fat", "poet fat 3 fat 4", "poet word 3 poet", "poet word word", "fish 1", "fish 1 2 catch",
            "fish 1 2 catch 21", "fish 1 2 3", "jar 0 1 catch 2", "jar 0 99999999999999999999", "poetfat 3", "jar\t0 1",
            "jar 0 1 \u00ff", "catch 3", "jar -1 3", "writer word 1 fat 100", "cat", "fish 6 0",
            "fish 5 1000", "jar 10 0", "jar 9 1000", "poet word", "poet word;poet", "fish", "fish;poet", "poetz",
            "jar 0;poet", "fish 0;poet", "jar 0 5 ; poet fat ; poet", "fish 0 5 catch;poet", "goet", "bar 0 1", "poet sat 3", "jas 0 1"};
        int[] places = {0, 3, 3, 6, 9, 0, 3, 8, 0, 7, 5, 8, 11, 12, 10, 6, 14, 15, 9, 8, 6, 0, 3, 8, 0, 4, 18, 0, 5, 7, 4, 6, 9, 9, 4, 4,
            0, 5, 6, 19, 14, 0, 0, 5, 0};
        for (int i = 0; i < faulty.length; i++) {
            BoneWords x = reef("jar 0 5");
            due("32: " + faulty[i], -1 - places[i], read(x, faulty[i]));
            due("32: tape behind " + faulty[i], 0, x.count(5));
            due("32: jar behind " + faulty[i], 5, x.bones(0));
            due("32: no finding", 0, x.status(-1));
            due("32: no writer", 0, x.count(1));
        }
        BoneWords x = new BoneWords();
        due("32: items", 5, read(x, " jar 1 2;poet;fish3 5 catch007;censor word 12fat99;jar 1 09 "));
        due("32: item by item", 9, x.bones(1));
        due("32: bones", 5, x.fishOf(3, 0));
        due("32: catch", 7, x.fishOf(3, 1));
        due("32: poet", 1, x.of(0, 0));
        due("32: no word", 0, x.of(0, 1));
        due("32: no fat", 30, x.of(0, 3));
        due("32: censor", 4, x.of(1, 0));
        due("32: word", 12, x.of(1, 1));
        due("32: fat", 99, x.of(1, 3));
        due("32: catch stays", 1, read(x, "fish 3 999"));
        due("32: as it was", 7, x.fishOf(3, 1));
        due("32: all kinds", 5, read(x, "writer;scholar;lawyer;child;widow"));
        int[] kinds = {1, 4, 0, 2, 3, 5, 6};
        for (int w = 0; w < 7; w++) {
            due("32: kind of " + w, kinds[w], x.of(w, 0));
        }
        due("32: the ninth's own word", -8, read(x, "widow; poet word 99999"));
        due("32: not even the eighth came", 7, x.count(1));
        due("32: the eighth", 1, read(x, "child word 9999"));
        due("32: no ninth", -1, read(x, "child"));
    }

    private static void p33() {
        BoneWords x = reef("writer;poet");
        due("33: hold", 1, x.hold(0, 0));
        due("33: hold the other", 1, x.hold(9, 1));
        due("33: two", 2, x.count(7));
        due("33: let go", 1, x.hold(0, -1));
        due("33: one", 1, x.count(7));
        due("33: gone", MISSING, x.as(0, 0));
        due("33: writer 2", BEYOND, x.hold(0, 2));
        due("33: writer -2", BEYOND, x.hold(9, -2));
        due("33: spot 10", BEYOND, x.hold(10, 0));
        due("33: spot -1", BEYOND, x.hold(-1, 0));
        due("33: still held", 1, x.as(9, 1));
    }

    private static void p34() {
        BoneWords x = reef("writer;poet;scholar;lawyer;censor;child;widow");
        int[] above = {1, 3, 5, 13, 29, 33, 67};
        for (int w = 0; w < 7; w++) {
            x.hold(w, w);
            for (int kind = 0; kind < 7; kind++) {
                due("34: " + w + " as " + kind, (above[w] >> kind & 1) == 1 ? w : KIND, x.as(w, kind));
            }
        }
        x.change(6, 0, 2);
        due("34: by its kind now", 6, x.as(6, 2));
        due("34: no more a poet", KIND, x.as(6, 1));
        due("34: empty", MISSING, x.as(7, 0));
        due("34: beyond ahead of empty", BEYOND, x.as(7, 7));
        due("34: kind -1", BEYOND, x.as(0, -1));
        due("34: spot 10", BEYOND, x.as(10, 0));
        due("34: spot -1", BEYOND, x.as(-1, 0));
    }

    private static void p35() {
        BoneWords x = new BoneWords();
        due("35: 40", 40, x.sheet(3, 32, 40));
        due("35: 0", 0, x.sheet(0, 16, 0));
        due("35: there", 0, x.judge(0));
        x.write(3, 0, 5);
        x.sheet(3, 8, 2);
        due("35: all 0", 2, x.load(3));
        due("35: two", BEYOND, x.write(3, 2, 0));
        x.jar(0, 4);
        due("35: bits 7", BEYOND, x.sheet(3, 7, -1));
        due("35: sheet 4", BEYOND, x.sheet(4, 8, -1));
        due("35: sheet -1", BEYOND, x.sheet(-1, 8, 1));
        due("35: n -1", SIZE, x.sheet(3, 8, -1));
        due("35: n -1, bits 0", SIZE, x.sheet(3, 0, -1));
        due("35: n 41", BEYOND, x.sheet(3, 8, 41));
        due("35: n 41, bits 0", BEYOND, x.sheet(3, 0, 41));
        due("35: as it was", 1, x.write(3, 1, 0));
        due("35: taken away", 0, x.sheet(3, 0, 9));
        due("35: missing", MISSING, x.load(3));
        x.sheet(3, 8, 1);
        due("35: 0 again", 1, x.load(3));
        due("35: jar", 0, x.bones(0));
    }

    private static void p36() {
        BoneWords x = reef("writer");
        x.sheet(0, 8, 2);
        due("36: write", 1, x.write(0, 1, 7));
        due("36: it is there", 2, x.judge(0));
        due("36: lowest bits", 1, x.write(0, 0, 256 + 99));
        x.change(0, 4, 99);
        due("36: 355 of 8 bits", 2, x.judge(0));
        x.write(0, 0, 227);
        due("36: a sign", 0, x.load(0));
        x.sheet(1, 16, 1);
        x.write(1, 0, 65536 + 200);
        due("36: 16 bits", 1, x.load(1));
        due("36: 200", 200, x.bones(0));
        x.write(1, 0, 32768);
        due("36: a sign of 16 bits", 0, x.load(1));
        x.sheet(1, 32, 1);
        x.write(1, 0, 65536);
        due("36: 32 bits", 0, x.load(1));
        due("36: i 2", BEYOND, x.write(0, 2, 0));
        due("36: i -1", BEYOND, x.write(0, -1, 0));
        due("36: i MAX", BEYOND, x.write(0, MAX, 0));
        due("36: sheet 4", BEYOND, x.write(4, 0, 0));
        due("36: missing ahead of the number", MISSING, x.write(2, 99, 0));
    }

    private static void p37() {
        BoneWords x = new BoneWords();
        fill(x, 0, 8, 1, 2, 3, 4, 5);
        due("37: upon itself, forth", 4, x.copy(0, 0, 0, 1, 4));
        due("37: five come", 5, x.load(0));
        for (int l = 0; l < 5; l++) {
            due("37: letter " + l, Math.max(1, l), x.bones(l));
        }
        due("37: upon itself, back", 3, x.copy(0, 2, 0, 0, 3));
        x.load(0);
        due("37: back 0", 2, x.bones(0));
        due("37: back 2", 4, x.bones(2));
        due("37: back 3", 3, x.bones(3));
        x.sheet(1, 8, 3);
        due("37: to another", 2, x.copy(0, 3, 1, 1, 2));
        x.load(1);
        due("37: other 0", 0, x.bones(0));
        due("37: other 1", 3, x.bones(1));
        due("37: other 2", 4, x.bones(2));
        due("37: all of it", 3, x.copy(1, 0, 0, 2, 3));
        due("37: all of both", 5, x.copy(0, 0, 0, 0, 5));
        due("37: none, at the end", 0, x.copy(0, 5, 1, 3, 0));
        due("37: none, behind the end", BEYOND, x.copy(0, 6, 1, 0, 0));
        due("37: too many there", BEYOND, x.copy(0, 0, 1, 0, 4));
        due("37: too many here", BEYOND, x.copy(1, 1, 0, 0, 3));
        due("37: from -1", BEYOND, x.copy(0, -1, 1, 0, 1));
        due("37: to -1", BEYOND, x.copy(0, 0, 1, -1, 1));
        due("37: n -1", BEYOND, x.copy(0, 0, 1, 0, -1));
        due("37: wrapping", BEYOND, x.copy(0, MAX, 1, MAX, MAX));
        due("37: MIN", BEYOND, x.copy(0, 1, 1, 0, MIN));
        x.sheet(2, 16, 9);
        due("37: kind ahead of the rest", KIND, x.copy(0, -1, 2, 0, 1));
        due("37: missing ahead of kind", MISSING, x.copy(3, 0, 2, 0, 1));
        due("37: missing there", MISSING, x.copy(2, 0, 3, 0, 1));
        due("37: sheet ahead of missing", BEYOND, x.copy(3, 0, 4, 0, 1));
        due("37: sheet -1", BEYOND, x.copy(-1, 0, 3, 0, 1));
    }

    private static void p38() {
        BoneWords x = reef("jar 3 8;jar 9 8");
        fill(x, 0, 16, 5, 0, 999, 1000, 4);
        due("38: as far as 999", 3, x.load(0));
        due("38: letter 0", 5, x.bones(0));
        due("38: letter 2", 999, x.bones(2));
        due("38: letter 3 stays", 8, x.bones(3));
        x.sheet(1, 8, 12);
        due("38: ten letters", 10, x.load(1));
        due("38: the tenth", 0, x.bones(9));
        fill(x, 2, 8, -1, 3);
        due("38: not -1", 0, x.load(2));
        x.sheet(2, 8, 0);
        due("38: none", 0, x.load(2));
        due("38: missing", MISSING, x.load(3));
        due("38: sheet 4", BEYOND, x.load(4));
        due("38: sheet -1", BEYOND, x.load(-1));
    }

    private static void p39() {
        BoneWords x = reef("writer;poet");
        x.change(0, 4, 9999);
        x.change(1, 4, 3);
        fill(x, 0, 16, 9999, 3);
        due("39: so", 0, x.judge(0));
        fill(x, 0, 16, 9999);
        due("39: as far as it goes", 0, x.judge(0));
        fill(x, 0, 16, 9998, 4);
        due("39: first", 1, x.judge(0));
        fill(x, 0, 16, 9999, 4);
        due("39: second", 2, x.judge(0));
        fill(x, 0, 16, 9999, 3, 0);
        due("39: no such writer", 3, x.judge(0));
        due("39: missing", MISSING, x.judge(1));
        due("39: sheet 4", BEYOND, x.judge(4));
    }

    private static void p40and41() {
        BoneWords x = bare("poet word 1111 fat 50;jar 1 9;fish 2 345 catch 6");
        due("41: nothing kept", NONE, x.undo());
        x.hold(3, 0);
        x.seed(77);
        x.go(2);
        x.sheet(0, 8, 1);
        x.feed('j', 1);
        due("40: image", 1, x.image());
        x.go(5);
        x.catches(1);
        x.writer(0, 5);
        x.change(0, 0, 3);
        x.change(0, 1, 9);
        x.change(0, 2, 1);
        x.hold(3, 1);
        x.hold(4, 1);
        x.jar(0, 7);
        x.fish(2, 0, 1);
        x.fish(2, 1, 1);
        x.write(0, 0, 1);
        x.feed('a', 1);
        x.feed('r', 1);
        for (int times = 0; times < 2; times++) {
            due("41: day", 2, x.undo());
            due("41: writers", 1, x.count(1));
            due("41: spots", 1, x.count(7));
            due("41: spot", 0, x.as(3, 1));
            due("41: z", 77, x.count(6));
            due("41: word", 1111, x.of(0, 1));
            due("41: at", 0, x.of(0, 2));
            due("41: fat", 46, x.of(0, 3));
            due("41: written", 1, x.of(0, 4));
            due("41: letters", 5, x.count(2));
            due("41: bones", 345, x.fishOf(2, 0));
            due("41: catch", 6, x.fishOf(2, 1));
            due("41: tape stays", 3, x.count(5));
            due("41: sheet stays", 0, x.judge(0));
            due("41: what is kept stays", 1, x.go(1));
            x.change(0, 4, 8);
        }
        due("41: findings stay", 1, x.status(3));
        x.image();
        x.go(1);
        due("41: the latest", 3, x.undo());
        due("41: its written", 8, x.of(0, 4));
    }

    private static void p42() {
        BoneWords x = new BoneWords();
        due("42: nothing", 0, x.tear());
        x.image();
        x.image();
        due("42: something", 1, x.tear());
        due("42: nothing more", 0, x.tear());
        due("42: no undo", NONE, x.undo());
    }

    private static void p43() {
        BoneWords x = bare("poet fat 20;writer fat 9;jar 2 3;jar 9 4");
        x.change(0, 4, 5);
        x.change(1, 4, 6);
        x.hold(5, 1);
        x.hold(6, 1);
        x.seed(-9);
        x.go(3);
        x.feed(0, 2);
        int[] counts = {3, 2, 7, 11, 17, 2, -9, 2};
        for (int what = 0; what < 8; what++) {
            due("43: " + what, counts[what], x.count(what));
        }
        due("43: what 8", BEYOND, x.count(8));
        due("43: what -1", BEYOND, x.count(-1));
    }

    private static void p44() {
        BoneWords x = reef("writer");
        x.image();
        x.bones(10);
        x.bones(-1);
        x.when(0, 9999);
        x.odds(0, 0);
        x.judge(0);
        x.sheet(0, 8, -1);
        x.hold(0, 0);
        x.as(0, 1);
        for (int w = 1; w < 9; w++) {
            x.writer(0, 0);
        }
        x.text();
        int[] counts = {2, 1, 1, 1, 1, 1, 1};
        for (int which = 0; which < 7; which++) {
            due("44: " + which, counts[which], x.status(which));
        }
        due("44: all", 8, x.status(-1));
        due("44: which 7", BEYOND, x.status(7));
        due("44: counted from then on", 3, x.status(0));
        due("44: which -2", BEYOND, x.status(-2));
        due("44: all then", 10, x.status(-1));
        x.undo();
        due("44: undo takes none back", 10, x.status(-1));
        due("44: another object", 0, new BoneWords().status(-1));
    }

    public static void main(String[] args) {
        p01();
        p02();
        p03();
        p04();
        p05();
        p06();
        p07();
        p08();
        p09();
        p10();
        p11();
        daysEating();
        daysWriting();
        daysSoup();
        p12();
        p13();
        p14();
        p15();
        p16();
        p17();
        p18();
        p19();
        p20();
        p21();
        p22();
        p23();
        p24();
        p25();
        p26();
        p27();
        p28();
        p29();
        p30();
        p31();
        p32();
        p33();
        p34();
        p35();
        p36();
        p37();
        p38();
        p39();
        p40and41();
        p42();
        p43();
        p44();
        finish("PromiseTests");
    }
}
