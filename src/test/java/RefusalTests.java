import java.util.ArrayList;
import java.util.List;

/**
 * Each act of the document with each of its findings, each call that only asks, and each change that is taken back:
 * on one of two reefs that were made alike. Behind it nothing may tell them apart but what status() counts.
 */
public final class RefusalTests extends Checks {
    /** A call whose answer is looked at. */
    interface Call {
        long on(BoneWords x);
    }

    /** Room for a writer and for a byte, an image of another day, three sheets, spots, a text on the tape. */
    private static BoneWords roomy() {
        BoneWords x = reef("scholar word 120;poet word 2101 fat 61;child word 12 fat 9;jar 0 20;jar 1 9;fish 1 102 catch 7");
        for (int spot = 0; spot < 5; spot++) {
            x.hold(2 * spot, spot % 3);
        }
        x.seed(-12345);
        x.image();
        x.go(3);
        x.jar(7, 5);
        x.hold(4, -1);
        fill(x, 0, 8, 0, 1, 2, 3, -1);
        fill(x, 1, 16, 9, 8, 7, 6);
        fill(x, 2, 8, 5, 4, 3);
        feed(x, "poet word 77;jar 3 7");
        return x;
    }

    /** Eight writers, 118 bytes. */
    private static BoneWords full() {
        BoneWords x = reef("writer;poet;scholar;lawyer;censor;child;widow;scholar word 21");
        x.go(9);
        feed(x, "jar 0 5;fish 5 0 catch 0" + " ".repeat(92) + " ;");
        return x;
    }

    private static BoneWords empty() {
        return new BoneWords();
    }

    /** All that the calls tell of an object; those that change it come last. */
    private static List<Long> told(BoneWords x) {
        List<Long> all = new ArrayList<>();
        tell(x, all);
        for (int s = 0; s < 4; s++) {
            for (int i = 0; i < 6; i++) {
                all.add((long) x.write(s, 5 - i, 100 + i) + x.load(s));
            }
            all.add((long) x.load(s));
            all.add((long) x.judge(s));
            for (int l = 0; l < 5; l++) {
                all.add((long) x.bones(l));
            }
        }
        all.add((long) x.text());
        tell(x, all);
        all.add((long) x.undo());
        tell(x, all);
        all.add((long) x.tear());
        return all;
    }

    private static void tell(BoneWords x, List<Long> all) {
        for (int i = 0; i < 10; i++) {
            all.add((long) x.bones(i));
            all.add((long) x.as(i, 0));
        }
        for (int f = 0; f < 6; f++) {
            all.add((long) x.fishOf(f, 0));
            all.add((long) x.fishOf(f, 1));
        }
        for (int w = 0; w < 8; w++) {
            for (int what = 0; what < 5; what++) {
                all.add((long) x.of(w, what));
            }
        }
        for (int what = 0; what < 8; what++) {
            all.add((long) x.count(what));
        }
    }

    private static int tries = 0;

    /** Finding 1 is none: then the answer is free, but for that it must be none. */
    private static void alone(BoneWords asked, BoneWords twin, long finding, Call call) {
        tries++;
        long answer = call.on(asked);
        if (finding == 1) {
            due("call " + tries + " tells no finding", 1, answer >= -1000000 ? 1 : 0);
        } else {
            due("call " + tries, finding, answer);
        }
        for (int which = -1; which < 7; which++) {
            boolean counts = finding != 1 && (which == -1 || BEYOND - which == finding);
            due("call " + tries + ", status " + which, twin.status(which) + (counts ? 1 : 0), asked.status(which));
        }
        List<Long> one = told(asked);
        List<Long> other = told(twin);
        for (int i = 0; i < other.size(); i++) {
            due("call " + tries + ", what is told then (" + i + ")", other.get(i), one.get(i));
        }
    }

    private static void refused(long finding, Call... calls) {
        for (Call call : calls) {
            alone(roomy(), roomy(), finding, call);
        }
    }

    private static void acts() {
        refused(BEYOND, x -> x.jar(10, 1), x -> x.jar(-1, 1), x -> x.jar(0, 1000), x -> x.jar(0, -1), x -> x.bones(10));
        refused(BEYOND, x -> x.fish(6, 0, 1), x -> x.fish(0, 2, 1), x -> x.fish(0, 0, 1000), x -> x.fish(0, 1, 21),
            x -> x.fish(0, 1, -1), x -> x.fishOf(6, 0), x -> x.fishOf(0, 3));
        refused(BEYOND, x -> x.writer(7, 0), x -> x.writer(-1, 0), x -> x.writer(0, 10000), x -> x.writer(0, -1));
        alone(full(), full(), FULL, x -> x.writer(0, 0));
        alone(full(), full(), BEYOND, x -> x.writer(0, 10000));
        refused(BEYOND, x -> x.of(3, 0), x -> x.of(0, 8), x -> x.change(3, 0, 0), x -> x.change(0, 5, 0),
            x -> x.change(0, 0, 7), x -> x.change(0, 1, 10000), x -> x.change(0, 2, 4), x -> x.change(0, 3, 100),
            x -> x.change(0, 4, 10000), x -> x.change(0, 4, -1), x -> x.keeps(3, 0), x -> x.keeps(0, 6),
            x -> x.spells(10000));
        refused(BEYOND, x -> x.go(0), x -> x.go(61), x -> x.go(-1), x -> x.now(7), x -> x.now(-1));
        refused(BEYOND, x -> x.catches(0), x -> x.catches(21), x -> x.catches(-1));
        refused(BEYOND, x -> x.feed(-1, 0), x -> x.feed(-1, 5));
        alone(full(), full(), FULL, x -> x.feed(-1, 3));
        alone(full(), full(), FULL, x -> x.feed(-1, 4));
        alone(full(), full(), BEYOND, x -> x.feed(-1, 5));
        refused(BEYOND, x -> x.hold(10, 0), x -> x.hold(-1, 0), x -> x.hold(0, 3), x -> x.hold(0, -2),
            x -> x.as(10, 0), x -> x.as(0, 7));
        refused(MISSING, x -> x.as(1, 0), x -> x.as(4, 0));
        refused(KIND, x -> x.as(0, 1), x -> x.as(8, 5));
        alone(empty(), empty(), NONE, x -> x.undo());
        refused(BEYOND, x -> x.count(8), x -> x.count(-1), x -> x.status(7), x -> x.status(-2));
    }

    private static void sheets() {
        refused(BEYOND, x -> x.sheet(4, 8, 1), x -> x.sheet(0, 9, 1), x -> x.sheet(0, 8, 41), x -> x.sheet(0, 0, 41),
            x -> x.sheet(3, 8, 41));
        refused(SIZE, x -> x.sheet(0, 8, -1), x -> x.sheet(0, 0, -1), x -> x.sheet(3, 8, -1));
        refused(BEYOND, x -> x.write(4, 0, 1), x -> x.write(0, 5, 1), x -> x.write(0, -1, 1), x -> x.load(4),
            x -> x.judge(4), x -> x.fits(4, 0), x -> x.fits(0, 3), x -> x.kinds(4, 0), x -> x.kinds(0, 3));
        refused(MISSING, x -> x.write(3, 0, 1), x -> x.load(3), x -> x.judge(3), x -> x.fits(3, 0), x -> x.kinds(3, 0));
        refused(BEYOND, x -> x.copy(4, 0, 0, 0, 1), x -> x.copy(0, 0, 4, 0, 1), x -> x.copy(0, 0, 2, 0, 4),
            x -> x.copy(0, 3, 2, 0, 3), x -> x.copy(0, -1, 2, 0, 1), x -> x.copy(0, 0, 2, -1, 1),
            x -> x.copy(0, 0, 2, 0, -1), x -> x.copy(0, 1, 0, 2, 4));
        refused(MISSING, x -> x.copy(0, 0, 3, 0, 1), x -> x.copy(3, 0, 0, 0, 1));
        refused(KIND, x -> x.copy(0, 0, 1, 0, 1), x -> x.copy(1, 0, 0, 0, 1));
    }

    private static void questions() {
        refused(BEYOND, x -> x.ahead(3, 2, 1), x -> x.ahead(0, 5, 1), x -> x.ahead(0, 1, 1), x -> x.ahead(0, 2, 101),
            x -> x.later(10, 1), x -> x.later(0, 101), x -> x.when(3, 0), x -> x.when(0, 10000), x -> x.starves(3),
            x -> x.out(10));
        refused(NONE, x -> x.when(0, 9999), x -> x.starves(0), x -> x.out(7), x -> x.fewest(0, 0, 9999, 40),
            x -> x.away(0, 9999, 20));
        refused(BEYOND, x -> x.catchFor(41), x -> x.fewest(6, 0, 0, 0), x -> x.fewest(0, 3, 0, 0),
            x -> x.fewest(0, 0, 10000, 0), x -> x.fewest(0, 0, 0, 41), x -> x.letterFor(3, 0), x -> x.letterFor(0, 41),
            x -> x.kindFor(3, 0), x -> x.kindFor(0, 41), x -> x.away(3, 0, 0), x -> x.away(0, 10000, 0),
            x -> x.away(0, 0, 21), x -> x.bonesFor(6, 0), x -> x.bonesFor(0, 7), x -> x.texts(10),
            x -> x.odds(10000, 0), x -> x.odds(0, 2));
        alone(empty(), empty(), STATE, x -> x.odds(0, 0));
        // what isn't refused changes nothing either, if it only asks
        refused(1, x -> x.bones(0), x -> x.fishOf(0, 2), x -> x.of(0, 7), x -> x.keeps(0, 1), x -> x.spells(120),
            x -> x.now(2), x -> x.ahead(0, 4, 100), x -> x.later(0, 100), x -> x.when(0, 1), x -> x.starves(1),
            x -> x.out(9), x -> x.catchFor(40), x -> x.fewest(0, 0, 1, 40), x -> x.letterFor(0, 40),
            x -> x.kindFor(0, 40), x -> x.away(0, 1, 20), x -> x.bonesFor(3, 6), x -> x.fits(0, 0), x -> x.kinds(0, 0),
            x -> x.texts(1), x -> x.odds(120, 0), x -> x.as(0, 2), x -> x.judge(0), x -> x.count(0), x -> x.status(-1),
            x -> x.copy(0, 0, 0, 0, 5), x -> x.copy(0, 5, 0, 0, 0), x -> x.hold(0, 0));
        alone(full(), full(), 1, x -> x.away(7, 1, 20));
        alone(full(), full(), 1, x -> x.letterFor(7, 40));
        alone(full(), full(), 1, x -> x.kindFor(7, 40));
        alone(full(), full(), 1, x -> x.bonesFor(5, 6));
    }

    /** A fault empties the tape and changes nothing else: its twin is wiped. */
    private static void faults() {
        String[] texts = {"", "jar 0 9;poet fat 7;fish 0 9 catch 9;jar 9", "widow word 1;#", "child;child;child;poet;poet;poet"};
        for (String text : texts) {
            BoneWords asked = roomy();
            asked.wipe();
            feed(asked, text);
            BoneWords twin = roomy();
            twin.wipe();
            alone(asked, twin, 1, x -> x.text());
        }
    }

    /** What a call says that it was is put back: had it changed anything else that would show. */
    private static void backAgain() {
        for (int i = 0; i < 10; i++) {
            int letter = i;
            refused(1, x -> x.jar(letter, x.jar(letter, 77)));
        }
        for (int i = 0; i < 12; i++) {
            int fish = i / 2;
            int what = i % 2;
            refused(1, x -> x.fish(fish, what, x.fish(fish, what, 19)));
        }
        int[] most = {6, 9999, 3, 99, 9999};
        for (int i = 0; i < 15; i++) {
            int writer = i / 5;
            int what = i % 5;
            refused(1, x -> x.change(writer, what, x.change(writer, what, most[what])));
            refused(1, x -> x.change(writer, what, x.change(writer, what, 0)));
        }
        refused(1, x -> x.hold(0, 2) + x.hold(0, 0), x -> x.hold(5, 1) + x.hold(5, -1), x -> x.hold(8, -1) + x.hold(8, 1));
        refused(1, x -> x.seed(x.seed(99)), x -> x.write(0, 2, 99) + x.write(0, 2, 2), x -> x.write(1, 3, -1) + x.write(1, 3, 6),
            x -> x.sheet(3, 8, 5) + x.sheet(3, 0, 0));
    }

    public static void main(String[] args) {
        acts();
        sheets();
        questions();
        faults();
        backAgain();
        finish("RefusalTests");
    }
}
