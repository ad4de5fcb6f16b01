/** What the tests share: the findings, the count of what is due, and reefs to begin with. */
abstract class Checks {
    static final int BEYOND = -1000001;
    static final int FULL = -1000002;
    static final int KIND = -1000003;
    static final int NONE = -1000004;
    static final int STATE = -1000005;
    static final int MISSING = -1000006;
    static final int SIZE = -1000007;
    static final int MIN = Integer.MIN_VALUE;
    static final int MAX = Integer.MAX_VALUE;

    private static int passed = 0;
    private static int failed = 0;

    static void due(String call, long want, long got) {
        if (got == want) {
            passed++;
        } else {
            failed++;
            System.out.println(call + " answered " + got + ", due is " + want);
        }
    }

    static int read(BoneWords x, String text) {
        feed(x, text);
        return x.text();
    }

    static void feed(BoneWords x, String text) {
        int bytes = 0;
        for (int i = 0; i < text.length(); i++) {
            bytes = bytes << 8 | text.charAt(i);
            if (i % 4 == 3 || i + 1 == text.length()) {
                x.feed(bytes, i % 4 + 1);
            }
        }
    }

    static BoneWords reef(String text) {
        BoneWords x = new BoneWords();
        read(x, text);
        return x;
    }

    /** No fish is caught unless the text says so. */
    static BoneWords bare(String text) {
        BoneWords x = new BoneWords();
        noCatch(x);
        read(x, text);
        return x;
    }

    static void noCatch(BoneWords x) {
        for (int f = 0; f < 6; f++) {
            x.fish(f, 1, 0);
        }
    }

    static void fill(BoneWords x, int s, int bits, int... numbers) {
        x.sheet(s, bits, numbers.length);
        for (int i = 0; i < numbers.length; i++) {
            x.write(s, i, numbers[i]);
        }
    }

    static void finish(String name) {
        System.out.println(name + ": " + passed + " passed, " + failed + " failed");
        System.exit(failed == 0 ? 0 : 1);
    }
}
