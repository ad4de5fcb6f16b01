/**
 * DAY 99999, which no 512 calls reach: what is answered there is free by the document, and all the same this class
 * keeps to what it says of go(), catches() and a DAY.
 */
public final class LateTests extends Checks {
    private static BoneWords atDay(int day) {
        BoneWords x = new BoneWords();
        for (int left = day; left > 0; left -= 60) {
            x.go(Math.min(60, left));
        }
        return x;
    }

    private static void goes() {
        BoneWords last = atDay(99939);
        due("go: the last sixty", 0, last.go(60));
        due("go: day", 99999, last.now(0));
        due("go: one more", STATE, last.go(1));
        due("go: sixty more", STATE, last.go(60));
        due("go: beyond ahead of that", BEYOND, last.go(61));
        due("go: beyond ahead of that, 0", BEYOND, last.go(0));
        due("go: two of them", 2, last.status(4));
        due("go: day stays", 99999, last.now(0));
        BoneWords nearly = atDay(99940);
        due("go: sixty are one too many", STATE, nearly.go(60));
        due("go: none has gone by", 99940, nearly.now(0));
        due("go: but fifty-nine", 0, nearly.go(59));
        due("go: day then", 99999, nearly.now(0));
    }

    private static void draws() {
        BoneWords last = atDay(99979);
        last.seed(5);
        due("catches: the last twenty", 0, last.catches(20));
        due("catches: day", 99999, last.now(0));
        int z = last.count(6);
        due("catches: one more", STATE, last.catches(1));
        due("catches: twenty more", STATE, last.catches(20));
        due("catches: beyond ahead of that", BEYOND, last.catches(21));
        due("catches: nothing was drawn", z, last.count(6));
        BoneWords nearly = atDay(99980);
        due("catches: twenty are one too many", STATE, nearly.catches(20));
        due("catches: nothing was drawn either", 1, nearly.count(6));
        due("catches: none has gone by", 99980, nearly.now(0));
        due("catches: but nineteen", 0, nearly.catches(19));
    }

    /** Behind DAY 99999 all days are that one: fish 3 is caught, and there is no soup as it is no multiple of 7. */
    private static void trials() {
        BoneWords x = atDay(99995);
        noCatch(x);
        x.jar(2, 100);
        due("trial: soup on no other day", 100, x.later(2, 100));
        due("trial: day stays", 99995, x.now(0));
        x.writer(0, 9999);
        x.fish(3, 1, 1);
        x.fish(3, 0, 777);
        due("trial: fish 3 on each day from 99999 on", 30, x.later(7, 14));
        due("trial: and on none ahead of it", 0, x.later(7, 4));
    }

    public static void main(String[] args) {
        goes();
        draws();
        trials();
        finish("LateTests");
    }
}
