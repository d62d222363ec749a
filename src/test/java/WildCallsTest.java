import java.util.Random;

/** Long runs of any calls: no call throws, no egg is lost or doubled, and a refused call changes nothing. */
public final class WildCallsTest {
    private static final int RUNS = 300;
    private static final int CALLS = 512;
    private static final int[] ODD = {
        Integer.MIN_VALUE, -1001, -1000, -10, -9, -2, -1, 0, 1, 6, 16, 31, 32, 60, 61, 1000, 1001, Integer.MAX_VALUE,
    };
    private static final Check check = new Check();

    public static void main(String[] args) {
        for (int run = 0; run < RUNS; run++) {
            Random random = new Random(run);
            // Some runs are mostly odd numbers, some mostly plain work.
            int oddInHundred = run % 3 == 0 ? 40 : 2;
            wildRun(new EggHouse(), random, oddInHundred);
        }
        farBeyondAllLimits();
        check.end();
    }

    private static void wildRun(EggHouse x, Random random, int oddInHundred) {
        for (int i = 0; i < CALLS; i++) {
            String before = Snapshot.of(x);
            boolean refused = anyCall(x, random, oddInHundred);
            if (refused) {
                check.isTrue("a refused call changes nothing", before.equals(Snapshot.of(x)));
            }
            everyEggIsInOnePlace(x);
            packsAndOrdersAgree(x);
        }
    }

    private static int number(Random random, int oddInHundred, int least, int most) {
        if (random.nextInt(100) < oddInHundred) {
            return ODD[random.nextInt(ODD.length)];
        }
        return least + random.nextInt(most - least + 1);
    }

    private static boolean anyCall(EggHouse x, Random r, int odd) {
        switch (r.nextInt(16)) {
            case 0: return x.tick(number(r, odd, 1, 12)) < 0;
            case 1: return x.drift(number(r, odd, -9, 9)) == -1000;
            case 2: return x.grade(number(r, odd, 0, 3), number(r, odd, 2, 4)) < 0;
            case 3: return x.on(number(r, odd, 0, 3), r.nextInt(4) > 0) < 0;
            case 4: return x.order(number(r, odd, 0, 5), number(r, odd, 1, 3), number(r, odd, 1, 9)) < 0;
            case 5: return x.serve() < 0;
            case 6: return x.doubt(number(r, odd, 0, 3), r.nextInt(3) == 0) < 0;
            case 7: return hoursAnywhere(x, r, odd) < 0;
            case 8: return x.clear(number(r, odd, 0, 20)) < 0;
            case 9: return askAnything(x, r);
            default: return eggOfAnyKind(x, r, odd) < 0;
        }
    }

    private static int hoursAnywhere(EggHouse x, Random r, int odd) {
        int from = number(r, odd, 0, 300);
        return x.hours(from, number(r, odd, from, from), r.nextInt(3) == 0);
    }

    private static int eggOfAnyKind(EggHouse x, Random r, int odd) {
        int taps = r.nextInt(3) > 0 ? 0 : number(r, odd, 0, 15);
        int blood = r.nextInt(3) > 0 ? 0 : number(r, odd, 0, 9);
        return x.egg(number(r, odd, 0, 3), number(r, odd, 44, 64), taps, blood, number(r, odd, 0, 3));
    }

    /** Questions change nothing, so each of them counts as a refused call. */
    private static boolean askAnything(EggHouse x, Random r) {
        int first = number(r, 70, 0, 15);
        int what = number(r, 50, 0, 10);
        x.at(first, what);
        x.packer(first, what);
        x.count(what);
        x.barn(first, what);
        x.pack(first, what);
        x.free(first);
        x.best(what);
        x.about(first, what);
        x.told(what);
        x.trace();
        return true;
    }

    private static void everyEggIsInOnePlace(EggHouse x) {
        int found = 0;
        for (int what = 1; what <= 8; what++) {
            found += x.count(what);
        }
        check.due("eggs in all places", found, x.count(0));
        check.isTrue("the queue holds 20 at most", x.count(1) <= 20);
        check.isTrue("the wash holds 30 at most", x.count(3) <= 30);
        int[] whats = {0, 4, 5, 6};
        for (int what = 0; what < 4; what++) {
            int sum = x.barn(0, what) + x.barn(1, what) + x.barn(2, what) + x.barn(3, what);
            check.due("all barns, " + what, sum, x.count(whats[what]));
        }
        int kept = x.barn(0, 4) + x.barn(1, 4) + x.barn(2, 4) + x.barn(3, 4);
        check.due("all barns, kept", kept, x.count(7) + x.count(8));
    }

    private static void packsAndOrdersAgree(EggHouse x) {
        int[] soldTo = new int[6];
        int free = 0;
        for (int i = 0; i < x.told(0); i++) {
            boolean sold = x.pack(i, 4) != EggHouse.NONE;
            boolean held = x.pack(i, 5) == 1;
            check.isTrue("no pack is sold and held", !(sold && held));
            free += sold || held ? 0 : 1;
            if (sold) {
                soldTo[x.pack(i, 4)]++;
                check.due("grade of a sold pack", x.pack(i, 0), x.about(x.pack(i, 4), 0));
            }
        }
        for (int i = 0; i < x.told(1); i++) {
            check.due("packs of order " + i, soldTo[i], x.about(i, 3) == 1 ? x.about(i, 1) : 0);
        }
        int freeOfGrades = 0;
        for (int grade = 0; grade < 6; grade++) {
            freeOfGrades += x.free(grade);
        }
        check.due("free packs of all grades", freeOfGrades, free);
        bestIsBest(x);
    }

    /** Goes through the orders one by one, unlike the class, which goes through their sets. */
    private static void bestIsBest(EggHouse x) {
        int[] free = new int[6];
        for (int grade = 0; grade < 6; grade++) {
            free[grade] = x.free(grade);
        }
        int worth = greatestWorth(x, 0, free);
        check.due("best(1)", x.best(1), worth);
        int worthOfBits = 0;
        for (int i = 0; i < x.told(1); i++) {
            worthOfBits += (x.best(0) >> i & 1) * x.about(i, 2);
        }
        check.due("worth of best(0)", worthOfBits, worth);
    }

    private static int greatestWorth(EggHouse x, int from, int[] free) {
        if (from >= x.told(1)) {
            return 0;
        }
        int without = greatestWorth(x, from + 1, free);
        int grade = x.about(from, 0);
        int n = x.about(from, 1);
        if (x.about(from, 3) == 1 || free[grade] < n) {
            return without;
        }
        free[grade] -= n;
        int with = x.about(from, 2) + greatestWorth(x, from + 1, free);
        free[grade] += n;
        return Math.max(with, without);
    }

    /** Answers after the 512th call are free, but no call may throw. */
    private static void farBeyondAllLimits() {
        EggHouse x = new EggHouse();
        Random random = new Random(1);
        for (int i = 0; i < 200_000; i++) {
            anyCall(x, random, 3);
        }
        everyEggIsInOnePlace(x);
    }
}
