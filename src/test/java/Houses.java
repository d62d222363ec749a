/** Houses in the states that several tests start from. */
final class Houses {
    /** A weight in the middle of each grade while the drift is 0. */
    static final int[] WEIGHT_OF_GRADE = {40, 45, 50, 55, 60, 70};

    private Houses() {
    }

    static void soundEggs(EggHouse x, int n, int barn, int weight) {
        for (int i = 0; i < n; i++) {
            x.egg(barn, weight, 0, 0, 0);
        }
    }

    static void allPackersTo(EggHouse x, int grade) {
        for (int packer = 0; packer < 4; packer++) {
            x.grade(packer, grade);
        }
    }

    /**
     * Three packs of a grade in 30 ticks: 18 eggs, one a tick, and each packer of 0 .. 2 is free for every
     * third one. Egg i is weighed 2 + i ticks from now, so pack k has the ticks 2 + k up to 17 + k from now;
     * its eggs all have barn k.
     */
    static void threePacks(EggHouse x, int grade) {
        allPackersTo(x, grade);
        eggsOfThreePacks(x, grade);
    }

    private static void eggsOfThreePacks(EggHouse x, int grade) {
        for (int i = 0; i < 18; i++) {
            x.egg(i % 3, WEIGHT_OF_GRADE[grade], 0, 0, 0);
        }
        x.tick(30);
    }

    static EggHouse withThreePacks(int grade) {
        return withPacks(3, grade);
    }

    /** So many packs of a grade, three by three; pack k has barn k % 3. */
    static EggHouse withPacks(int n, int grade) {
        EggHouse x = new EggHouse();
        allPackersTo(x, grade);
        for (int i = 0; i < n; i += 3) {
            eggsOfThreePacks(x, grade);
        }
        return x;
    }

    /** So many eggs, each alone on the line, in the tray of packer 0, whose grade is 2; it is busy no more. */
    static EggHouse withTrayOf(int eggs) {
        EggHouse x = new EggHouse();
        for (int i = 0; i < eggs; i++) {
            x.egg(i % 4, WEIGHT_OF_GRADE[2], 0, 0, 0);
            x.tick(11);
        }
        return x;
    }

    static EggHouse withFullQueue() {
        EggHouse x = new EggHouse();
        soundEggs(x, 20, 1, 50);
        return x;
    }

    static EggHouse withFullOrders() {
        EggHouse x = withThreePacks(3);
        for (int i = 0; i < 6; i++) {
            x.order(3, 1 + i, 10 + i);
        }
        return x;
    }

    /**
     * One that has something everywhere: eggs in each place that count() knows, a packer that is off, one that is
     * busy, packs that are sold (0), held (1) and free (2), orders that were served (0) and not (1), a drift.
     */
    static EggHouse atWork() {
        EggHouse x = withThreePacks(3);
        x.order(3, 1, 5);
        x.serve();
        x.doubt(1, true);
        x.order(3, 9, 100);
        x.on(3, false);
        x.egg(0, 40, 0, 0, 0);
        x.tick(18);
        x.drift(-4);
        x.egg(0, 59, 0, 0, 0);
        x.egg(1, 59, 15, 0, 0);
        x.egg(2, 59, 0, 9, 0);
        x.egg(3, 59, 0, 0, 3);
        for (int i = 0; i < 14; i++) {
            x.egg(i % 4, 50 + i, i == 9 ? 6 : 1, i == 10 ? 5 : 4, i % 4);
        }
        x.tick(10);
        return x;
    }

    /** Dirty eggs, one a tick, with the queue full at each tick, so that none comes out of the wash. */
    static EggHouse withFullQueueFor(int ticks) {
        EggHouse x = new EggHouse();
        for (int i = 0; i < 19; i++) {
            x.egg(i % 4, 60, 0, 0, 3);
        }
        for (int i = 0; i < ticks; i++) {
            x.egg((19 + i) % 4, 60, 0, 0, 3);
            x.tick(1);
        }
        return x;
    }
}
