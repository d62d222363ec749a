/** Houses in the states that several tests start from. */
final class Houses {
    /** A weight in the middle of each grade while the drift is 0. */
    static final int[] WEIGHT_OF_GRADE = {40, 45, 50, 55, 60, 70};

    private Houses() {
    }

    static void soundEggs(EggHouse x, int n, int barn, int weight) {
        for (int i = 0; i < n; i++) {
            x.egg(barn, weight, 0, 0, 0);
        }
    }

    static void allPackersTo(EggHouse x, int grade) {
        for (int packer = 0; packer < 4; packer++) {
            x.grade(packer, grade);
        }
    }

    /**
     * Three packs of a grade in 30 ticks: 18 eggs, one a tick, and each packer of 0 .. 2 is free for every
     * third one. Egg i is weighed 2 + i ticks from now, so pack k has the ticks 2 + k up to 17 + k from now;
     * its eggs all have barn k.
     */
    static void threePacks(EggHouse x, int grade) {
        allPackersTo(x, grade);
        for (int i = 0; i < 18; i++) {
            x.egg(i % 3, WEIGHT_OF_GRADE[grade], 0, 0, 0);
        }
        x.tick(30);
    }

    static EggHouse withThreePacks(int grade) {
        EggHouse x = new EggHouse();
        threePacks(x, grade);
        return x;
    }
}
