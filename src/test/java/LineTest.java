/** Promises 1 to 10: the line. */
public final class LineTest {
    private static final Check check = new Check();

    public static void main(String[] args) {
        newObject();
        eggsAreNumbered();
        eggIsRefused();
        queueIsFull();
        ticksAreCounted();
        eggGoesAlongTheLine();
        eggGoesToTheFloor();
        driftIsTold();
        driftCountsWhenWeighed();
        gradesByTheScale();
        gradeIsToldAnew();
        packerIsOnOrOff();
        atIsRefused();
        packerTakesItsGrade();
        packerIsBusy();
        busyTicksPassWhileOff();
        trayFills();
        countsOfKinds();
        looksAtEdges();
        washTakesEightTicks();
        washedEggGoesToTheEnd();
        washedEggIsWeighedAnew();
        washIsFull();
        washWaitsForRoom();
        barnsAreCounted();
        check.end();
    }

    private static void newObject() {
        EggHouse x = new EggHouse();
        for (int what = 0; what <= 9; what++) {
            check.due("new: count(" + what + ")", x.count(what), 0);
        }
        for (int what = 0; what <= 5; what++) {
            check.due("new: told(" + what + ")", x.told(what), 0);
        }
        for (int place = 0; place < 16; place++) {
            check.due("new: at(" + place + ", 0)", x.at(place, 0), EggHouse.NONE);
        }
        for (int packer = 0; packer < 4; packer++) {
            check.due("new: grade of packer " + packer, x.packer(packer, 0), 2 + packer);
            check.due("new: packer is on " + packer, x.packer(packer, 1), 1);
            check.due("new: tray of packer " + packer, x.packer(packer, 2), 0);
            check.due("new: busy packer " + packer, x.packer(packer, 3), 0);
            check.due("new: barns of packer " + packer, x.packer(packer, 4), 0);
        }
        check.due("new: trace()", x.trace(), 0);
        check.due("new: best(0)", x.best(0), 0);
    }

    private static void eggsAreNumbered() {
        EggHouse x = new EggHouse();
        check.due("first egg, least numbers", x.egg(0, 30, 0, 0, 0), 0);
        check.due("second egg, greatest numbers", x.egg(3, 90, 15, 9, 3), 1);
        check.due("eggs in the queue", x.count(1), 2);
        check.due("eggs that came", x.count(0), 2);
        check.due("refused eggs have no number", x.egg(4, 30, 0, 0, 0), EggHouse.BAD);
        check.due("third egg", x.egg(1, 50, 0, 0, 0), 2);
    }

    private static void eggIsRefused() {
        EggHouse x = new EggHouse();
        int[][] wrong = {
            {-1, 50, 0, 0, 0}, {4, 50, 0, 0, 0}, {0, 29, 0, 0, 0}, {0, 91, 0, 0, 0}, {0, 50, -1, 0, 0},
            {0, 50, 16, 0, 0}, {0, 50, 0, -1, 0}, {0, 50, 0, 10, 0}, {0, 50, 0, 0, -1}, {0, 50, 0, 0, 4},
        };
        for (int[] w : wrong) {
            check.due("egg that is BAD", x.egg(w[0], w[1], w[2], w[3], w[4]), EggHouse.BAD);
        }
        check.due("no egg came", x.count(0), 0);
        check.due("no egg is in the queue", x.count(1), 0);
    }

    private static void queueIsFull() {
        EggHouse x = new EggHouse();
        Houses.soundEggs(x, 19, 0, 50);
        check.due("egg 19 has room", x.egg(0, 50, 0, 0, 0), 19);
        check.due("the queue is full", x.egg(0, 50, 0, 0, 0), EggHouse.FULL);
        check.due("BAD is told ahead of FULL", x.egg(0, 91, 0, 0, 0), EggHouse.BAD);
        check.due("eggs in the full queue", x.count(1), 20);
        x.tick(1);
        check.due("a tick makes room", x.egg(0, 50, 0, 0, 0), 20);
        check.due("for one egg", x.egg(0, 50, 0, 0, 0), EggHouse.FULL);
    }

    private static void ticksAreCounted() {
        EggHouse x = new EggHouse();
        check.due("tick(1)", x.tick(1), 1);
        check.due("tick(40)", x.tick(40), 41);
        check.due("tick(0)", x.tick(0), EggHouse.BAD);
        check.due("tick(-1)", x.tick(-1), EggHouse.BAD);
        check.due("tick(41)", x.tick(41), EggHouse.BAD);
        check.due("refused ticks do not pass", x.told(4), 41);
        check.due("tick(2)", x.tick(2), 43);
    }

    private static void eggGoesAlongTheLine() {
        EggHouse x = new EggHouse();
        x.egg(3, 44, 0, 0, 0);
        x.egg(2, 44, 0, 0, 0);
        for (int place = 0; place < 16; place++) {
            check.due("ticks", x.tick(1), place + 1);
            check.due("number at " + place, x.at(place, 0), 0);
            check.due("barn at " + place, x.at(place, 1), 3);
            check.due("weight at " + place, x.at(place, 2), 44);
            check.due("scale at " + place, x.at(place, 3), place < 2 ? 0 : 44);
            check.due("grade at " + place, x.at(place, 4), place < 2 ? EggHouse.NONE : 1);
            if (place > 0) {
                check.due("the second egg is behind", x.at(place - 1, 0), 1);
            }
            check.due("eggs on the line", x.count(2), place == 0 ? 1 : 2);
            check.due("eggs in the queue", x.count(1), place == 0 ? 1 : 0);
        }
    }

    private static void eggGoesToTheFloor() {
        EggHouse x = new EggHouse();
        x.egg(2, 40, 0, 0, 0);
        x.tick(16);
        check.due("at the last place", x.at(15, 0), 0);
        check.due("not on the floor yet", x.count(6), 0);
        x.tick(1);
        check.due("gone from the last place", x.at(15, 0), EggHouse.NONE);
        check.due("on the floor", x.count(6), 1);
        check.due("on the floor, of its barn", x.barn(2, 3), 1);
        check.due("not on the line", x.count(2), 0);
    }

    private static void driftIsTold() {
        EggHouse x = new EggHouse();
        check.due("drift(9)", x.drift(9), 0);
        check.due("drift(-9)", x.drift(-9), 9);
        check.due("drift(10)", x.drift(10), -1000);
        check.due("drift(-10)", x.drift(-10), -1000);
        check.due("told(5)", x.told(5), -9);
        check.due("drift(-1)", x.drift(-1), -9);
        check.due("drift(0) tells -1, which is not BAD", x.drift(0), -1);
    }

    private static void driftCountsWhenWeighed() {
        EggHouse x = new EggHouse();
        x.drift(5);
        x.egg(0, 50, 0, 0, 0);
        x.egg(0, 50, 0, 0, 0);
        x.tick(2);
        x.drift(9);
        x.tick(1);
        check.due("the first is weighed with 9", x.at(2, 3), 59);
        check.due("the scale leaves the weight", x.at(2, 2), 50);
        x.drift(-9);
        x.tick(1);
        check.due("the first keeps what was told", x.at(3, 3), 59);
        check.due("the grade is by the scale", x.at(3, 4), 4);
        check.due("the second is weighed with -9", x.at(2, 3), 41);
        x.tick(9);
        check.due("packer 2 takes by the scale's grade", x.packer(2, 2), 1);
        check.due("packer 0 takes none by weight", x.packer(0, 2), 0);
    }

    private static void gradesByTheScale() {
        int[][] weightsAndGrades = {
            {30, 0}, {42, 0}, {43, 1}, {47, 1}, {48, 2}, {52, 2}, {53, 3}, {57, 3}, {58, 4}, {62, 4}, {63, 5}, {90, 5},
        };
        for (int[] w : weightsAndGrades) {
            EggHouse x = new EggHouse();
            x.egg(0, w[0], 0, 0, 0);
            x.tick(3);
            check.due("grade of weight " + w[0], x.at(2, 4), w[1]);
        }
        EggHouse x = new EggHouse();
        x.drift(1);
        x.egg(0, 42, 0, 0, 0);
        x.tick(3);
        check.due("42 and a drift of 1", x.at(2, 4), 1);
    }

    private static void gradeIsToldAnew() {
        EggHouse x = new EggHouse();
        check.due("grade(0, 0)", x.grade(0, 0), 2);
        check.due("grade(0, 5)", x.grade(0, 5), 0);
        check.due("grade(3, 1)", x.grade(3, 1), 5);
        check.due("grade(-1, 0)", x.grade(-1, 0), EggHouse.BAD);
        check.due("grade(4, 0)", x.grade(4, 0), EggHouse.BAD);
        check.due("grade(0, -1)", x.grade(0, -1), EggHouse.BAD);
        check.due("grade(0, 6)", x.grade(0, 6), EggHouse.BAD);
        check.due("a refused grade is not kept", x.packer(0, 0), 5);
        x.egg(0, 70, 0, 0, 0);
        x.tick(9);
        check.due("an egg is in the tray", x.packer(0, 2), 1);
        check.due("grade with an egg in the tray", x.grade(0, 4), EggHouse.STATE);
        check.due("its own grade is refused too", x.grade(0, 5), EggHouse.STATE);
        check.due("BAD is told ahead of STATE", x.grade(0, 6), EggHouse.BAD);
        check.due("the grade stays", x.packer(0, 0), 5);
        check.due("another packer's tray is empty", x.grade(1, 4), 3);
        check.due("its grade is kept", x.packer(1, 0), 4);

        EggHouse packed = Houses.withThreePacks(3);
        check.due("the tray became a pack, so it is empty", packed.grade(0, 1), 3);
    }

    private static void packerIsOnOrOff() {
        EggHouse x = new EggHouse();
        check.due("on(3, false)", x.on(3, false), 1);
        check.due("on(3, false) again", x.on(3, false), 0);
        check.due("packer(3, 1)", x.packer(3, 1), 0);
        check.due("packer(2, 1)", x.packer(2, 1), 1);
        check.due("on(-1, true)", x.on(-1, true), EggHouse.BAD);
        check.due("on(4, true)", x.on(4, true), EggHouse.BAD);
        x.egg(0, 70, 0, 0, 0);
        x.tick(15);
        check.due("a packer that is off takes none", x.at(14, 0), 0);
        check.due("on(3, true)", x.on(3, true), 0);
        check.due("packer(3, 1) on", x.packer(3, 1), 1);
        x.tick(2);
        check.due("it went to the floor", x.count(6), 1);
        check.due("the packer's tray is empty", x.packer(3, 2), 0);
    }

    private static void atIsRefused() {
        EggHouse x = new EggHouse();
        check.due("at(-1, 0)", x.at(-1, 0), EggHouse.BAD);
        check.due("at(16, 0)", x.at(16, 0), EggHouse.BAD);
        check.due("at(0, -1)", x.at(0, -1), EggHouse.BAD);
        check.due("at(0, 5)", x.at(0, 5), EggHouse.BAD);
        for (int what = 0; what <= 4; what++) {
            check.due("none at place 15", x.at(15, what), EggHouse.NONE);
        }
        check.due("packer(-1, 0)", x.packer(-1, 0), EggHouse.BAD);
        check.due("packer(4, 0)", x.packer(4, 0), EggHouse.BAD);
        check.due("packer(0, -1)", x.packer(0, -1), EggHouse.BAD);
        check.due("packer(0, 5)", x.packer(0, 5), EggHouse.BAD);
        check.due("count(-1)", x.count(-1), EggHouse.BAD);
        check.due("count(10)", x.count(10), EggHouse.BAD);
        check.due("barn(-1, 0)", x.barn(-1, 0), EggHouse.BAD);
        check.due("barn(4, 0)", x.barn(4, 0), EggHouse.BAD);
        check.due("barn(0, -1)", x.barn(0, -1), EggHouse.BAD);
        check.due("barn(0, 5)", x.barn(0, 5), EggHouse.BAD);
    }

    private static void packerTakesItsGrade() {
        for (int packer = 0; packer < 4; packer++) {
            EggHouse x = new EggHouse();
            x.egg(packer, Houses.WEIGHT_OF_GRADE[2 + packer], 0, 0, 0);
            int place = 8 + 2 * packer;
            x.tick(place);
            check.due("one place ahead of packer " + packer, x.at(place - 1, 0), 0);
            x.tick(1);
            check.due("dropped from place " + place, x.at(place, 0), EggHouse.NONE);
            check.due("tray of packer " + packer, x.packer(packer, 2), 1);
            check.due("barns of packer " + packer, x.packer(packer, 4), 1 << packer);
            check.due("eggs in trays", x.count(7), 1);
            check.due("eggs on the line", x.count(2), 0);
        }
    }

    private static void packerIsBusy() {
        EggHouse x = new EggHouse();
        x.grade(1, 2);
        Houses.soundEggs(x, 5, 1, 50);
        x.tick(8);
        check.due("not busy yet", x.packer(0, 3), 0);
        x.tick(1);
        check.due("egg 0 dropped", x.packer(0, 2), 1);
        check.due("two ticks more", x.packer(0, 3), 2);
        x.tick(1);
        check.due("egg 1 went past", x.at(8, 0), 1);
        check.due("one tick more", x.packer(0, 3), 1);
        x.tick(1);
        check.due("egg 2 went past", x.at(8, 0), 2);
        check.due("no tick more", x.packer(0, 3), 0);
        x.tick(1);
        check.due("egg 3 dropped", x.packer(0, 2), 2);
        check.due("egg 1 dropped at the next packer of that grade", x.packer(1, 2), 1);
        check.due("busy anew", x.packer(0, 3), 2);
        check.due("the next packer is busy", x.packer(1, 3), 2);
    }

    private static void busyTicksPassWhileOff() {
        EggHouse x = new EggHouse();
        x.egg(0, 50, 0, 0, 0);
        x.tick(9);
        x.on(0, false);
        x.tick(1);
        check.due("one tick more while off", x.packer(0, 3), 1);
        x.tick(1);
        check.due("no tick more while off", x.packer(0, 3), 0);
        x.tick(1);
        check.due("it stays there", x.packer(0, 3), 0);
    }

    private static void trayFills() {
        EggHouse x = new EggHouse();
        for (int i = 0; i < 6; i++) {
            check.due("eggs in the tray", x.packer(3, 2), i);
            x.egg(i % 2 * 3, 70, 0, 0, 0);
            x.tick(15);
        }
        check.due("the tray is empty again", x.packer(3, 2), 0);
        check.due("it has no barns", x.packer(3, 4), 0);
        check.due("the packer is busy", x.packer(3, 3), 2);
        check.due("eggs in trays", x.count(7), 0);
        check.due("eggs in packs", x.count(8), 6);
        check.due("packs", x.told(0), 1);
        check.due("barn(3, 4)", x.barn(3, 4), 3);
    }

    private static void countsOfKinds() {
        EggHouse x = new EggHouse();
        x.egg(0, 60, 3, 9, 3);
        x.egg(1, 60, 1, 9, 3);
        x.egg(2, 60, 1, 4, 3);
        x.egg(3, 60, 1, 4, 1);
        x.tick(5);
        check.due("nothing looked at", x.trace(), 0);
        x.tick(1);
        check.due("trace of a broken one", x.trace(), 1000);
        check.due("broken", x.count(5), 1);
        check.due("taken out", x.at(5, 0), EggHouse.NONE);
        x.tick(1);
        check.due("trace of one aside", x.trace(), 2100);
        check.due("aside", x.count(4), 1);
        check.due("taken out", x.at(5, 0), EggHouse.NONE);
        x.tick(1);
        check.due("trace of a dirty one", x.trace(), 3210);
        check.due("in the wash", x.count(3), 1);
        check.due("washed ever", x.count(9), 1);
        check.due("taken out", x.at(5, 0), EggHouse.NONE);
        x.tick(1);
        check.due("trace of a sound one", x.trace(), 4321);
        check.due("it stays on the line", x.at(5, 0), 3);
        check.due("on the line", x.count(2), 1);
    }

    private static void looksAtEdges() {
        for (int taps = 0; taps < 16; taps++) {
            int dull = (taps & 1) + (taps >> 1 & 1) + (taps >> 2 & 1) + (taps >> 3 & 1);
            check.due("broken with taps " + taps, lookedAt(taps, 0, 0).count(5), dull >= 2 ? 1 : 0);
        }
        for (int blood = 0; blood <= 9; blood++) {
            check.due("aside with blood " + blood, lookedAt(8, blood, 0).count(4), blood >= 5 ? 1 : 0);
        }
        for (int dirt = 0; dirt <= 3; dirt++) {
            check.due("washed with dirt " + dirt, lookedAt(0, 4, dirt).count(3), dirt > 1 ? 1 : 0);
        }
    }

    private static EggHouse lookedAt(int taps, int blood, int dirt) {
        EggHouse x = new EggHouse();
        x.egg(0, 50, taps, blood, dirt);
        x.tick(6);
        return x;
    }

    private static void washTakesEightTicks() {
        EggHouse x = new EggHouse();
        x.egg(1, 60, 0, 0, 2);
        x.tick(6);
        check.due("in the wash", x.count(3), 1);
        x.tick(7);
        check.due("in the wash yet", x.count(3), 1);
        check.due("nowhere on the line", x.count(2), 0);
        x.tick(1);
        check.due("out of the wash", x.count(3), 0);
        check.due("at place 0 in the same tick", x.at(0, 0), 0);
        check.due("it did not come anew", x.count(0), 1);
        x.tick(5);
        check.due("its dirt is 0, so it goes on", x.at(5, 0), 0);
        check.due("it was asked twice", x.trace(), 1110 + 1111);
        check.due("washed once", x.count(9), 1);
    }

    private static void washedEggGoesToTheEnd() {
        EggHouse x = new EggHouse();
        x.egg(0, 60, 0, 0, 3);
        x.egg(0, 60, 0, 0, 3);
        x.tick(13);
        Houses.soundEggs(x, 3, 1, 60);
        int[] due = {2, 3, 4, 0, 1};
        for (int number : due) {
            x.tick(1);
            check.due("order of the queue", x.at(0, 0), number);
        }
    }

    private static void washedEggIsWeighedAnew() {
        EggHouse x = new EggHouse();
        x.egg(1, 60, 0, 0, 3);
        x.tick(14);
        check.due("the scale has not told at place 0", x.at(0, 3), 0);
        check.due("no grade at place 0", x.at(0, 4), EggHouse.NONE);
        x.drift(-9);
        x.tick(1);
        check.due("the scale has not told at place 1", x.at(1, 3), 0);
        check.due("no grade at place 1", x.at(1, 4), EggHouse.NONE);
        x.tick(1);
        check.due("weighed anew", x.at(2, 3), 51);
        check.due("graded anew", x.at(2, 4), 2);
        x.tick(6);
        check.due("packer 0 takes it", x.packer(0, 2), 1);
    }

    /** Dirty eggs, one a tick, with the queue full at each tick, so that none comes out of the wash. */
    private static EggHouse withFullQueueFor(int ticks) {
        EggHouse x = new EggHouse();
        for (int i = 0; i < 19; i++) {
            x.egg(i % 4, 60, 0, 0, 3);
        }
        for (int i = 0; i < ticks; i++) {
            x.egg((19 + i) % 4, 60, 0, 0, 3);
            x.tick(1);
        }
        return x;
    }

    private static void washIsFull() {
        EggHouse x = withFullQueueFor(35);
        check.due("30 in the wash", x.count(3), 30);
        check.due("none aside", x.count(4), 0);
        x.egg(2, 60, 0, 0, 3);
        x.tick(1);
        check.due("30 in the wash yet", x.count(3), 30);
        check.due("egg 30 is aside", x.count(4), 1);
        check.due("egg 30 is of barn 2", x.barn(2, 1), 1);
        check.due("30 washed ever", x.count(9), 30);
        check.due("asked as a dirty one", x.trace(), 31 * 1110);
        x.tick(1);
        check.due("egg 31 finds no room: egg 0 comes out after the look", x.count(4), 2);
        check.due("egg 0 is out", x.count(3), 29);
        check.due("the queue has taken egg 0 and given one", x.count(1), 19);
        x.tick(1);
        check.due("egg 32 finds room", x.count(9), 31);
        check.due("egg 1 is out", x.count(3), 29);
    }

    private static void washWaitsForRoom() {
        EggHouse x = withFullQueueFor(20);
        check.due("none came out into the full queue", x.count(3), 15);
        check.due("the queue", x.count(1), 19);
        x.tick(1);
        check.due("egg 0 came out and egg 15 in", x.count(3), 15);
        check.due("the queue is as long", x.count(1), 19);
        x.tick(18);
        check.due("ahead of egg 0 are those that came before it", x.at(0, 0), 38);
        x.tick(1);
        check.due("egg 0 is at place 0", x.at(0, 0), 0);
        x.tick(1);
        check.due("egg 1 is behind it", x.at(0, 0), 1);
    }

    private static void barnsAreCounted() {
        EggHouse x = new EggHouse();
        x.egg(0, 50, 15, 0, 0);
        x.egg(1, 50, 0, 9, 0);
        x.egg(2, 40, 0, 0, 0);
        x.egg(3, 50, 0, 0, 0);
        x.egg(3, 50, 0, 0, 3);
        x.tick(40);
        int[][] due = {{1, 0, 1, 0, 0}, {1, 1, 0, 0, 0}, {1, 0, 0, 1, 0}, {2, 0, 0, 0, 2}};
        for (int barn = 0; barn < 4; barn++) {
            for (int what = 0; what < 5; what++) {
                check.due("barn(" + barn + ", " + what + ")", x.barn(barn, what), due[barn][what]);
            }
        }
        check.due("packer 0 has both", x.packer(0, 2), 2);
        check.due("of barn 3", x.packer(0, 4), 8);
    }
}
