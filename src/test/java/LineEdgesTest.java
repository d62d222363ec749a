/** Promises 1 to 10: the last numbers that are taken, the first that are refused, the empty and the full. */
public final class LineEdgesTest {
    private static final Check check = new Check();
    private static final Twins anew = new Twins(check, EggHouse::new);
    private static final Twins atWork = new Twins(check, Houses::atWork);
    private static final Twins fullQueue = new Twins(check, Houses::withFullQueue);

    public static void main(String[] args) {
        theHouseAtWorkHasSomethingEverywhere();
        newHouseHasNoEggs();
        newHouseHasPackersOn();
        newHouseHasNoPacksAndNoOrders();
        barnsOfEggs();
        weightsOfEggs();
        tapsOfEggs();
        bloodOfEggs();
        dirtOfEggs();
        eggsAreCountedFromZero();
        refusedEggsAreNotCounted();
        queueTakesTwenty();
        queueHasRoomAgain();
        queueIsFullWithWashedEggsToo();
        badEggIsToldAheadOfFull();
        oneToFortyTicks();
        ticksAreRefused();
        manyTicksAreSingleTicks();
        driftIsTaken();
        driftIsRefused();
        driftOfMinusOneIsNoRefusal();
        gradeIsTaken();
        gradeIsRefused();
        gradeNeedsAnEmptyTray();
        badGradeIsToldAheadOfState();
        onIsTaken();
        onIsRefused();
        atIsAnswered();
        atIsRefused();
        atAnEmptyPlace();
        badPlaceIsToldAheadOfNone();
        scaleTellsFromPlaceTwoOn();
        packerIsAnswered();
        packerIsRefused();
        countIsAnswered();
        countIsRefused();
        barnIsAnswered();
        barnIsRefused();
        check.end();
    }

    /** Else the refusals below would look at places where nothing can change. */
    private static void theHouseAtWorkHasSomethingEverywhere() {
        EggHouse x = Houses.atWork();
        for (int what = 0; what <= 9; what++) {
            check.isTrue("at work: count(" + what + ") is above 0", x.count(what) > 0);
        }
        for (int what = 0; what <= 4; what++) {
            check.isTrue("at work: told(" + what + ") is above 0", x.told(what) > 0);
        }
        check.due("at work: the drift", x.told(5), -4);
        check.due("at work: packer 3 is off", x.packer(3, 1), 0);
        check.due("at work: packer 0 is busy", x.packer(0, 3), 1);
        check.due("at work: pack 0 is sold", x.pack(0, 4), 0);
        check.due("at work: pack 1 is held", x.pack(1, 5), 1);
        check.due("at work: pack 2 is free", x.free(3), 1);
        check.due("at work: order 0 was served", x.about(0, 3), 1);
        check.due("at work: order 1 was not", x.about(1, 3), 0);
    }

    // ---- 1, a new object

    private static void newHouseHasNoEggs() {
        EggHouse x = new EggHouse();
        for (int what = 0; what <= 9; what++) {
            check.due("new: count(" + what + ")", x.count(what), 0);
        }
        for (int barn = 0; barn <= 3; barn++) {
            for (int what = 0; what <= 4; what++) {
                check.due("new: barn(" + barn + ", " + what + ")", x.barn(barn, what), 0);
            }
        }
        for (int place = 0; place <= 15; place++) {
            for (int what = 0; what <= 4; what++) {
                check.due("new: at(" + place + ", " + what + ")", x.at(place, what), EggHouse.NONE);
            }
        }
        check.due("new: trace()", x.trace(), 0);
    }

    private static void newHouseHasPackersOn() {
        int[][] due = {{2, 1, 0, 0, 0}, {3, 1, 0, 0, 0}, {4, 1, 0, 0, 0}, {5, 1, 0, 0, 0}};
        EggHouse x = new EggHouse();
        for (int packer = 0; packer <= 3; packer++) {
            for (int what = 0; what <= 4; what++) {
                check.due("new: packer(" + packer + ", " + what + ")", x.packer(packer, what), due[packer][what]);
            }
        }
    }

    private static void newHouseHasNoPacksAndNoOrders() {
        EggHouse x = new EggHouse();
        for (int what = 0; what <= 5; what++) {
            check.due("new: told(" + what + ")", x.told(what), 0);
        }
        for (int grade = 0; grade <= 5; grade++) {
            check.due("new: free(" + grade + ")", x.free(grade), 0);
        }
        for (int barn = 0; barn <= 3; barn++) {
            check.due("new: doubt(" + barn + ", true)", x.doubt(barn, true), 0);
        }
        check.due("new: hours around all", x.hours(0, Integer.MAX_VALUE, true), 0);
        check.due("new: best(0)", x.best(0), 0);
        check.due("new: best(1)", x.best(1), 0);
        check.due("new: serve()", x.serve(), 0);
        anew.due("new: pack(0, 0)", EggHouse.BAD, y -> y.pack(0, 0));
        anew.due("new: about(0, 0)", EggHouse.BAD, y -> y.about(0, 0));
        anew.due("new: clear(0)", EggHouse.BAD, y -> y.clear(0));
    }

    // ---- 2, egg

    private static void barnsOfEggs() {
        for (int barn = 0; barn <= 3; barn++) {
            EggHouse x = new EggHouse();
            check.due("egg of barn " + barn, x.egg(barn, 50, 0, 0, 0), 0);
            check.due("it came from barn " + barn, x.barn(barn, 0), 1);
            x.tick(1);
            check.due("barn on the line", x.at(0, 1), barn);
        }
        atWork.outside("egg's barn", 0, 3, EggHouse.BAD, (x, v) -> x.egg(v, 50, 0, 0, 0));
    }

    private static void weightsOfEggs() {
        for (int weight = 30; weight <= 90; weight++) {
            EggHouse x = new EggHouse();
            check.due("egg of weight " + weight, x.egg(0, weight, 0, 0, 0), 0);
            x.tick(1);
            check.due("weight on the line", x.at(0, 2), weight);
        }
        atWork.outside("egg's weight", 30, 90, EggHouse.BAD, (x, v) -> x.egg(0, v, 0, 0, 0));
    }

    private static void tapsOfEggs() {
        for (int taps = 0; taps <= 15; taps++) {
            check.due("egg of taps " + taps, new EggHouse().egg(0, 50, taps, 0, 0), 0);
        }
        atWork.outside("egg's taps", 0, 15, EggHouse.BAD, (x, v) -> x.egg(0, 50, v, 0, 0));
    }

    private static void bloodOfEggs() {
        for (int blood = 0; blood <= 9; blood++) {
            check.due("egg of blood " + blood, new EggHouse().egg(0, 50, 0, blood, 0), 0);
        }
        atWork.outside("egg's blood", 0, 9, EggHouse.BAD, (x, v) -> x.egg(0, 50, 0, v, 0));
    }

    private static void dirtOfEggs() {
        for (int dirt = 0; dirt <= 3; dirt++) {
            check.due("egg of dirt " + dirt, new EggHouse().egg(0, 50, 0, 0, dirt), 0);
        }
        atWork.outside("egg's dirt", 0, 3, EggHouse.BAD, (x, v) -> x.egg(0, 50, 0, 0, v));
    }

    private static void eggsAreCountedFromZero() {
        EggHouse x = new EggHouse();
        for (int i = 0; i < 60; i++) {
            check.due("the next egg's number", x.egg(i % 4, 50, 0, 0, 3), i);
            x.tick(3);
        }
        check.due("washed eggs did not come anew", x.count(0), 60);
        check.isTrue("there were some", x.count(9) > 30);
    }

    private static void refusedEggsAreNotCounted() {
        EggHouse x = new EggHouse();
        check.due("the first egg is BAD", x.egg(0, 29, 0, 0, 0), EggHouse.BAD);
        Houses.soundEggs(x, 19, 0, 50);
        check.due("the last one that has room", x.egg(0, 50, 0, 0, 0), 19);
        check.due("one without room", x.egg(0, 50, 0, 0, 0), EggHouse.FULL);
        x.tick(1);
        check.due("the number after 19", x.egg(0, 50, 0, 0, 0), 20);
        check.due("eggs that came", x.count(0), 21);
        check.due("eggs that came from barn 0", x.barn(0, 0), 21);
    }

    private static void queueTakesTwenty() {
        EggHouse x = new EggHouse();
        for (int i = 0; i < 20; i++) {
            check.due("the queue before egg " + i, x.count(1), i);
            check.due("egg " + i, x.egg(0, 50, 0, 0, 0), i);
        }
        check.due("the full queue", x.count(1), 20);
        fullQueue.due("egg 20", EggHouse.FULL, y -> y.egg(0, 50, 0, 0, 0));
    }

    private static void queueHasRoomAgain() {
        EggHouse x = Houses.withFullQueue();
        x.tick(1);
        check.due("room for one", x.egg(0, 50, 0, 0, 0), 20);
        check.due("not for two", x.egg(0, 50, 0, 0, 0), EggHouse.FULL);
        x.tick(2);
        check.due("room for the first of two", x.egg(0, 50, 0, 0, 0), 21);
        check.due("room for the second of two", x.egg(0, 50, 0, 0, 0), 22);
        check.due("not for a third", x.egg(0, 50, 0, 0, 0), EggHouse.FULL);
    }

    private static void queueIsFullWithWashedEggsToo() {
        EggHouse x = Houses.withFullQueueFor(20);
        x.tick(1);
        check.due("19 in the queue, the last a washed one", x.count(1), 19);
        check.due("room for one more", x.egg(0, 50, 0, 0, 0), 39);
        check.due("and no other", x.egg(0, 50, 0, 0, 0), EggHouse.FULL);
    }

    private static void badEggIsToldAheadOfFull() {
        fullQueue.outside("full: egg's barn", 0, 3, EggHouse.BAD, (x, v) -> x.egg(v, 50, 0, 0, 0));
        fullQueue.outside("full: egg's weight", 30, 90, EggHouse.BAD, (x, v) -> x.egg(0, v, 0, 0, 0));
        fullQueue.outside("full: egg's taps", 0, 15, EggHouse.BAD, (x, v) -> x.egg(0, 50, v, 0, 0));
        fullQueue.outside("full: egg's blood", 0, 9, EggHouse.BAD, (x, v) -> x.egg(0, 50, 0, v, 0));
        fullQueue.outside("full: egg's dirt", 0, 3, EggHouse.BAD, (x, v) -> x.egg(0, 50, 0, 0, v));
    }

    // ---- 3, tick

    private static void oneToFortyTicks() {
        for (int n = 1; n <= 40; n++) {
            EggHouse x = new EggHouse();
            check.due("tick(" + n + ")", x.tick(n), n);
            check.due("told(4)", x.told(4), n);
            check.due("tick(" + n + ") again", x.tick(n), 2 * n);
        }
    }

    private static void ticksAreRefused() {
        atWork.outside("tick", 1, 40, EggHouse.BAD, EggHouse::tick);
        atWork.due("tick(-40)", EggHouse.BAD, x -> x.tick(-40));
    }

    private static void manyTicksAreSingleTicks() {
        EggHouse many = Houses.atWork();
        EggHouse single = Houses.atWork();
        many.tick(40);
        for (int i = 0; i < 40; i++) {
            single.tick(1);
        }
        check.isTrue("tick(40) is 40 times tick(1)", Snapshot.of(many).equals(Snapshot.of(single)));
    }

    // ---- 4, drift

    private static void driftIsTaken() {
        EggHouse x = new EggHouse();
        int was = 0;
        for (int v = -9; v <= 9; v++) {
            check.due("drift(" + v + ")", x.drift(v), was);
            check.due("told(5)", x.told(5), v);
            was = v;
        }
        check.due("drift(-9) after 9", x.drift(-9), 9);
        check.due("drift(9) after -9", x.drift(9), -9);
    }

    private static void driftIsRefused() {
        atWork.outside("drift", -9, 9, -1000, EggHouse::drift);
        atWork.due("drift(-1000)", -1000, x -> x.drift(-1000));
    }

    private static void driftOfMinusOneIsNoRefusal() {
        EggHouse x = new EggHouse();
        x.drift(-1);
        check.due("the drift was -1", x.drift(-2), -1);
        check.due("the drift was -2", x.drift(-3), -2);
        check.due("the drift was -3", x.drift(4), -3);
        check.due("it is 4", x.told(5), 4);
    }

    // ---- 5, grade

    private static void gradeIsTaken() {
        for (int packer = 0; packer <= 3; packer++) {
            EggHouse x = new EggHouse();
            int was = 2 + packer;
            for (int v = 0; v <= 5; v++) {
                check.due("grade(" + packer + ", " + v + ")", x.grade(packer, v), was);
                check.due("packer(" + packer + ", 0)", x.packer(packer, 0), v);
                was = v;
            }
            for (int other = 0; other <= 3; other++) {
                check.due("grade of packer " + other, x.packer(other, 0), other == packer ? 5 : 2 + other);
            }
        }
    }

    private static void gradeIsRefused() {
        atWork.outside("grade of packer", 0, 3, EggHouse.BAD, (x, v) -> x.grade(v, 0));
        atWork.outside("grade of packer 2", 0, 5, EggHouse.BAD, (x, v) -> x.grade(2, v));
    }

    private static void gradeNeedsAnEmptyTray() {
        check.due("a tray of 0", Houses.withTrayOf(0).grade(0, 4), 2);
        for (int eggs = 1; eggs <= 5; eggs++) {
            int inTray = eggs;
            check.due("eggs in the tray", Houses.withTrayOf(eggs).packer(0, 2), eggs);
            Twins begun = new Twins(check, () -> Houses.withTrayOf(inTray));
            begun.due("grade with a tray of " + eggs, EggHouse.STATE, x -> x.grade(0, 4));
            begun.due("its own grade with a tray of " + eggs, EggHouse.STATE, x -> x.grade(0, 2));
            check.due("another packer's grade", Houses.withTrayOf(eggs).grade(1, 4), 3);
        }
        check.due("a tray of 6 is a pack, so it is empty", Houses.withTrayOf(6).grade(0, 4), 2);
    }

    private static void badGradeIsToldAheadOfState() {
        Twins begun = new Twins(check, () -> Houses.withTrayOf(1));
        begun.outside("grade of a begun tray", 0, 5, EggHouse.BAD, (x, v) -> x.grade(0, v));
    }

    // ---- 6, on

    private static void onIsTaken() {
        for (int packer = 0; packer <= 3; packer++) {
            EggHouse x = new EggHouse();
            check.due("on, told on", x.on(packer, true), 1);
            check.due("on, told off", x.on(packer, false), 1);
            check.due("it is off", x.packer(packer, 1), 0);
            check.due("off, told off", x.on(packer, false), 0);
            for (int other = 0; other <= 3; other++) {
                check.due("packer " + other + " is on", x.packer(other, 1), other == packer ? 0 : 1);
            }
            check.due("off, told on", x.on(packer, true), 0);
            check.due("it is on", x.packer(packer, 1), 1);
        }
    }

    private static void onIsRefused() {
        atWork.outside("on, true, of packer", 0, 3, EggHouse.BAD, (x, v) -> x.on(v, true));
        atWork.outside("on, false, of packer", 0, 3, EggHouse.BAD, (x, v) -> x.on(v, false));
    }

    // ---- 7, at

    private static void atIsAnswered() {
        EggHouse x = new EggHouse();
        x.egg(3, 90, 0, 0, 0);
        x.drift(9);
        x.on(3, false);
        int[] due = {0, 3, 90, 99, 5};
        x.tick(16);
        for (int what = 0; what <= 4; what++) {
            check.due("at(15, " + what + ")", x.at(15, what), due[what]);
        }
        x.egg(1, 30, 0, 0, 0);
        x.tick(1);
        int[] dueAtFirst = {1, 1, 30, 0, EggHouse.NONE};
        for (int what = 0; what <= 4; what++) {
            check.due("at(0, " + what + ")", x.at(0, what), dueAtFirst[what]);
        }
    }

    private static void atIsRefused() {
        check.isTrue("there is an egg at place 0", Houses.atWork().at(0, 0) >= 0);
        atWork.outsideQuestion("at", 15, 4, EggHouse::at);
    }

    private static void atAnEmptyPlace() {
        EggHouse x = new EggHouse();
        x.egg(0, 50, 0, 0, 0);
        x.tick(2);
        for (int what = 0; what <= 4; what++) {
            check.due("behind the egg, " + what, x.at(0, what), EggHouse.NONE);
            check.due("ahead of the egg, " + what, x.at(2, what), EggHouse.NONE);
        }
        check.due("the egg", x.at(1, 0), 0);
    }

    private static void badPlaceIsToldAheadOfNone() {
        anew.outsideQuestion("at, where none is", 15, 4, EggHouse::at);
    }

    private static void scaleTellsFromPlaceTwoOn() {
        int[] toldDue = {0, 0, 48, 48, 48, 48};
        int[] gradeDue = {EggHouse.NONE, EggHouse.NONE, 2, 2, 2, 2};
        EggHouse x = new EggHouse();
        x.egg(0, 48, 0, 0, 3);
        for (int place = 0; place <= 4; place++) {
            x.tick(1);
            check.due("scale at place " + place, x.at(place, 3), toldDue[place]);
            check.due("grade at place " + place, x.at(place, 4), gradeDue[place]);
        }
        // Washed, it is on the line anew, and the scale has told of it before.
        x.tick(8);
        for (int place = 0; place <= 5; place++) {
            x.tick(1);
            check.due("scale at place " + place + " anew", x.at(place, 3), toldDue[place]);
            check.due("grade at place " + place + " anew", x.at(place, 4), gradeDue[place]);
        }
    }

    // ---- 8, packer

    private static void packerIsAnswered() {
        int[] due = {2, 1, 1, 2, 8};
        EggHouse x = new EggHouse();
        x.egg(3, 50, 0, 0, 0);
        x.tick(9);
        for (int what = 0; what <= 4; what++) {
            check.due("packer(0, " + what + ")", x.packer(0, what), due[what]);
        }
        int[] barnsDue = {0, 1, 3, 7, 15, 15, 0};
        for (int eggs = 0; eggs <= 6; eggs++) {
            EggHouse filling = Houses.withTrayOf(eggs);
            check.due("eggs in the tray", filling.packer(0, 2), eggs % 6);
            check.due("barns of the tray", filling.packer(0, 4), barnsDue[eggs]);
        }
    }

    private static void packerIsRefused() {
        atWork.outsideQuestion("packer", 3, 4, EggHouse::packer);
    }

    // ---- 9, count

    private static void countIsAnswered() {
        EggHouse x = new EggHouse();
        x.egg(0, 50, 3, 0, 0);
        x.egg(0, 50, 0, 5, 0);
        x.egg(0, 50, 0, 0, 2);
        x.egg(0, 40, 0, 0, 0);
        x.egg(0, 50, 0, 0, 0);
        x.tick(12);
        Houses.soundEggs(x, 7, 0, 50);
        check.due("came", x.count(0), 12);
        check.due("in the queue", x.count(1), 7);
        check.due("on the line", x.count(2), 2);
        check.due("in the wash", x.count(3), 1);
        check.due("aside", x.count(4), 1);
        check.due("broken", x.count(5), 1);
        check.due("on the floor", x.count(6), 0);
        x.tick(8);
        check.due("in the queue after 8 ticks more", x.count(1), 0);
        check.due("on the line after 8 ticks more", x.count(2), 8);
        check.due("in the wash after 8 ticks more", x.count(3), 0);
        check.due("on the floor after 8 ticks more", x.count(6), 1);
        check.due("in trays", x.count(7), 1);
        check.due("in packs", x.count(8), 0);
        check.due("washed ever", x.count(9), 1);
    }

    private static void countIsRefused() {
        atWork.outside("count", 0, 9, EggHouse.BAD, EggHouse::count);
    }

    // ---- 10, barn

    private static void barnIsAnswered() {
        for (int barn = 0; barn <= 3; barn++) {
            EggHouse x = new EggHouse();
            x.egg(barn, 50, 3, 0, 0);
            x.egg(barn, 50, 0, 5, 0);
            x.egg(barn, 40, 0, 0, 0);
            x.egg(barn, 50, 0, 0, 0);
            x.tick(19);
            for (int other = 0; other <= 3; other++) {
                boolean asked = other == barn;
                check.due("barn(" + other + ", 0)", x.barn(other, 0), asked ? 4 : 0);
                for (int what = 1; what <= 4; what++) {
                    check.due("barn(" + other + ", " + what + ")", x.barn(other, what), asked ? 1 : 0);
                }
            }
        }
        check.due("in trays: 5", Houses.withTrayOf(5).barn(0, 4), 2);
        check.due("in packs: 6", Houses.withTrayOf(6).barn(1, 4), 2);
    }

    private static void barnIsRefused() {
        atWork.outsideQuestion("barn", 3, 4, EggHouse::barn);
    }
}
