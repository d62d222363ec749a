/** Promises 1 to 10: the line. */
public final class LineTest {
    private static final Check check = new Check();

    public static void main(String[] args) {
        eggsAreNumbered();
        ticksAreCounted();
        eggGoesAlongTheLine();
        driftCountsWhenWeighed();
        gradeIsToldAnew();
        packerIsOnOrOff();
        packerIsBusy();
        trayFills();
        countsOfKinds();
        washedEggGoesToTheEnd();
        washedEggIsWeighedAnew();
        barnsAreCounted();
        check.end();
    }

    private static void eggsAreNumbered() {
        EggHouse x = new EggHouse();
        check.due("first egg, least numbers", x.egg(0, 30, 0, 0, 0), 0);
        check.due("second egg, greatest numbers", x.egg(3, 90, 15, 9, 3), 1);
        check.due("eggs in the queue", x.count(1), 2);
        check.due("eggs that came", x.count(0), 2);
        check.due("refused eggs have no number", x.egg(4, 30, 0, 0, 0), EggHouse.BAD);
        check.due("third egg", x.egg(1, 50, 0, 0, 0), 2);
    }

    private static void ticksAreCounted() {
        EggHouse x = new EggHouse();
        check.due("tick(1)", x.tick(1), 1);
        check.due("tick(40)", x.tick(40), 41);
        check.due("tick(0)", x.tick(0), EggHouse.BAD);
        check.due("tick(-1)", x.tick(-1), EggHouse.BAD);
        check.due("tick(41)", x.tick(41), EggHouse.BAD);
        check.due("refused ticks do not pass", x.told(4), 41);
        check.due("tick(2)", x.tick(2), 43);
    }

    private static void eggGoesAlongTheLine() {
        EggHouse x = new EggHouse();
        x.egg(3, 44, 0, 0, 0);
        x.egg(2, 44, 0, 0, 0);
        for (int place = 0; place < 16; place++) {
            check.due("ticks", x.tick(1), place + 1);
            check.due("number at " + place, x.at(place, 0), 0);
            check.due("barn at " + place, x.at(place, 1), 3);
            check.due("weight at " + place, x.at(place, 2), 44);
            check.due("scale at " + place, x.at(place, 3), place < 2 ? 0 : 44);
            check.due("grade at " + place, x.at(place, 4), place < 2 ? EggHouse.NONE : 1);
            if (place > 0) {
                check.due("the second egg is behind", x.at(place - 1, 0), 1);
            }
            check.due("eggs on the line", x.count(2), place == 0 ? 1 : 2);
            check.due("eggs in the queue", x.count(1), place == 0 ? 1 : 0);
        }
    }

    private static void driftCountsWhenWeighed() {
        EggHouse x = new EggHouse();
        x.drift(5);
        x.egg(0, 50, 0, 0, 0);
        x.egg(0, 50, 0, 0, 0);
        x.tick(2);
        x.drift(9);
        x.tick(1);
        check.due("the first is weighed with 9", x.at(2, 3), 59);
        check.due("the scale leaves the weight", x.at(2, 2), 50);
        x.drift(-9);
        x.tick(1);
        check.due("the first keeps what was told", x.at(3, 3), 59);
        check.due("the grade is by the scale", x.at(3, 4), 4);
        check.due("the second is weighed with -9", x.at(2, 3), 41);
        x.tick(9);
        check.due("packer 2 takes by the scale's grade", x.packer(2, 2), 1);
        check.due("packer 0 takes none by weight", x.packer(0, 2), 0);
    }

    private static void gradeIsToldAnew() {
        EggHouse x = new EggHouse();
        check.due("grade(0, 0)", x.grade(0, 0), 2);
        check.due("grade(0, 5)", x.grade(0, 5), 0);
        check.due("grade(3, 1)", x.grade(3, 1), 5);
        check.due("grade(-1, 0)", x.grade(-1, 0), EggHouse.BAD);
        check.due("grade(4, 0)", x.grade(4, 0), EggHouse.BAD);
        check.due("grade(0, -1)", x.grade(0, -1), EggHouse.BAD);
        check.due("grade(0, 6)", x.grade(0, 6), EggHouse.BAD);
        check.due("a refused grade is not kept", x.packer(0, 0), 5);
        x.egg(0, 70, 0, 0, 0);
        x.tick(9);
        check.due("an egg is in the tray", x.packer(0, 2), 1);
        check.due("grade with an egg in the tray", x.grade(0, 4), EggHouse.STATE);
        check.due("its own grade is refused too", x.grade(0, 5), EggHouse.STATE);
        check.due("BAD is told ahead of STATE", x.grade(0, 6), EggHouse.BAD);
        check.due("the grade stays", x.packer(0, 0), 5);
        check.due("another packer's tray is empty", x.grade(1, 4), 3);
        check.due("its grade is kept", x.packer(1, 0), 4);

        EggHouse packed = Houses.withThreePacks(3);
        check.due("the tray became a pack, so it is empty", packed.grade(0, 1), 3);
    }

    private static void packerIsOnOrOff() {
        EggHouse x = new EggHouse();
        check.due("on(3, false)", x.on(3, false), 1);
        check.due("on(3, false) again", x.on(3, false), 0);
        check.due("packer(3, 1)", x.packer(3, 1), 0);
        check.due("packer(2, 1)", x.packer(2, 1), 1);
        check.due("on(-1, true)", x.on(-1, true), EggHouse.BAD);
        check.due("on(4, true)", x.on(4, true), EggHouse.BAD);
        x.egg(0, 70, 0, 0, 0);
        x.tick(15);
        check.due("a packer that is off takes none", x.at(14, 0), 0);
        check.due("on(3, true)", x.on(3, true), 0);
        check.due("packer(3, 1) on", x.packer(3, 1), 1);
        x.tick(2);
        check.due("it went to the floor", x.count(6), 1);
        check.due("the packer's tray is empty", x.packer(3, 2), 0);
    }

    private static void packerIsBusy() {
        EggHouse x = new EggHouse();
        x.grade(1, 2);
        Houses.soundEggs(x, 5, 1, 50);
        x.tick(8);
        check.due("not busy yet", x.packer(0, 3), 0);
        x.tick(1);
        check.due("egg 0 dropped", x.packer(0, 2), 1);
        check.due("two ticks more", x.packer(0, 3), 2);
        x.tick(1);
        check.due("egg 1 went past", x.at(8, 0), 1);
        check.due("one tick more", x.packer(0, 3), 1);
        x.tick(1);
        check.due("egg 2 went past", x.at(8, 0), 2);
        check.due("no tick more", x.packer(0, 3), 0);
        x.tick(1);
        check.due("egg 3 dropped", x.packer(0, 2), 2);
        check.due("egg 1 dropped at the next packer of that grade", x.packer(1, 2), 1);
        check.due("busy anew", x.packer(0, 3), 2);
        check.due("the next packer is busy", x.packer(1, 3), 2);
    }

    private static void trayFills() {
        EggHouse x = new EggHouse();
        for (int i = 0; i < 6; i++) {
            check.due("eggs in the tray", x.packer(3, 2), i);
            x.egg(i % 2 * 3, 70, 0, 0, 0);
            x.tick(15);
        }
        check.due("the tray is empty again", x.packer(3, 2), 0);
        check.due("it has no barns", x.packer(3, 4), 0);
        check.due("the packer is busy", x.packer(3, 3), 2);
        check.due("eggs in trays", x.count(7), 0);
        check.due("eggs in packs", x.count(8), 6);
        check.due("packs", x.told(0), 1);
        check.due("barn(3, 4)", x.barn(3, 4), 3);
    }

    private static void countsOfKinds() {
        EggHouse x = new EggHouse();
        x.egg(0, 60, 3, 9, 3);
        x.egg(1, 60, 1, 9, 3);
        x.egg(2, 60, 1, 4, 3);
        x.egg(3, 60, 1, 4, 1);
        x.tick(5);
        check.due("nothing looked at", x.trace(), 0);
        x.tick(1);
        check.due("trace of a broken one", x.trace(), 1000);
        check.due("broken", x.count(5), 1);
        check.due("taken out", x.at(5, 0), EggHouse.NONE);
        x.tick(1);
        check.due("trace of one aside", x.trace(), 2100);
        check.due("aside", x.count(4), 1);
        check.due("taken out", x.at(5, 0), EggHouse.NONE);
        x.tick(1);
        check.due("trace of a dirty one", x.trace(), 3210);
        check.due("in the wash", x.count(3), 1);
        check.due("washed ever", x.count(9), 1);
        check.due("taken out", x.at(5, 0), EggHouse.NONE);
        x.tick(1);
        check.due("trace of a sound one", x.trace(), 4321);
        check.due("it stays on the line", x.at(5, 0), 3);
        check.due("on the line", x.count(2), 1);
    }

    private static void washedEggGoesToTheEnd() {
        EggHouse x = new EggHouse();
        x.egg(0, 60, 0, 0, 3);
        x.egg(0, 60, 0, 0, 3);
        x.tick(13);
        Houses.soundEggs(x, 3, 1, 60);
        int[] due = {2, 3, 4, 0, 1};
        for (int number : due) {
            x.tick(1);
            check.due("order of the queue", x.at(0, 0), number);
        }
    }

    private static void washedEggIsWeighedAnew() {
        EggHouse x = new EggHouse();
        x.egg(1, 60, 0, 0, 3);
        x.tick(14);
        check.due("the scale has not told at place 0", x.at(0, 3), 0);
        check.due("no grade at place 0", x.at(0, 4), EggHouse.NONE);
        x.drift(-9);
        x.tick(1);
        check.due("the scale has not told at place 1", x.at(1, 3), 0);
        check.due("no grade at place 1", x.at(1, 4), EggHouse.NONE);
        x.tick(1);
        check.due("weighed anew", x.at(2, 3), 51);
        check.due("graded anew", x.at(2, 4), 2);
        x.tick(6);
        check.due("packer 0 takes it", x.packer(0, 2), 1);
    }

    private static void barnsAreCounted() {
        EggHouse x = new EggHouse();
        x.egg(0, 50, 15, 0, 0);
        x.egg(1, 50, 0, 9, 0);
        x.egg(2, 40, 0, 0, 0);
        x.egg(3, 50, 0, 0, 0);
        x.egg(3, 50, 0, 0, 3);
        x.tick(40);
        int[][] due = {{1, 0, 1, 0, 0}, {1, 1, 0, 0, 0}, {1, 0, 0, 1, 0}, {2, 0, 0, 0, 2}};
        for (int barn = 0; barn < 4; barn++) {
            for (int what = 0; what < 5; what++) {
                check.due("barn(" + barn + ", " + what + ")", x.barn(barn, what), due[barn][what]);
            }
        }
        check.due("packer 0 has both", x.packer(0, 2), 2);
        check.due("of barn 3", x.packer(0, 4), 8);
    }
}
