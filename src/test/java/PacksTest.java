/** Promises 11 to 21: packs, orders. */
public final class PacksTest {
    private static final Check check = new Check();

    public static void main(String[] args) {
        packKnowsItsEggs();
        packKnowsWhatTheScaleTold();
        sixtyPacksAtMost();
        freePacks();
        bestIsNotGreedy();
        bestGradeByGrade();
        serveTakesByNumbers();
        serveLeavesTheRest();
        aboutAnOrder();
        doubtByBarn();
        doubtByHours();
        hoursOfAWashedEgg();
        soldPacksAreNotHeld();
        clearFrees();
        traceAdds();
        check.end();
    }

    private static void packKnowsItsEggs() {
        EggHouse x = new EggHouse();
        x.tick(5);
        Houses.threePacks(x, 3);
        check.due("packs", x.told(0), 3);
        for (int k = 0; k < 3; k++) {
            check.due("grade of pack " + k, x.pack(k, 0), 3);
            check.due("barns of pack " + k, x.pack(k, 1), 1 << k);
            check.due("first tick of pack " + k, x.pack(k, 2), 5 + 2 + k);
            check.due("last tick of pack " + k, x.pack(k, 3), 5 + 17 + k);
            check.due("order of pack " + k, x.pack(k, 4), EggHouse.NONE);
            check.due("pack is held " + k, x.pack(k, 5), 0);
            check.due("weights of pack " + k, x.pack(k, 6), 6 * 55);
            check.due("scale of pack " + k, x.pack(k, 7), 6 * 55);
        }
        check.due("eggs in packs", x.count(8), 18);
    }

    private static void packKnowsWhatTheScaleTold() {
        EggHouse x = new EggHouse();
        int weights = 0;
        int tolds = 0;
        for (int i = 0; i < 6; i++) {
            x.drift(i - 2);
            x.egg(i % 4, 70 + i, 0, 0, 0);
            x.tick(20);
            weights += 70 + i;
            tolds += 70 + i + i - 2;
        }
        check.due("barns", x.pack(0, 1), 15);
        check.due("first tick", x.pack(0, 2), 2);
        check.due("last tick", x.pack(0, 3), 102);
        check.due("weights", x.pack(0, 6), weights);
        check.due("scale", x.pack(0, 7), tolds);
        check.due("grade of the packer that made it", x.pack(0, 0), 5);
        x.grade(3, 1);
        check.due("the pack keeps its grade", x.pack(0, 0), 5);
    }

    private static void sixtyPacksAtMost() {
        EggHouse x = new EggHouse();
        for (int i = 0; i < 20; i++) {
            Houses.threePacks(x, 5);
        }
        check.due("60 packs", x.told(0), 60);
        check.due("none on the floor", x.count(6), 0);
        Houses.soundEggs(x, 18, 0, 70);
        x.tick(40);
        check.due("60 packs yet", x.told(0), 60);
        check.due("packer 0 stops at 5", x.packer(0, 2), 5);
        check.due("packer 1 stops at 5", x.packer(1, 2), 5);
        check.due("packer 2 stops at 5", x.packer(2, 2), 5);
        check.due("packer 3 is free for one of what they leave", x.packer(3, 2), 1);
        check.due("the others are on the floor", x.count(6), 2);
        check.due("a packer that took none is not busy", x.packer(0, 3), 0);
        check.due("pack(59, 0)", x.pack(59, 0), 5);
        check.due("pack(60, 0)", x.pack(60, 0), EggHouse.BAD);
        check.due("free(5)", x.free(5), 60);
    }

    private static void freePacks() {
        EggHouse x = Houses.withThreePacks(3);
        Houses.threePacks(x, 0);
        int[] due = {3, 0, 0, 3, 0, 0};
        for (int grade = 0; grade < 6; grade++) {
            check.due("free(" + grade + ")", x.free(grade), due[grade]);
        }
        check.due("free(-1)", x.free(-1), EggHouse.BAD);
        check.due("free(6)", x.free(6), EggHouse.BAD);
        x.order(3, 1, 5);
        check.due("an order takes none", x.free(3), 3);
        x.serve();
        check.due("a sold one is not free", x.free(3), 2);
        x.doubt(1, true);
        check.due("a held one is not free", x.free(3), 1);
        check.due("of the other grade neither", x.free(0), 2);
    }

    private static void bestIsNotGreedy() {
        EggHouse x = Houses.withThreePacks(3);
        x.order(3, 3, 10);
        check.due("one order", x.best(0), 1);
        x.order(3, 1, 6);
        check.due("the greater worth", x.best(0), 1);
        check.due("its worth", x.best(1), 10);
        x.order(3, 2, 5);
        check.due("two small ones beat the great one", x.best(0), 6);
        check.due("their worth", x.best(1), 11);
        x.order(3, 4, 1000);
        check.due("all or none", x.best(0), 6);
        x.order(2, 1, 1000);
        check.due("no packs of that grade", x.best(0), 6);
        check.due("best asks only", x.told(2), 0);
    }

    private static void bestGradeByGrade() {
        EggHouse x = Houses.withThreePacks(3);
        Houses.threePacks(x, 0);
        x.order(3, 3, 1);
        x.order(0, 3, 1);
        check.due("each grade has packs of its own", x.best(0), 3);
        check.due("worth of both", x.best(1), 2);
        x.order(0, 1, 7);
        check.due("one grade is short", x.best(0), 5);
        check.due("worth of those", x.best(1), 8);
        x.doubt(0, true);
        check.due("held packs do not count", x.best(0), 4);
    }

    private static void serveTakesByNumbers() {
        EggHouse x = Houses.withThreePacks(3);
        Houses.threePacks(x, 3);
        x.doubt(1, true);
        check.due("packs 1 and 4 are held", x.told(3), 2);
        x.order(3, 1, 1);
        x.order(3, 4, 1);
        x.order(3, 2, 1);
        check.due("of equals the least", x.best(0), 5);
        check.due("serve()", x.serve(), 3);
        int[] soldTo = {0, EggHouse.NONE, 2, 2, EggHouse.NONE, EggHouse.NONE};
        for (int pack = 0; pack < 6; pack++) {
            check.due("order of pack " + pack, x.pack(pack, 4), soldTo[pack]);
        }
        check.due("order 0 was served", x.about(0, 3), 1);
        check.due("order 1 was not", x.about(1, 3), 0);
        check.due("order 2 was served", x.about(2, 3), 1);
        check.due("sold", x.told(2), 3);
        check.due("best has no served ones", x.best(0), 0);
        check.due("serve() again", x.serve(), 0);
    }

    private static void serveLeavesTheRest() {
        EggHouse x = Houses.withThreePacks(3);
        x.order(3, 2, 5);
        check.due("serve() an order of 2", x.serve(), 2);
        x.order(3, 1, 3);
        check.due("the served order is no more in the set", x.best(0), 2);
        check.due("nor in its worth", x.best(1), 3);
        check.due("serve() the new one", x.serve(), 1);
        check.due("pack 2 is sold to order 1", x.pack(2, 4), 1);
        check.due("pack 0 stays with order 0", x.pack(0, 4), 0);
        for (int i = 2; i < 6; i++) {
            x.order(3, 1, 1);
        }
        check.due("served orders count for the 6", x.order(3, 1, 1), EggHouse.FULL);
        Houses.threePacks(x, 3);
        check.due("new packs serve three of the four", x.serve(), 3);
        check.due("the last waits", x.best(0), 0);
        check.due("it was not served", x.about(5, 3), 0);
        check.due("eggs in packs stay counted", x.count(8), 36);
    }

    private static void aboutAnOrder() {
        EggHouse x = new EggHouse();
        check.due("about(0, 0) without orders", x.about(0, 0), EggHouse.BAD);
        x.order(4, 7, 321);
        check.due("grade", x.about(0, 0), 4);
        check.due("n", x.about(0, 1), 7);
        check.due("worth", x.about(0, 2), 321);
        check.due("served", x.about(0, 3), 0);
        check.due("about(0, -1)", x.about(0, -1), EggHouse.BAD);
        check.due("about(0, 4)", x.about(0, 4), EggHouse.BAD);
        check.due("about(1, 0)", x.about(1, 0), EggHouse.BAD);
        check.due("about(-1, 0)", x.about(-1, 0), EggHouse.BAD);
    }

    private static void doubtByBarn() {
        EggHouse x = Houses.withThreePacks(3);
        Houses.threePacks(x, 4);
        check.due("doubt(-1)", x.doubt(-1, true), EggHouse.BAD);
        check.due("doubt(4)", x.doubt(4, true), EggHouse.BAD);
        check.due("barn 2 is in two packs", x.doubt(2, false), 2);
        check.due("asked only, none is held", x.told(3), 0);
        check.due("barn 3 is in none", x.doubt(3, true), 0);
        check.due("held by barn 2", x.doubt(2, true), 2);
        check.due("they are held", x.told(3), 2);
        check.due("pack 2 is held", x.pack(2, 5), 1);
        check.due("pack 5 is held", x.pack(5, 5), 1);
        check.due("pack 1 is not", x.pack(1, 5), 0);
        check.due("held ones are in doubt yet", x.doubt(2, true), 2);
        check.due("asking does not free", x.doubt(2, false), 2);
        check.due("they are held yet", x.told(3), 2);
        x.egg(3, 60, 0, 0, 0);
        x.tick(20);
        check.due("a tray is no pack", x.doubt(3, true), 0);
    }

    private static void doubtByHours() {
        EggHouse x = Houses.withThreePacks(3);
        check.due("from below 0", x.hours(-1, 5, true), EggHouse.BAD);
        check.due("to below from", x.hours(5, 4, true), EggHouse.BAD);
        check.due("before all", x.hours(0, 1, true), 0);
        check.due("up to the first tick of pack 0", x.hours(0, 2, false), 1);
        check.due("up to the first tick of pack 1", x.hours(0, 3, false), 2);
        check.due("within all", x.hours(10, 10, false), 3);
        check.due("around all", x.hours(0, Integer.MAX_VALUE, false), 3);
        check.due("from the last tick of pack 1", x.hours(18, 30, false), 2);
        check.due("after all", x.hours(20, 30, true), 0);
        check.due("none is held yet", x.told(3), 0);
        check.due("from the last tick of pack 2", x.hours(19, 19, true), 1);
        check.due("pack 2 is held", x.pack(2, 5), 1);
        check.due("one is held", x.told(3), 1);
    }

    private static void hoursOfAWashedEgg() {
        EggHouse x = new EggHouse();
        x.egg(0, 70, 0, 0, 2);
        x.tick(40);
        for (int i = 0; i < 5; i++) {
            x.egg(0, 70, 0, 0, 0);
            x.tick(20);
        }
        check.due("the first tick is that of its last weighing", x.pack(0, 2), 15);
        check.due("the last tick", x.pack(0, 3), 122);
    }

    private static void soldPacksAreNotHeld() {
        EggHouse x = Houses.withThreePacks(3);
        x.order(3, 1, 1);
        x.serve();
        check.due("sold ones are in doubt too", x.doubt(0, true), 1);
        check.due("but not held", x.pack(0, 5), 0);
        check.due("by hours as well", x.hours(0, 40, true), 3);
        check.due("not the sold one", x.told(3), 2);
        check.due("pack 0 is not held", x.pack(0, 5), 0);
        check.due("pack 0 is sold yet", x.pack(0, 4), 0);
        check.due("it cannot be cleared", x.clear(0), EggHouse.STATE);
    }

    private static void clearFrees() {
        EggHouse x = Houses.withThreePacks(3);
        check.due("clear(-1)", x.clear(-1), EggHouse.BAD);
        check.due("clear(3)", x.clear(3), EggHouse.BAD);
        check.due("clear of one not held", x.clear(1), EggHouse.STATE);
        x.hours(0, 40, true);
        check.due("none is free", x.free(3), 0);
        check.due("clear(1)", x.clear(1), 1);
        check.due("clear(1) again", x.clear(1), EggHouse.STATE);
        check.due("it is not held", x.pack(1, 5), 0);
        check.due("the others are", x.told(3), 2);
        check.due("it is free", x.free(3), 1);
        x.order(3, 1, 1);
        check.due("it can be sold", x.serve(), 1);
        check.due("to order 0", x.pack(1, 4), 0);
    }

    private static void traceAdds() {
        EggHouse x = new EggHouse();
        Houses.soundEggs(x, 20, 0, 40);
        x.tick(40);
        check.due("20 sound ones", x.trace(), 20 * 1111);
        x.egg(0, 40, 6, 0, 0);
        x.tick(6);
        check.due("a broken one more", x.trace(), 20 * 1111 + 1000);
        x.trace();
        check.due("asking does not change it", x.trace(), 20 * 1111 + 1000);
    }
}
