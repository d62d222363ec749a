/** Promises 11 to 21: the last numbers that are taken, the first that are refused, the empty and the full. */
public final class PacksEdgesTest {
    private static final Check check = new Check();
    private static final Twins anew = new Twins(check, EggHouse::new);
    private static final Twins atWork = new Twins(check, Houses::atWork);
    private static final Twins fullOrders = new Twins(check, Houses::withFullOrders);

    public static void main(String[] args) {
        packIsAnswered();
        packHasItsFirstAndLastTick();
        packIsRefused();
        soldToOrderZeroIsNotNone();
        freeIsAnswered();
        freeIsRefused();
        gradesOfOrders();
        packsOfOrders();
        worthOfOrders();
        sixOrdersAtMost();
        servedOrdersAreOrders();
        badOrderIsToldAheadOfFull();
        bestIsRefused();
        bestWithoutOrders();
        orderOfAllFreePacks();
        ordersOfOneGradeShareItsPacks();
        bestOfEqualsIsTheLeast();
        bestOfSixOrders();
        heldPacksServeNoOrder();
        serveWithNothingToServe();
        serveOfNine();
        serveByNumbers();
        servedOnce();
        aboutIsAnswered();
        aboutIsRefused();
        barnsInDoubt();
        doubtIsRefused();
        trayIsNotInDoubt();
        hoursUpToTheFirstTick();
        hoursFromTheLastTick();
        hoursBetweenWeighings();
        hoursOfOneTick();
        hoursAreRefused();
        askingHoldsNone();
        soldPacksAreInDoubtButNotHeld();
        heldPacksStayHeld();
        clearOfAHeldPack();
        clearIsRefused();
        clearOfASoldPack();
        clearedPackIsHeldAnew();
        toldIsAnswered();
        toldIsRefused();
        traceIsOfLooksOnly();
        check.end();
    }

    // ---- 11, pack

    private static void packIsAnswered() {
        EggHouse x = new EggHouse();
        for (int i = 0; i < 6; i++) {
            x.drift(9);
            x.egg(i < 5 ? 3 : 0, 85 + i, 0, 0, 0);
            x.tick(15);
        }
        int weights = 85 + 86 + 87 + 88 + 89 + 90;
        int[] due = {5, 9, 2, 77, EggHouse.NONE, 0, weights, weights + 6 * 9};
        for (int what = 0; what <= 7; what++) {
            check.due("pack(0, " + what + ")", x.pack(0, what), due[what]);
        }
        x.order(5, 1, 1);
        x.serve();
        check.due("the order that it is sold to", x.pack(0, 4), 0);
        x.grade(3, 0);
        check.due("its grade stays when the packer has another", x.pack(0, 0), 5);
    }

    private static void packHasItsFirstAndLastTick() {
        EggHouse x = new EggHouse();
        x.tick(7);
        Houses.threePacks(x, 0);
        for (int pack = 0; pack < 3; pack++) {
            check.due("first tick of pack " + pack, x.pack(pack, 2), 9 + pack);
            check.due("last tick of pack " + pack, x.pack(pack, 3), 24 + pack);
        }
        Houses.threePacks(x, 0);
        check.due("first tick of a packer's second pack", x.pack(3, 2), 37 + 2);
        check.due("last tick of a packer's second pack", x.pack(3, 3), 37 + 17);
        check.due("the first pack has its own yet", x.pack(0, 3), 24);
    }

    private static void packIsRefused() {
        for (int what = 0; what <= 7; what++) {
            check.isTrue("pack(2, " + what + ")", Houses.atWork().pack(2, what) != EggHouse.BAD);
        }
        atWork.outsideQuestion("pack", 2, 7, EggHouse::pack);
        anew.due("pack(0, 4) without packs", EggHouse.BAD, x -> x.pack(0, 4));
        Twins sixty = new Twins(check, () -> Houses.withPacks(60, 5));
        check.due("pack(59, 0)", Houses.withPacks(60, 5).pack(59, 0), 5);
        sixty.due("pack(60, 0)", EggHouse.BAD, x -> x.pack(60, 0));
    }

    private static void soldToOrderZeroIsNotNone() {
        EggHouse x = Houses.withThreePacks(3);
        check.due("sold to none", x.pack(0, 4), EggHouse.NONE);
        x.order(3, 2, 1);
        x.serve();
        check.due("sold to order 0", x.pack(0, 4), 0);
        check.due("sold to order 0", x.pack(1, 4), 0);
        check.due("sold to none yet", x.pack(2, 4), EggHouse.NONE);
    }

    // ---- 12, free

    private static void freeIsAnswered() {
        for (int grade = 0; grade <= 5; grade++) {
            EggHouse x = Houses.withThreePacks(grade);
            for (int asked = 0; asked <= 5; asked++) {
                check.due("free(" + asked + ") of packs of " + grade, x.free(asked), asked == grade ? 3 : 0);
            }
            x.doubt(0, true);
            check.due("one is held", x.free(grade), 2);
            x.order(grade, 1, 1);
            x.serve();
            check.due("one is sold", x.free(grade), 1);
            x.doubt(2, true);
            check.due("none is left", x.free(grade), 0);
            x.clear(0);
            check.due("one is cleared", x.free(grade), 1);
        }
    }

    private static void freeIsRefused() {
        atWork.outside("free", 0, 5, EggHouse.BAD, EggHouse::free);
    }

    // ---- 13, order

    private static void gradesOfOrders() {
        for (int grade = 0; grade <= 5; grade++) {
            EggHouse x = new EggHouse();
            check.due("order of grade " + grade, x.order(grade, 1, 1), 0);
            check.due("its grade", x.about(0, 0), grade);
        }
        atWork.outside("order's grade", 0, 5, EggHouse.BAD, (x, v) -> x.order(v, 1, 1));
    }

    private static void packsOfOrders() {
        for (int n = 1; n <= 9; n++) {
            EggHouse x = new EggHouse();
            check.due("order of packs " + n, x.order(0, n, 1), 0);
            check.due("its packs", x.about(0, 1), n);
        }
        atWork.outside("order's packs", 1, 9, EggHouse.BAD, (x, v) -> x.order(3, v, 1));
    }

    private static void worthOfOrders() {
        int[] taken = {1, 2, 999, 1000};
        for (int worth : taken) {
            EggHouse x = new EggHouse();
            check.due("order of worth " + worth, x.order(0, 1, worth), 0);
            check.due("its worth", x.about(0, 2), worth);
        }
        atWork.outside("order's worth", 1, 1000, EggHouse.BAD, (x, v) -> x.order(3, 1, v));
    }

    private static void sixOrdersAtMost() {
        EggHouse x = new EggHouse();
        for (int i = 0; i < 6; i++) {
            check.due("orders before order " + i, x.told(1), i);
            check.due("order " + i, x.order(0, 1, 1), i);
        }
        check.due("orders", x.told(1), 6);
        fullOrders.due("order 6", EggHouse.FULL, y -> y.order(3, 1, 1000));
    }

    private static void servedOrdersAreOrders() {
        EggHouse x = Houses.withPacks(6, 3);
        for (int i = 0; i < 6; i++) {
            check.due("order " + i, x.order(3, 1, 1), i);
            check.due("served", x.serve(), 1);
        }
        check.due("six orders, all served", x.order(3, 1, 1), EggHouse.FULL);
        check.due("six orders", x.told(1), 6);
    }

    private static void badOrderIsToldAheadOfFull() {
        fullOrders.outside("full: order's grade", 0, 5, EggHouse.BAD, (x, v) -> x.order(v, 1, 1));
        fullOrders.outside("full: order's packs", 1, 9, EggHouse.BAD, (x, v) -> x.order(3, v, 1));
        fullOrders.outside("full: order's worth", 1, 1000, EggHouse.BAD, (x, v) -> x.order(3, 1, v));
    }

    // ---- 14, best

    private static void bestIsRefused() {
        anew.outside("best of a new house", 0, 1, EggHouse.BAD, EggHouse::best);
        atWork.outside("best", 0, 1, EggHouse.BAD, EggHouse::best);
        fullOrders.outside("best of six", 0, 1, EggHouse.BAD, EggHouse::best);
    }

    private static void bestWithoutOrders() {
        EggHouse x = Houses.withThreePacks(3);
        bestIs(x, 0, 0);
        check.due("asking sells none", x.free(3), 3);
    }

    private static void bestIs(EggHouse x, int bits, int worth) {
        check.due("best(0)", x.best(0), bits);
        check.due("best(1)", x.best(1), worth);
    }

    private static void orderOfAllFreePacks() {
        for (int n = 1; n <= 9; n++) {
            EggHouse x = Houses.withThreePacks(3);
            x.order(3, n, 7);
            bestIs(x, n <= 3 ? 1 : 0, n <= 3 ? 7 : 0);
            check.due("all or none of " + n, x.serve(), n <= 3 ? n : 0);
            check.due("served of " + n, x.about(0, 3), n <= 3 ? 1 : 0);
            check.due("free after an order of " + n, x.free(3), n <= 3 ? 3 - n : 3);
        }
    }

    private static void ordersOfOneGradeShareItsPacks() {
        EggHouse enough = Houses.withThreePacks(3);
        enough.order(3, 1, 4);
        enough.order(3, 2, 5);
        bestIs(enough, 3, 9);

        EggHouse oneShort = Houses.withThreePacks(3);
        oneShort.order(3, 2, 4);
        oneShort.order(3, 2, 5);
        bestIs(oneShort, 2, 5);

        EggHouse twoGrades = Houses.withThreePacks(0);
        Houses.threePacks(twoGrades, 5);
        twoGrades.order(0, 3, 4);
        twoGrades.order(5, 3, 5);
        bestIs(twoGrades, 3, 9);
        twoGrades.order(0, 1, 3);
        bestIs(twoGrades, 3, 9);
        twoGrades.order(5, 1, 6);
        bestIs(twoGrades, 9, 10);
    }

    private static void bestOfEqualsIsTheLeast() {
        EggHouse two = withOrders(new int[][] {{2, 10}, {2, 10}});
        bestIs(two, 1, 10);
        EggHouse oneBelowTwo = withOrders(new int[][] {{3, 10}, {1, 4}, {2, 6}});
        bestIs(oneBelowTwo, 1, 10);
        EggHouse twoBelowOne = withOrders(new int[][] {{1, 4}, {2, 6}, {3, 10}});
        bestIs(twoBelowOne, 3, 10);
        EggHouse lastOrders = withOrders(new int[][] {{4, 99}, {4, 99}, {1, 4}, {2, 6}, {3, 10}, {3, 10}});
        bestIs(lastOrders, 12, 10);
        EggHouse oneMore = withOrders(new int[][] {{4, 99}, {4, 99}, {1, 4}, {2, 6}, {3, 10}, {3, 11}});
        bestIs(oneMore, 32, 11);
    }

    /** Three packs of grade 3, and orders of that grade: packs and worth of each. */
    private static EggHouse withOrders(int[][] orders) {
        EggHouse x = Houses.withThreePacks(3);
        for (int[] order : orders) {
            x.order(3, order[0], order[1]);
        }
        return x;
    }

    private static void bestOfSixOrders() {
        EggHouse x = Houses.withPacks(6, 3);
        for (int i = 0; i < 6; i++) {
            x.order(3, 1, 1000);
        }
        bestIs(x, 63, 6000);
        check.due("all are served", x.serve(), 6);
        for (int i = 0; i < 6; i++) {
            check.due("order of pack " + i, x.pack(i, 4), i);
            check.due("order was served " + i, x.about(i, 3), 1);
        }
        bestIs(x, 0, 0);
    }

    private static void heldPacksServeNoOrder() {
        EggHouse x = Houses.withThreePacks(3);
        x.order(3, 3, 8);
        bestIs(x, 1, 8);
        x.doubt(2, true);
        bestIs(x, 0, 0);
        check.due("none is sold", x.serve(), 0);
        x.clear(2);
        bestIs(x, 1, 8);
        check.due("three are sold", x.serve(), 3);
    }

    // ---- 15, serve

    private static void serveWithNothingToServe() {
        anew.due("serve() of a new house", 0, EggHouse::serve);
        Twins packsOnly = new Twins(check, () -> Houses.withThreePacks(3));
        packsOnly.due("serve() without orders", 0, EggHouse::serve);
        atWork.due("serve() without packs enough", 0, EggHouse::serve);
    }

    private static void serveOfNine() {
        EggHouse nine = Houses.withPacks(9, 1);
        nine.order(1, 9, 1000);
        check.due("serve() of nine", nine.serve(), 9);
        check.due("sold", nine.told(2), 9);

        EggHouse eight = Houses.withPacks(9, 1);
        eight.order(1, 1, 1);
        eight.serve();
        eight.order(1, 9, 1000);
        check.due("serve() of nine with eight free", eight.serve(), 0);
        check.due("sold before", eight.told(2), 1);
    }

    private static void serveByNumbers() {
        EggHouse x = Houses.withPacks(6, 3);
        x.doubt(0, true);
        x.order(3, 1, 1);
        x.order(3, 1, 1000);
        x.order(3, 2, 1);
        check.due("serve()", x.serve(), 4);
        int[] due = {EggHouse.NONE, 0, 1, EggHouse.NONE, 2, 2};
        for (int pack = 0; pack < 6; pack++) {
            check.due("order of pack " + pack, x.pack(pack, 4), due[pack]);
        }
    }

    private static void servedOnce() {
        EggHouse x = Houses.withPacks(6, 3);
        x.order(3, 3, 10);
        check.due("serve()", x.serve(), 3);
        check.due("served ones are not served anew", x.serve(), 0);
        x.order(3, 3, 1);
        bestIs(x, 2, 1);
        check.due("serve() of the new one", x.serve(), 3);
        check.due("pack 0 is with order 0", x.pack(0, 4), 0);
        check.due("pack 3 is with order 1", x.pack(3, 4), 1);
        check.due("six are sold", x.told(2), 6);
    }

    // ---- 16, about

    private static void aboutIsAnswered() {
        EggHouse x = Houses.withThreePacks(3);
        x.order(3, 3, 1000);
        x.order(5, 9, 1);
        x.serve();
        int[][] due = {{3, 3, 1000, 1}, {5, 9, 1, 0}};
        for (int order = 0; order <= 1; order++) {
            for (int what = 0; what <= 3; what++) {
                check.due("about(" + order + ", " + what + ")", x.about(order, what), due[order][what]);
            }
        }
    }

    private static void aboutIsRefused() {
        atWork.outsideQuestion("about", 1, 3, EggHouse::about);
        check.due("about(5, 2)", Houses.withFullOrders().about(5, 2), 15);
        fullOrders.due("about(6, 2)", EggHouse.BAD, x -> x.about(6, 2));
        anew.due("about(0, 3) without orders", EggHouse.BAD, x -> x.about(0, 3));
    }

    // ---- 17, doubt

    private static void barnsInDoubt() {
        for (int barn = 0; barn <= 3; barn++) {
            EggHouse x = new EggHouse();
            for (int i = 0; i < 6; i++) {
                x.egg(i < 5 ? barn : 3 - barn, 50, 0, 0, 0);
                x.tick(11);
            }
            for (int asked = 0; asked <= 3; asked++) {
                int due = asked == barn || asked == 3 - barn ? 1 : 0;
                check.due("doubt(" + asked + ", true) of " + barn, x.doubt(asked, true), due);
                check.due("held", x.pack(0, 5), due);
                x.clear(0);
            }
        }
    }

    private static void doubtIsRefused() {
        atWork.outside("doubt, asked", 0, 3, EggHouse.BAD, (x, v) -> x.doubt(v, false));
        atWork.outside("doubt, held", 0, 3, EggHouse.BAD, (x, v) -> x.doubt(v, true));
    }

    private static void trayIsNotInDoubt() {
        EggHouse x = Houses.withTrayOf(5);
        check.due("by its barn", x.doubt(0, true), 0);
        check.due("by its ticks", x.hours(0, 1000, true), 0);
        x.egg(0, 50, 0, 0, 0);
        x.tick(11);
        check.due("as a pack it is not held", x.pack(0, 5), 0);
        check.due("as a pack, by its barn", x.doubt(0, false), 1);
        check.due("as a pack, by its ticks", x.hours(0, 1000, false), 1);
    }

    // ---- 18, hours

    /** Of three packs: their first ticks are 2, 3, 4, their last ones 17, 18, 19. */
    private static void hoursUpToTheFirstTick() {
        EggHouse x = Houses.withThreePacks(3);
        int[] due = {0, 0, 1, 2, 3, 3};
        for (int to = 0; to <= 5; to++) {
            check.due("hours(0, " + to + ")", x.hours(0, to, false), due[to]);
        }
        check.due("hours(0, 1, true)", x.hours(0, 1, true), 0);
        check.due("none is held", x.told(3), 0);
        check.due("hours(0, 2, true)", x.hours(0, 2, true), 1);
        check.due("pack 0 is held", x.pack(0, 5), 1);
        check.due("no other", x.told(3), 1);
    }

    private static void hoursFromTheLastTick() {
        EggHouse x = Houses.withThreePacks(3);
        int[] due = {3, 3, 2, 1, 0, 0};
        for (int i = 0; i <= 5; i++) {
            int from = 16 + i;
            check.due("hours from " + from, x.hours(from, Integer.MAX_VALUE, false), due[i]);
        }
        check.due("hours(20, 30, true)", x.hours(20, 30, true), 0);
        check.due("none is held", x.told(3), 0);
        check.due("hours(19, 30, true)", x.hours(19, 30, true), 1);
        check.due("pack 2 is held", x.pack(2, 5), 1);
        check.due("no other", x.told(3), 1);
    }

    /** A pack may have been weighed in any tick between its first and its last one. */
    private static void hoursBetweenWeighings() {
        EggHouse x = Houses.withTrayOf(6);
        check.due("first tick", x.pack(0, 2), 2);
        check.due("last tick", x.pack(0, 3), 57);
        check.due("no egg was weighed in tick 8", x.hours(8, 8, false), 1);
        check.due("none from 14 to 23", x.hours(14, 23, true), 1);
        check.due("it is held", x.pack(0, 5), 1);
    }

    private static void hoursOfOneTick() {
        EggHouse x = Houses.withThreePacks(3);
        int[] due = {0, 0, 1, 2, 3};
        for (int tick = 0; tick <= 4; tick++) {
            check.due("hours of tick " + tick, x.hours(tick, tick, false), due[tick]);
        }
        int[] dueAtLast = {3, 2, 1, 0};
        for (int i = 0; i <= 3; i++) {
            int tick = 17 + i;
            check.due("hours of tick " + tick, x.hours(tick, tick, false), dueAtLast[i]);
        }
        int farthest = Integer.MAX_VALUE;
        check.due("hours of the farthest tick", x.hours(farthest, farthest, true), 0);
        check.due("around all", x.hours(0, farthest, true), 3);
        check.due("all are held", x.told(3), 3);
    }

    private static void hoursAreRefused() {
        int[][] wrong = {
            {-1, 0}, {-1, 40}, {-1, -1}, {Integer.MIN_VALUE, 40}, {Integer.MIN_VALUE, Integer.MAX_VALUE},
            {0, -1}, {1, 0}, {10, 9}, {40, 0}, {0, Integer.MIN_VALUE}, {Integer.MAX_VALUE, Integer.MAX_VALUE - 1},
        };
        for (int[] w : wrong) {
            String call = "hours(" + w[0] + ", " + w[1] + ")";
            atWork.due(call + ", held", EggHouse.BAD, x -> x.hours(w[0], w[1], true));
            atWork.due(call + ", asked", EggHouse.BAD, x -> x.hours(w[0], w[1], false));
        }
        check.due("from 0 is taken", Houses.withThreePacks(3).hours(0, 40, false), 3);
        check.due("to of from is taken", Houses.withThreePacks(3).hours(10, 10, false), 3);
    }

    // ---- what is held

    private static void askingHoldsNone() {
        Twins packs = new Twins(check, () -> Houses.withPacks(6, 3));
        packs.due("doubt(0, false)", 2, x -> x.doubt(0, false));
        packs.due("doubt(3, true) of no pack", 0, x -> x.doubt(3, true));
        packs.due("hours(0, 100, false)", 6, x -> x.hours(0, 100, false));
        packs.due("hours(0, 1, true) of no pack", 0, x -> x.hours(0, 1, true));
    }

    private static void soldPacksAreInDoubtButNotHeld() {
        EggHouse x = Houses.withThreePacks(3);
        x.order(3, 2, 1);
        x.serve();
        check.due("by barn", x.doubt(0, true), 1);
        check.due("none is held", x.told(3), 0);
        check.due("by hours", x.hours(0, 40, true), 3);
        check.due("the free one is held", x.told(3), 1);
        check.due("pack 2", x.pack(2, 5), 1);
        check.due("two are sold", x.told(2), 2);
        check.due("held ones are in doubt, too", x.hours(0, 40, false), 3);
    }

    private static void heldPacksStayHeld() {
        Twins held = new Twins(check, PacksEdgesTest::withAllHeld);
        held.due("doubt(0, true) of held ones", 1, x -> x.doubt(0, true));
        held.due("doubt(0, false) of held ones", 1, x -> x.doubt(0, false));
        held.due("hours(0, 40, true) of held ones", 3, x -> x.hours(0, 40, true));
        held.due("hours(0, 40, false) of held ones", 3, x -> x.hours(0, 40, false));
    }

    private static EggHouse withAllHeld() {
        EggHouse x = Houses.withThreePacks(3);
        x.hours(0, 40, true);
        return x;
    }

    // ---- 19, clear

    private static void clearOfAHeldPack() {
        EggHouse x = withAllHeld();
        for (int pack = 0; pack < 3; pack++) {
            check.due("pack is held " + pack, x.pack(pack, 5), 1);
            check.due("clear(" + pack + ")", x.clear(pack), 1);
            check.due("pack is not held " + pack, x.pack(pack, 5), 0);
            check.due("held ones", x.told(3), 2 - pack);
            check.due("free ones", x.free(3), 1 + pack);
        }
        for (int pack = 0; pack < 3; pack++) {
            check.due("clear(" + pack + ") again", x.clear(pack), EggHouse.STATE);
        }
    }

    private static void clearIsRefused() {
        atWork.outside("clear", 0, 2, EggHouse.BAD, EggHouse::clear);
        atWork.due("clear of a free one", EggHouse.STATE, x -> x.clear(2));
        atWork.due("clear of a sold one", EggHouse.STATE, x -> x.clear(0));
        check.due("clear of a held one", Houses.atWork().clear(1), 1);
        Twins held = new Twins(check, PacksEdgesTest::withAllHeld);
        held.outside("clear, where all are held", 0, 2, EggHouse.BAD, EggHouse::clear);
    }

    private static void clearOfASoldPack() {
        EggHouse x = withAllHeld();
        x.clear(1);
        x.order(3, 1, 1);
        check.due("the cleared one is sold", x.serve(), 1);
        check.due("it is pack 1", x.pack(1, 4), 0);
        x.hours(0, 40, true);
        check.due("sold, it is not held", x.clear(1), EggHouse.STATE);
        check.due("and stays sold", x.pack(1, 4), 0);
    }

    private static void clearedPackIsHeldAnew() {
        EggHouse x = withAllHeld();
        x.clear(0);
        check.due("in doubt anew", x.doubt(0, true), 1);
        check.due("held anew", x.pack(0, 5), 1);
        check.due("clear(0) anew", x.clear(0), 1);
    }

    // ---- 20, told

    private static void toldIsAnswered() {
        EggHouse x = Houses.withPacks(6, 3);
        x.order(3, 1, 1);
        x.order(3, 9, 1);
        x.serve();
        x.doubt(1, true);
        x.drift(-1);
        int[] due = {6, 2, 1, 2, 60, -1};
        for (int what = 0; what <= 5; what++) {
            check.due("told(" + what + ")", x.told(what), due[what]);
        }
        check.due("60 packs at most", Houses.withPacks(60, 3).told(0), 60);
    }

    private static void toldIsRefused() {
        anew.outside("told of a new house", 0, 5, -1000, EggHouse::told);
        atWork.outside("told", 0, 5, -1000, EggHouse::told);
    }

    // ---- 21, trace

    private static void traceIsOfLooksOnly() {
        EggHouse x = new EggHouse();
        check.due("trace() at first", x.trace(), 0);
        x.egg(0, 50, 8, 4, 1);
        check.due("trace() of the queue", x.trace(), 0);
        x.tick(5);
        check.due("trace() at place 4", x.trace(), 0);
        x.tick(1);
        check.due("trace() at place 5", x.trace(), 1111);
        check.due("asked again", x.trace(), 1111);
        x.tick(40);
        check.due("trace() of an empty line", x.trace(), 1111);

        EggHouse packs = Houses.withPacks(60, 5);
        check.due("trace() of 360 eggs", packs.trace(), 360 * 1111);
        packs.order(5, 9, 1);
        packs.serve();
        packs.hours(0, 1000, true);
        check.due("orders and doubts are no looks", packs.trace(), 360 * 1111);
    }
}
