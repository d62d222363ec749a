/** The edges of a tick: what happens at each place, in which order, and when something is full. */
public final class TickEdgesTest {
    private static final Check check = new Check();

    public static void main(String[] args) {
        emptyHouseOnlyCountsTheTick();
        lastPlaceThenFloor();
        gapsGoAlong();
        firstPlaceTakesOneATick();
        scaleTellsWithTheDriftOfThatTick();
        scaleTellsTheFarthest();
        gradesHaveEnds();
        lookIsAtPlaceFiveOnly();
        crackedNeedsTwoDullTaps();
        bloodyNeedsFive();
        dirtyNeedsMoreThanOne();
        kindsAreAskedFromCrackedUp();
        takenOutLeavesAGap();
        washTakesEightTicks();
        washedEggHasNoDirt();
        washTakesThirty();
        fullWashHasRoomInTheTickAfterOneWentOut();
        washedEggComesIntoAQueueOfNineteen();
        washedEggWaitsForAFullQueue();
        washedEggWaitsAsLongAsTheQueueIsFull();
        longestInTheWashIsFirst();
        washedEggComesToTheEnd();
        washedEggOfAnEmptyQueueIsOnTheLineAtOnce();
        packersStandAtTheirPlaces();
        packerTakesNoOtherGrade();
        packerIsBusyForTwoTicksMore();
        busyTicksPassWhileOff();
        packerIsOnInTheTickThatCounts();
        packerHasItsGradeInTheTickThatCounts();
        firstPackerOfAGradeTakes();
        trayOfSixIsAPack();
        packsAreNumberedPackerByPacker();
        lastPackIsMadeByTheFirstPacker();
        sixtyPacksStopTraysOfFive();
        soldPacksMakeNoRoom();
        fiveHundredAndTwelveCalls();
        check.end();
    }

    private static void emptyHouseOnlyCountsTheTick() {
        EggHouse x = new EggHouse();
        check.due("told(4) at first", x.told(4), 0);
        check.due("tick(1)", x.tick(1), 1);
        check.due("told(4)", x.told(4), 1);
        x.tick(40);
        for (int what = 0; what <= 9; what++) {
            check.due("nothing came of it: count(" + what + ")", x.count(what), 0);
        }
        for (int packer = 0; packer <= 3; packer++) {
            check.due("nobody is busy", x.packer(packer, 3), 0);
        }
        check.due("nothing was looked at", x.trace(), 0);
    }

    // ---- (1), (2), (7): the line moves

    private static void lastPlaceThenFloor() {
        EggHouse x = new EggHouse();
        x.egg(2, 40, 0, 0, 0);
        x.egg(1, 40, 0, 0, 0);
        x.tick(15);
        check.due("egg 0 at place 14", x.at(14, 0), 0);
        check.due("nothing falls from an empty place", x.count(6), 0);
        x.tick(1);
        check.due("egg 0 at place 15", x.at(15, 0), 0);
        check.due("it does not lie on the floor yet", x.count(6), 0);
        x.tick(1);
        check.due("egg 1 at place 15", x.at(15, 0), 1);
        check.due("egg 0 lies on the floor", x.count(6), 1);
        check.due("barn 2 knows", x.barn(2, 3), 1);
        x.tick(1);
        check.due("nothing at place 15", x.at(15, 0), EggHouse.NONE);
        check.due("both lie on the floor", x.count(6), 2);
        check.due("the line is empty", x.count(2), 0);
        x.tick(1);
        check.due("two they stay", x.count(6), 2);
    }

    private static void gapsGoAlong() {
        EggHouse x = new EggHouse();
        x.egg(0, 40, 0, 0, 0);
        x.tick(3);
        x.egg(0, 40, 0, 0, 0);
        for (int place = 0; place <= 12; place++) {
            x.tick(1);
            check.due("egg 1", x.at(place, 0), 1);
            check.due("a gap of two", x.at(place + 1, 0), EggHouse.NONE);
            check.due("a gap of two", x.at(place + 2, 0), EggHouse.NONE);
            check.due("egg 0", x.at(place + 3, 0), 0);
        }
    }

    private static void firstPlaceTakesOneATick() {
        EggHouse x = new EggHouse();
        Houses.soundEggs(x, 3, 0, 40);
        check.due("an egg waits for a tick", x.at(0, 0), EggHouse.NONE);
        for (int number = 0; number < 3; number++) {
            x.tick(1);
            check.due("the queue's first one", x.at(0, 0), number);
            check.due("the queue", x.count(1), 2 - number);
        }
        x.tick(1);
        check.due("the queue is empty", x.at(0, 0), EggHouse.NONE);
        check.due("three on the line", x.count(2), 3);
    }

    // ---- (3): the scale

    private static void scaleTellsWithTheDriftOfThatTick() {
        EggHouse x = new EggHouse();
        x.egg(0, 50, 0, 0, 0);
        x.drift(-9);
        x.tick(2);
        x.drift(7);
        x.tick(1);
        check.due("the drift of the tick in which it comes to place 2", x.at(2, 3), 57);
        x.drift(1);
        check.due("not a later one", x.at(2, 3), 57);
        x.tick(1);
        check.due("nor that of place 3", x.at(3, 3), 57);
        check.due("its weight is as it was", x.at(3, 2), 50);
    }

    private static void scaleTellsTheFarthest() {
        check.due("90 and 9", weighed(90, 9).at(2, 3), 99);
        check.due("grade of 99", weighed(90, 9).at(2, 4), 5);
        check.due("30 and -9", weighed(30, -9).at(2, 3), 21);
        check.due("grade of 21", weighed(30, -9).at(2, 4), 0);
    }

    private static void gradesHaveEnds() {
        int[] firstOfGrade = {21, 43, 48, 53, 58, 63, 100};
        for (int grade = 0; grade <= 5; grade++) {
            for (int told = firstOfGrade[grade]; told < firstOfGrade[grade + 1]; told++) {
                int drift = told < 39 ? -9 : told > 81 ? 9 : told % 10 - 5;
                EggHouse x = weighed(told - drift, drift);
                check.due("the scale tells " + told, x.at(2, 3), told);
                check.due("grade of " + told, x.at(2, 4), grade);
            }
        }
    }

    private static EggHouse weighed(int weight, int drift) {
        EggHouse x = new EggHouse();
        x.drift(drift);
        check.due("egg of weight " + weight, x.egg(0, weight, 0, 0, 0), 0);
        x.tick(3);
        return x;
    }

    // ---- (4): the look

    private static void lookIsAtPlaceFiveOnly() {
        EggHouse x = new EggHouse();
        x.egg(0, 40, 15, 9, 3);
        x.egg(0, 40, 0, 0, 0);
        x.tick(5);
        check.due("a cracked one at place 4", x.at(4, 0), 0);
        check.due("not looked at", x.trace(), 0);
        x.tick(1);
        check.due("broken at place 5", x.count(5), 1);
        check.due("looked at", x.trace(), 1000);
        x.tick(1);
        check.due("a sound one is looked at", x.trace(), 2111);
        check.due("and goes on", x.at(5, 0), 1);
        x.tick(11);
        check.due("once", x.trace(), 2111);
        check.due("on the floor", x.count(6), 1);
    }

    private static void crackedNeedsTwoDullTaps() {
        int[] one = {0, 1, 2, 4, 8};
        int[] two = {3, 5, 6, 9, 10, 12, 7, 11, 13, 14, 15};
        for (int taps : one) {
            check.due("broken with taps " + taps, looked(taps, 0, 0).count(5), 0);
            check.due("on the line with taps " + taps, looked(taps, 0, 0).count(2), 1);
        }
        for (int taps : two) {
            check.due("broken with taps " + taps, looked(taps, 0, 0).count(5), 1);
            check.due("on the line with taps " + taps, looked(taps, 0, 0).count(2), 0);
        }
    }

    private static void bloodyNeedsFive() {
        for (int blood = 0; blood <= 9; blood++) {
            check.due("aside with blood " + blood, looked(0, blood, 0).count(4), blood < 5 ? 0 : 1);
            check.due("on the line with blood " + blood, looked(0, blood, 0).count(2), blood < 5 ? 1 : 0);
        }
    }

    private static void dirtyNeedsMoreThanOne() {
        for (int dirt = 0; dirt <= 3; dirt++) {
            check.due("in the wash with dirt " + dirt, looked(0, 0, dirt).count(3), dirt < 2 ? 0 : 1);
            check.due("washed ever with dirt " + dirt, looked(0, 0, dirt).count(9), dirt < 2 ? 0 : 1);
            check.due("on the line with dirt " + dirt, looked(0, 0, dirt).count(2), dirt < 2 ? 1 : 0);
        }
    }

    private static void kindsAreAskedFromCrackedUp() {
        int[] traceDue = {1111, 1110, 1100, 1000};
        int[] countAsked = {2, 3, 4, 5};
        for (int all = 0; all < 16 * 10 * 4; all++) {
            int taps = all % 16;
            int blood = all / 16 % 10;
            int dirt = all / 160;
            int kind = Integer.bitCount(taps) >= 2 ? 3 : blood >= 5 ? 2 : dirt > 1 ? 1 : 0;
            EggHouse x = looked(taps, blood, dirt);
            String egg = "egg of " + taps + ", " + blood + ", " + dirt;
            check.due(egg + ": trace()", x.trace(), traceDue[kind]);
            for (int k = 0; k <= 3; k++) {
                check.due(egg + ": count(" + countAsked[k] + ")", x.count(countAsked[k]), k == kind ? 1 : 0);
            }
        }
    }

    private static EggHouse looked(int taps, int blood, int dirt) {
        EggHouse x = new EggHouse();
        x.egg(0, 40, taps, blood, dirt);
        x.tick(6);
        return x;
    }

    private static void takenOutLeavesAGap() {
        EggHouse x = new EggHouse();
        x.egg(0, 40, 0, 0, 0);
        x.egg(0, 40, 15, 0, 0);
        x.egg(0, 40, 0, 0, 0);
        x.tick(8);
        check.due("egg 0", x.at(7, 0), 0);
        check.due("egg 1 was broken", x.at(6, 0), EggHouse.NONE);
        check.due("egg 2", x.at(5, 0), 2);
    }

    // ---- (4), (6): the wash

    private static void washTakesEightTicks() {
        EggHouse x = new EggHouse();
        x.egg(1, 60, 0, 0, 2);
        x.tick(5);
        check.due("not in the wash at place 4", x.count(3), 0);
        x.tick(1);
        check.due("into the wash at place 5", x.count(3), 1);
        x.tick(7);
        check.due("in the wash 7 ticks later", x.count(3), 1);
        x.tick(1);
        check.due("out of it 8 ticks later", x.count(3), 0);
    }

    private static void washedEggHasNoDirt() {
        EggHouse x = new EggHouse();
        x.egg(1, 60, 0, 0, 3);
        x.tick(19);
        check.due("it goes on at its second look", x.at(5, 0), 0);
        check.due("where it is asked as a sound one", x.trace(), 1110 + 1111);
        check.due("it was washed once", x.count(9), 1);
        check.due("it is not in the wash", x.count(3), 0);
    }

    private static void washTakesThirty() {
        EggHouse x = Houses.withFullQueueFor(34);
        check.due("29 in the wash", x.count(3), 29);
        x.egg(1, 60, 0, 0, 3);
        x.tick(1);
        check.due("the last that is taken", x.count(3), 30);
        check.due("none is aside", x.count(4), 0);
        x.egg(2, 60, 0, 0, 3);
        x.tick(1);
        check.due("30 at most", x.count(3), 30);
        check.due("the next goes aside", x.count(4), 1);
        check.due("egg 30 is of barn 2", x.barn(2, 1), 1);
        check.due("it was not washed", x.count(9), 30);
        check.due("it is not at place 5", x.at(5, 0), EggHouse.NONE);
        check.due("all were asked as dirty ones", x.trace(), 31 * 1110);
    }

    private static void fullWashHasRoomInTheTickAfterOneWentOut() {
        EggHouse x = Houses.withFullQueueFor(35);
        x.tick(1);
        check.due("the look comes first: egg 30 finds the wash full", x.count(4), 1);
        check.due("then egg 0 comes out", x.count(3), 29);
        x.tick(1);
        check.due("egg 31 finds room", x.count(4), 1);
        check.due("it is in the wash", x.count(9), 31);
        check.due("and egg 1 is out", x.count(3), 29);
    }

    /** One egg in the wash that is due to come out in the next tick, and so many in the queue. */
    private static EggHouse withOneDueAndQueueOf(int n) {
        EggHouse x = new EggHouse();
        x.egg(3, 60, 0, 0, 2);
        x.tick(13);
        Houses.soundEggs(x, n, 0, 60);
        check.due("the queue", x.count(1), n);
        return x;
    }

    private static void washedEggComesIntoAQueueOfNineteen() {
        EggHouse x = withOneDueAndQueueOf(19);
        x.tick(1);
        check.due("it came", x.count(3), 0);
        check.due("the queue has given one", x.count(1), 19);
        x.tick(18);
        check.due("19 came before it", x.at(0, 0), 19);
        x.tick(1);
        check.due("it was at the end", x.at(0, 0), 0);
    }

    private static void washedEggWaitsForAFullQueue() {
        EggHouse x = withOneDueAndQueueOf(20);
        x.tick(1);
        check.due("the queue is full at (6), though (7) makes room", x.count(3), 1);
        check.due("the queue has given one", x.count(1), 19);
        x.tick(1);
        check.due("a tick later it came", x.count(3), 0);
        check.due("the queue has taken one and given one", x.count(1), 19);
    }

    private static void washedEggWaitsAsLongAsTheQueueIsFull() {
        EggHouse x = withOneDueAndQueueOf(20);
        for (int i = 0; i < 12; i++) {
            x.tick(1);
            check.due("it waits", x.count(3), 1);
            check.due("an egg from outside is ahead of it", x.egg(0, 60, 0, 0, 0), 21 + i);
        }
        x.tick(1);
        check.due("it waits for the full queue once more", x.count(3), 1);
        x.tick(1);
        check.due("it came when there was room", x.count(3), 0);
        check.due("washed once", x.count(9), 1);
    }

    private static void longestInTheWashIsFirst() {
        EggHouse x = Houses.withFullQueueFor(20);
        check.due("none came out into the full queue", x.count(3), 15);
        x.tick(19);
        check.due("the last of those that came before", x.at(0, 0), 38);
        for (int number = 0; number < 15; number++) {
            x.tick(1);
            check.due("in the order in which they were washed", x.at(0, 0), number);
        }
    }

    private static void washedEggComesToTheEnd() {
        EggHouse x = withOneDueAndQueueOf(1);
        x.tick(1);
        check.due("the one in the queue is ahead", x.at(0, 0), 1);
        check.due("it is in the queue", x.count(1), 1);
        x.egg(0, 60, 0, 0, 0);
        x.tick(1);
        check.due("then it goes", x.at(0, 0), 0);
        x.tick(1);
        check.due("a later one is behind", x.at(0, 0), 2);
    }

    private static void washedEggOfAnEmptyQueueIsOnTheLineAtOnce() {
        EggHouse x = withOneDueAndQueueOf(0);
        x.tick(1);
        check.due("it takes place 0 in the tick in which it comes", x.at(0, 0), 0);
        check.due("the queue is empty", x.count(1), 0);
    }

    // ---- (5): the packers

    private static void packersStandAtTheirPlaces() {
        for (int packer = 0; packer <= 3; packer++) {
            int place = 8 + 2 * packer;
            EggHouse x = new EggHouse();
            x.egg(1, Houses.WEIGHT_OF_GRADE[2 + packer], 0, 0, 0);
            x.tick(place);
            check.due("a place ahead of packer " + packer, x.at(place - 1, 0), 0);
            check.due("nothing in trays", x.count(7), 0);
            x.tick(1);
            check.due("taken from place " + place, x.at(place, 0), EggHouse.NONE);
            check.due("into the tray of packer " + packer, x.packer(packer, 2), 1);
        }
    }

    private static void packerTakesNoOtherGrade() {
        for (int packerGrade = 0; packerGrade <= 5; packerGrade++) {
            for (int eggGrade = 0; eggGrade <= 5; eggGrade++) {
                EggHouse x = new EggHouse();
                Houses.allPackersTo(x, packerGrade);
                x.egg(0, Houses.WEIGHT_OF_GRADE[eggGrade], 0, 0, 0);
                x.tick(17);
                check.due("kept by " + packerGrade + " of " + eggGrade, x.count(7), packerGrade == eggGrade ? 1 : 0);
                check.due("floor of " + eggGrade, x.count(6), packerGrade == eggGrade ? 0 : 1);
            }
        }
    }

    private static void packerIsBusyForTwoTicksMore() {
        EggHouse x = new EggHouse();
        Houses.soundEggs(x, 4, 1, 50);
        x.tick(8);
        check.due("not busy", x.packer(0, 3), 0);
        int[] inTray = {1, 1, 1, 2};
        int[] busy = {2, 1, 0, 2};
        int[] at8 = {EggHouse.NONE, 1, 2, EggHouse.NONE};
        for (int i = 0; i < 4; i++) {
            x.tick(1);
            check.due("eggs in the tray, tick " + i, x.packer(0, 2), inTray[i]);
            check.due("ticks busy yet, tick " + i, x.packer(0, 3), busy[i]);
            check.due("left at place 8, tick " + i, x.at(8, 0), at8[i]);
        }
        x.tick(2);
        check.due("busy no more", x.packer(0, 3), 0);
        x.tick(1);
        check.due("nor below 0", x.packer(0, 3), 0);
    }

    private static void busyTicksPassWhileOff() {
        EggHouse x = new EggHouse();
        x.egg(0, 50, 0, 0, 0);
        x.tick(9);
        x.on(0, false);
        x.tick(1);
        check.due("one tick more while off", x.packer(0, 3), 1);
        x.tick(1);
        check.due("no tick more while off", x.packer(0, 3), 0);
        x.tick(1);
        check.due("it stays there", x.packer(0, 3), 0);
    }

    private static void packerIsOnInTheTickThatCounts() {
        EggHouse onInTime = aheadOfPackerZero();
        onInTime.on(0, false);
        onInTime.on(0, true);
        onInTime.tick(1);
        check.due("on in time", onInTime.packer(0, 2), 1);

        EggHouse offInTime = aheadOfPackerZero();
        offInTime.on(0, false);
        offInTime.tick(1);
        check.due("off in time", offInTime.packer(0, 2), 0);
        check.due("the egg is there", offInTime.at(8, 0), 0);
        check.due("the packer is not busy", offInTime.packer(0, 3), 0);
        offInTime.on(0, true);
        offInTime.tick(1);
        check.due("on too late", offInTime.packer(0, 2), 0);
        check.due("the egg went on", offInTime.at(9, 0), 0);

        EggHouse offTooLate = aheadOfPackerZero();
        offTooLate.tick(1);
        offTooLate.on(0, false);
        check.due("off too late", offTooLate.packer(0, 2), 1);
    }

    private static void packerHasItsGradeInTheTickThatCounts() {
        EggHouse inTime = aheadOfPackerZero();
        inTime.grade(0, 3);
        inTime.tick(1);
        check.due("another grade in time", inTime.packer(0, 2), 0);
        inTime.grade(0, 2);
        inTime.tick(1);
        check.due("its grade too late", inTime.packer(0, 2), 0);
        inTime.grade(1, 2);
        inTime.tick(1);
        check.due("the next packer's in time", inTime.packer(1, 2), 1);
    }

    /** An egg of grade 2 that comes to packer 0 in the next tick. */
    private static EggHouse aheadOfPackerZero() {
        EggHouse x = new EggHouse();
        x.egg(0, 50, 0, 0, 0);
        x.tick(8);
        return x;
    }

    private static void firstPackerOfAGradeTakes() {
        EggHouse x = new EggHouse();
        Houses.allPackersTo(x, 2);
        Houses.soundEggs(x, 4, 0, 50);
        x.tick(17);
        int[] due = {2, 1, 1, 0};
        for (int packer = 0; packer <= 3; packer++) {
            check.due("tray of packer " + packer, x.packer(packer, 2), due[packer]);
        }
    }

    // ---- trays and packs

    private static void trayOfSixIsAPack() {
        EggHouse five = Houses.withTrayOf(5);
        check.due("5 are no pack", five.told(0), 0);
        check.due("5 in trays", five.count(7), 5);
        check.due("none in packs", five.count(8), 0);
        five.egg(3, 52, 0, 0, 0);
        five.tick(8);
        check.due("no pack a tick before", five.told(0), 0);
        five.tick(1);
        check.due("6 are a pack", five.told(0), 1);
        check.due("none in trays", five.count(7), 0);
        check.due("6 in packs", five.count(8), 6);
        check.due("the tray is empty", five.packer(0, 2), 0);
        check.due("it has no barns", five.packer(0, 4), 0);
        check.due("the packer is busy all the same", five.packer(0, 3), 2);
        five.egg(2, 50, 0, 0, 0);
        five.tick(9);
        check.due("a new tray", five.packer(0, 2), 1);
        check.due("with barns of its own", five.packer(0, 4), 4);
        check.due("the pack has its six yet", five.pack(0, 6), 5 * 50 + 52);
    }

    /**
     * Packs made by packers 0 .. 2 and then by 0 (grade 2) and 1 (grade 3), with a tray of five at both, the sixth
     * eggs of which come in the same tick, the next one.
     */
    private static EggHouse withTwoTraysDue(int packs) {
        int threes = packs / 3;
        EggHouse x = Houses.withPacks(3 * threes, 5);
        x.grade(0, 2);
        x.grade(1, 3);
        int more = packs - 3 * threes;
        toPackers(x, more > 0 ? 11 : 5, more > 1 ? 11 : 5);
        check.due("packs", x.told(0), packs);
        check.due("tray of packer 0", x.packer(0, 2), 5);
        check.due("tray of packer 1", x.packer(1, 2), 5);
        x.egg(1, 55, 0, 0, 0);
        x.egg(0, 50, 15, 0, 0);
        x.egg(0, 50, 0, 0, 0);
        x.tick(10);
        check.due("a sixth one ahead of packer 0", x.at(7, 4), 2);
        check.due("a sixth one ahead of packer 1", x.at(9, 4), 3);
        return x;
    }

    /** So many eggs for packer 0 and so many for packer 1, slow enough that each finds its packer free. */
    private static void toPackers(EggHouse x, int first, int second) {
        for (int i = 0; i < Math.max(first, second); i++) {
            if (i < first) {
                x.egg(0, 50, 0, 0, 0);
            }
            if (i < second) {
                x.egg(1, 55, 0, 0, 0);
            }
            x.tick(3);
        }
        x.tick(20);
    }

    private static void packsAreNumberedPackerByPacker() {
        EggHouse x = withTwoTraysDue(58);
        x.tick(1);
        check.due("two packs in one tick", x.told(0), 60);
        check.due("packer 0 has the lower number", x.pack(58, 0), 2);
        check.due("packer 1 the next", x.pack(59, 0), 3);
        check.due("pack 59 is the last", x.pack(60, 0), EggHouse.BAD);
    }

    private static void lastPackIsMadeByTheFirstPacker() {
        EggHouse x = withTwoTraysDue(59);
        x.tick(1);
        check.due("60 packs", x.told(0), 60);
        check.due("of packer 0", x.pack(59, 0), 2);
        check.due("its tray is empty", x.packer(0, 2), 0);
        check.due("packer 1 has a tray of five", x.packer(1, 2), 5);
        check.due("and is not busy", x.packer(1, 3), 0);
        check.due("its sixth egg stays on the line", x.at(10, 4), 3);
        check.due("360 in packs", x.count(8), 360);
        x.tick(6);
        check.due("and goes to the floor", x.count(6), 1);
        check.due("packer 0 may have another grade", x.grade(0, 4), 2);
        check.due("packer 1 may not", x.grade(1, 4), EggHouse.STATE);
    }

    private static void sixtyPacksStopTraysOfFive() {
        EggHouse x = Houses.withPacks(60, 2);
        check.due("60 packs", x.told(0), 60);
        check.due("the last", x.pack(59, 0), 2);
        for (int eggs = 1; eggs <= 5; eggs++) {
            x.egg(0, 50, 0, 0, 0);
            x.tick(9);
            check.due("a tray of less than five takes one more", x.packer(0, 2), eggs);
        }
        x.tick(2);
        x.egg(0, 50, 0, 0, 0);
        x.tick(9);
        check.due("a tray of five takes none", x.packer(0, 2), 5);
        check.due("it is not busy", x.packer(0, 3), 0);
        check.due("the egg stays on the line", x.count(2), 1);
        x.tick(2);
        check.due("the next packer takes it", x.packer(1, 2), 1);
        check.due("60 packs yet", x.told(0), 60);
        check.due("6 in trays", x.count(7), 6);
    }

    private static void soldPacksMakeNoRoom() {
        EggHouse x = Houses.withPacks(60, 2);
        x.order(2, 9, 1000);
        check.due("9 are sold", x.serve(), 9);
        x.on(1, false);
        x.on(2, false);
        x.on(3, false);
        for (int i = 0; i < 6; i++) {
            x.egg(0, 50, 0, 0, 0);
            x.tick(11);
        }
        check.due("60 packs yet", x.told(0), 60);
        check.due("a tray of five", x.packer(0, 2), 5);
    }

    // ---- the calls of one object

    private static void fiveHundredAndTwelveCalls() {
        EggHouse x = new EggHouse();
        for (int i = 0; i < 511; i++) {
            check.due("tick(40)", x.tick(40), 40 * (i + 1));
        }
        check.due("the 512th call", x.told(4), 20440);

        EggHouse eggs = new EggHouse();
        for (int i = 0; i < 256; i++) {
            check.due("egg", eggs.egg(i % 4, 40, 0, 0, 0), i);
            if (i < 255) {
                eggs.tick(40);
            }
        }
        check.due("the 512th call of another", eggs.trace(), 255 * 1111);
    }
}
