import java.util.ArrayList;

/** A line of cups, its packers, and the packs and orders that come of it. */
public final class EggHouse {
    public static final int BAD = -1, STATE = -2, FULL = -3, NONE = -9;

    /** BAD for answers that may well be -1 themselves. */
    private static final int BAD_DRIFT = -1000;

    private static final int BARNS = 4;
    private static final int GRADES = 6;
    private static final int PLACES = 16;
    private static final int SCALE_PLACE = 2;
    private static final int LAMP_PLACE = 5;
    private static final int PACKERS = 4;
    private static final int FIRST_PACKER_PLACE = 8;
    private static final int PLACES_BETWEEN_PACKERS = 2;
    private static final int FIRST_PACKER_GRADE = 2;

    private static final int QUEUE_ROOM = 20;
    private static final int WASH_ROOM = 30;
    private static final int TRAY_ROOM = 6;
    private static final int PACK_ROOM = 60;
    private static final int ORDER_ROOM = 6;

    private static final int WASH_TICKS = 8;
    private static final int BUSY_TICKS = 2;
    private static final int MOST_TICKS = 40;
    private static final int MOST_DRIFT = 9;

    /** A grade ends below its number here; the last grade has no end. */
    private static final int[] GRADE_ENDS = {43, 48, 53, 58, 63};

    /** Where a look sends an egg. */
    private static final int GO_ON = 0, GO_WASH = 1, GO_ASIDE = 2, GO_BROKEN = 3;

    /** What is counted barn by barn, by the numbers that barn() is asked with. */
    private static final int CAME = 0, ASIDE = 1, BROKEN = 2, FLOOR = 3, KEPT = 4;
    private static final int BARN_COUNTS = 5;

    private final ArrayList<Egg> queue = new ArrayList<>();
    private final ArrayList<Egg> wash = new ArrayList<>();
    private final Egg[] line = new Egg[PLACES];
    private final Packer[] packers = new Packer[PACKERS];
    private final ArrayList<Pack> packs = new ArrayList<>();
    private final ArrayList<Order> orders = new ArrayList<>();
    private final int[][] byBarn = new int[BARNS][BARN_COUNTS];
    private int tickNumber;
    private int driftNow;
    private int washedEver;
    private long traceSum;

    public EggHouse() {
        for (int i = 0; i < PACKERS; i++) {
            packers[i] = new Packer(FIRST_PACKER_PLACE + i * PLACES_BETWEEN_PACKERS, FIRST_PACKER_GRADE + i);
        }
    }

    // ---- the line

    public int egg(int barn, int weight, int taps, int blood, int dirt) {
        if (!isBarn(barn) || !isWithin(weight, 30, 90) || !isWithin(taps, 0, 15)) {
            return BAD;
        }
        if (!isWithin(blood, 0, 9) || !isWithin(dirt, 0, 3)) {
            return BAD;
        }
        if (queue.size() >= QUEUE_ROOM) {
            return FULL;
        }
        int number = ofAllBarns(CAME);
        queue.add(new Egg(number, barn, weight, taps, blood, dirt));
        byBarn[barn][CAME]++;
        return number;
    }

    public int tick(int n) {
        if (!isWithin(n, 1, MOST_TICKS)) {
            return BAD;
        }
        for (int i = 0; i < n; i++) {
            passOneTick();
        }
        return tickNumber;
    }

    public int drift(int v) {
        if (!isWithin(v, -MOST_DRIFT, MOST_DRIFT)) {
            return BAD_DRIFT;
        }
        int was = driftNow;
        driftNow = v;
        return was;
    }

    public int grade(int packer, int v) {
        if (!isPacker(packer) || !isGrade(v)) {
            return BAD;
        }
        Packer asked = packers[packer];
        if (asked.tray.eggs > 0) {
            return STATE;
        }
        int was = asked.grade;
        asked.grade = v;
        return was;
    }

    public int on(int packer, boolean is) {
        if (!isPacker(packer)) {
            return BAD;
        }
        Packer asked = packers[packer];
        int was = asNumber(asked.isOn);
        asked.isOn = is;
        return was;
    }

    public int at(int place, int what) {
        if (!isWithin(place, 0, PLACES - 1) || !isWithin(what, 0, 4)) {
            return BAD;
        }
        Egg egg = line[place];
        if (egg == null) {
            return NONE;
        }
        // An egg that was washed has been weighed before, but that no longer counts.
        boolean weighed = place >= SCALE_PLACE;
        switch (what) {
            case 0: return egg.number;
            case 1: return egg.barn;
            case 2: return egg.weight;
            case 3: return weighed ? egg.scaleTold : 0;
            default: return weighed ? gradeOf(egg.scaleTold) : NONE;
        }
    }

    public int packer(int packer, int what) {
        if (!isPacker(packer)) {
            return BAD;
        }
        Packer asked = packers[packer];
        switch (what) {
            case 0: return asked.grade;
            case 1: return asNumber(asked.isOn);
            case 2: return asked.tray.eggs;
            case 3: return asked.busy;
            case 4: return asked.tray.barns;
            default: return BAD;
        }
    }

    public int count(int what) {
        switch (what) {
            case 0: return ofAllBarns(CAME);
            case 1: return queue.size();
            case 2: return eggsOnLine();
            case 3: return wash.size();
            case 4: return ofAllBarns(ASIDE);
            case 5: return ofAllBarns(BROKEN);
            case 6: return ofAllBarns(FLOOR);
            case 7: return eggsInTrays();
            case 8: return packs.size() * TRAY_ROOM;
            case 9: return washedEver;
            default: return BAD;
        }
    }

    public int barn(int barn, int what) {
        if (!isBarn(barn) || !isWithin(what, 0, BARN_COUNTS - 1)) {
            return BAD;
        }
        return byBarn[barn][what];
    }

    // ---- packs, orders

    public int pack(int pack, int what) {
        if (!isPack(pack)) {
            return BAD;
        }
        Pack asked = packs.get(pack);
        switch (what) {
            case 0: return asked.grade;
            case 1: return asked.barns;
            case 2: return asked.firstTick;
            case 3: return asked.lastTick;
            case 4: return asked.soldTo;
            case 5: return asNumber(asked.held);
            case 6: return asked.weights;
            case 7: return asked.scaleTolds;
            default: return BAD;
        }
    }

    public int free(int grade) {
        if (!isGrade(grade)) {
            return BAD;
        }
        int found = 0;
        for (int i = 0; i < packs.size(); i++) {
            if (packs.get(i).isFreeOf(grade)) {
                found++;
            }
        }
        return found;
    }

    public int order(int grade, int n, int worth) {
        if (!isGrade(grade) || !isWithin(n, 1, 9) || !isWithin(worth, 1, 1000)) {
            return BAD;
        }
        if (orders.size() >= ORDER_ROOM) {
            return FULL;
        }
        orders.add(new Order(grade, n, worth));
        return orders.size() - 1;
    }

    public int best(int what) {
        switch (what) {
            case 0: return bestSet();
            case 1: return worthOf(bestSet());
            default: return BAD;
        }
    }

    public int serve() {
        int set = bestSet();
        int sold = 0;
        for (int i = 0; i < orders.size(); i++) {
            if (hasBit(set, i)) {
                sold += sellTo(i);
            }
        }
        return sold;
    }

    public int about(int order, int what) {
        if (!isWithin(order, 0, orders.size() - 1)) {
            return BAD;
        }
        Order asked = orders.get(order);
        switch (what) {
            case 0: return asked.grade;
            case 1: return asked.wanted;
            case 2: return asked.worth;
            case 3: return asNumber(asked.served);
            default: return BAD;
        }
    }

    public int doubt(int barn, boolean hold) {
        if (!isBarn(barn)) {
            return BAD;
        }
        int found = 0;
        for (int i = 0; i < packs.size(); i++) {
            Pack pack = packs.get(i);
            if (hasBit(pack.barns, barn)) {
                found++;
                pack.holdIf(hold);
            }
        }
        return found;
    }

    public int hours(int from, int to, boolean hold) {
        if (from < 0 || to < from) {
            return BAD;
        }
        int found = 0;
        for (int i = 0; i < packs.size(); i++) {
            Pack pack = packs.get(i);
            if (pack.firstTick <= to && pack.lastTick >= from) {
                found++;
                pack.holdIf(hold);
            }
        }
        return found;
    }

    public int clear(int pack) {
        if (!isPack(pack)) {
            return BAD;
        }
        Pack asked = packs.get(pack);
        if (!asked.held) {
            return STATE;
        }
        asked.held = false;
        return 1;
    }

    public int told(int what) {
        switch (what) {
            case 0: return packs.size();
            case 1: return orders.size();
            case 2: return packsSold();
            case 3: return packsHeld();
            case 4: return tickNumber;
            case 5: return driftNow;
            default: return BAD_DRIFT;
        }
    }

    public long trace() {
        return traceSum;
    }

    // ---- a tick

    private void passOneTick() {
        moveLine();
        weigh();
        look();
        for (int i = 0; i < PACKERS; i++) {
            letTake(packers[i]);
        }
        bringWashed();
        feedLine();
        tickNumber++;
    }

    private void moveLine() {
        Egg last = line[PLACES - 1];
        if (last != null) {
            byBarn[last.barn][FLOOR]++;
        }
        for (int place = PLACES - 1; place > 0; place--) {
            line[place] = line[place - 1];
        }
        line[0] = null;
    }

    private void weigh() {
        Egg egg = line[SCALE_PLACE];
        if (egg != null) {
            egg.scaleTold = egg.weight + driftNow;
            egg.weighedAt = tickNumber;
        }
    }

    private void look() {
        Egg egg = line[LAMP_PLACE];
        if (egg == null) {
            return;
        }
        int goes = askCracked(egg);
        if (goes == GO_ON) {
            return;
        }
        line[LAMP_PLACE] = null;
        if (goes == GO_BROKEN) {
            byBarn[egg.barn][BROKEN]++;
        } else if (goes == GO_WASH && wash.size() < WASH_ROOM) {
            startWash(egg);
        } else {
            byBarn[egg.barn][ASIDE]++;
        }
    }

    private int askCracked(Egg egg) {
        traceSum += 1000;
        return Integer.bitCount(egg.taps) >= 2 ? GO_BROKEN : askBloody(egg);
    }

    private int askBloody(Egg egg) {
        traceSum += 100;
        return egg.blood >= 5 ? GO_ASIDE : askDirty(egg);
    }

    private int askDirty(Egg egg) {
        traceSum += 10;
        return egg.dirt > 1 ? GO_WASH : askSound();
    }

    private int askSound() {
        traceSum += 1;
        return GO_ON;
    }

    private void startWash(Egg egg) {
        egg.dirt = 0;
        egg.washedAt = tickNumber;
        wash.add(egg);
        washedEver++;
    }

    private void letTake(Packer packer) {
        if (packer.busy > 0) {
            packer.busy--;
            return;
        }
        Egg egg = line[packer.place];
        if (egg == null || !takes(packer, egg)) {
            return;
        }
        line[packer.place] = null;
        packer.tray.lay(egg);
        packer.busy = BUSY_TICKS;
        byBarn[egg.barn][KEPT]++;
        if (packer.tray.eggs >= TRAY_ROOM) {
            closeTray(packer);
        }
    }

    private boolean takes(Packer packer, Egg egg) {
        // The last egg of a tray makes a pack, so it needs room for one.
        boolean hasRoom = packer.tray.eggs < TRAY_ROOM - 1 || packs.size() < PACK_ROOM;
        return packer.isOn && hasRoom && gradeOf(egg.scaleTold) == packer.grade;
    }

    private void closeTray(Packer packer) {
        packer.tray.grade = packer.grade;
        packs.add(packer.tray);
        packer.tray = new Pack();
    }

    private void bringWashed() {
        // The wash is in the order of coming, so the first that is not due ends it.
        for (int i = 0; i < WASH_ROOM; i++) {
            if (wash.isEmpty() || queue.size() >= QUEUE_ROOM) {
                return;
            }
            if (tickNumber - wash.get(0).washedAt < WASH_TICKS) {
                return;
            }
            queue.add(wash.remove(0));
        }
    }

    private void feedLine() {
        if (line[0] == null && !queue.isEmpty()) {
            line[0] = queue.remove(0);
        }
    }

    // ---- which orders are served

    private int bestSet() {
        int[] freePacks = freeByGrade();
        int best = 0;
        int bestWorth = 0;
        int sets = 1 << orders.size();
        // Sets go upwards and only a greater worth wins: of equals the least stays.
        for (int set = 1; set < sets; set++) {
            int worth = worthOf(set);
            if (worth > bestWorth && canServe(set, freePacks)) {
                best = set;
                bestWorth = worth;
            }
        }
        return best;
    }

    private int[] freeByGrade() {
        int[] freePacks = new int[GRADES];
        for (int grade = 0; grade < GRADES; grade++) {
            freePacks[grade] = free(grade);
        }
        return freePacks;
    }

    private int worthOf(int set) {
        int worth = 0;
        for (int i = 0; i < orders.size(); i++) {
            if (hasBit(set, i)) {
                worth += orders.get(i).worth;
            }
        }
        return worth;
    }

    private boolean canServe(int set, int[] freePacks) {
        for (int i = 0; i < orders.size(); i++) {
            if (hasBit(set, i) && orders.get(i).served) {
                return false;
            }
        }
        for (int grade = 0; grade < freePacks.length; grade++) {
            if (wantedOf(set, grade) > freePacks[grade]) {
                return false;
            }
        }
        return true;
    }

    private int wantedOf(int set, int grade) {
        int wanted = 0;
        for (int i = 0; i < orders.size(); i++) {
            Order order = orders.get(i);
            if (hasBit(set, i) && order.grade == grade) {
                wanted += order.wanted;
            }
        }
        return wanted;
    }

    /** The order's number must be one of an order; how many packs it took. */
    private int sellTo(int number) {
        Order order = orders.get(number);
        int sold = 0;
        for (int i = 0; i < packs.size() && sold < order.wanted; i++) {
            Pack pack = packs.get(i);
            if (pack.isFreeOf(order.grade)) {
                pack.soldTo = number;
                sold++;
            }
        }
        order.served = true;
        return sold;
    }

    // ---- counts

    private int ofAllBarns(int what) {
        int sum = 0;
        for (int barn = 0; barn < BARNS; barn++) {
            sum += byBarn[barn][what];
        }
        return sum;
    }

    private int eggsOnLine() {
        int found = 0;
        for (int place = 0; place < PLACES; place++) {
            if (line[place] != null) {
                found++;
            }
        }
        return found;
    }

    private int eggsInTrays() {
        int sum = 0;
        for (int i = 0; i < PACKERS; i++) {
            sum += packers[i].tray.eggs;
        }
        return sum;
    }

    private int packsSold() {
        int found = 0;
        for (int i = 0; i < packs.size(); i++) {
            if (packs.get(i).soldTo != NONE) {
                found++;
            }
        }
        return found;
    }

    private int packsHeld() {
        int found = 0;
        for (int i = 0; i < packs.size(); i++) {
            if (packs.get(i).held) {
                found++;
            }
        }
        return found;
    }

    // ---- what numbers may be

    private static boolean isWithin(int v, int least, int most) {
        return v >= least && v <= most;
    }

    private static boolean isBarn(int v) {
        return isWithin(v, 0, BARNS - 1);
    }

    private static boolean isGrade(int v) {
        return isWithin(v, 0, GRADES - 1);
    }

    private static boolean isPacker(int v) {
        return isWithin(v, 0, PACKERS - 1);
    }

    private boolean isPack(int v) {
        return isWithin(v, 0, packs.size() - 1);
    }

    private static boolean hasBit(int bits, int i) {
        return (bits >> i & 1) == 1;
    }

    private static int asNumber(boolean is) {
        return is ? 1 : 0;
    }

    private static int gradeOf(int scaleTold) {
        int grade = 0;
        while (grade < GRADE_ENDS.length && scaleTold >= GRADE_ENDS[grade]) {
            grade++;
        }
        return grade;
    }

    private static final class Egg {
        final int number;
        final int barn;
        final int weight;
        final int taps;
        final int blood;
        int dirt;
        int scaleTold;
        int weighedAt;
        int washedAt;

        Egg(int number, int barn, int weight, int taps, int blood, int dirt) {
            this.number = number;
            this.barn = barn;
            this.weight = weight;
            this.taps = taps;
            this.blood = blood;
            this.dirt = dirt;
        }
    }

    private static final class Packer {
        final int place;
        int grade;
        boolean isOn = true;
        int busy;
        Pack tray = new Pack();

        Packer(int place, int grade) {
            this.place = place;
            this.grade = grade;
        }
    }

    /** A tray while it fills, and the pack that it is once it is full. */
    private static final class Pack {
        int grade;
        int eggs;
        int barns;
        int firstTick;
        int lastTick;
        int weights;
        int scaleTolds;
        int soldTo = NONE;
        boolean held;

        void lay(Egg egg) {
            firstTick = eggs == 0 ? egg.weighedAt : Math.min(firstTick, egg.weighedAt);
            lastTick = Math.max(lastTick, egg.weighedAt);
            eggs++;
            barns |= 1 << egg.barn;
            weights += egg.weight;
            scaleTolds += egg.scaleTold;
        }

        boolean isFreeOf(int asked) {
            return grade == asked && soldTo == NONE && !held;
        }

        void holdIf(boolean asked) {
            if (asked && soldTo == NONE) {
                held = true;
            }
        }
    }

    private static final class Order {
        final int grade;
        final int wanted;
        final int worth;
        boolean served;

        Order(int grade, int wanted, int worth) {
            this.grade = grade;
            this.wanted = wanted;
            this.worth = worth;
        }
    }
}
