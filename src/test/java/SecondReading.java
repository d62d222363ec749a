import java.util.ArrayList;
import java.util.Comparator;
import java.util.List;

/**
 * The document read a second time, slowly and in another way than the class: an egg knows where it is, and all
 * that can be asked is counted anew from the eggs. Its calls bear the names and take the numbers of EggHouse's.
 */
final class SecondReading {
    /** The places of an egg, in the order of count(1) .. count(8). */
    enum Where { QUEUE, LINE, WASH, ASIDE, BROKEN, FLOOR, TRAY, PACK }

    private static final class Egg {
        int number, barn, weight, taps, blood, dirt;
        int told, weighedIn, washedIn, place, packer, came;
        boolean washed;
        Where where;
    }

    private static final class Pack {
        int grade;
        int soldTo = -9;
        boolean held;
        List<Egg> eggs;

        boolean isFree() {
            return soldTo == -9 && !held;
        }

        int firstTick() {
            return eggs.stream().mapToInt(e -> e.weighedIn).min().getAsInt();
        }

        int lastTick() {
            return eggs.stream().mapToInt(e -> e.weighedIn).max().getAsInt();
        }
    }

    private final List<Egg> eggs = new ArrayList<>();
    private final List<Pack> packs = new ArrayList<>();
    private final List<int[]> orders = new ArrayList<>();
    private final int[] gradeOfPacker = {2, 3, 4, 5};
    private final boolean[] isOn = {true, true, true, true};
    private final int[] lastDrop = {-99, -99, -99, -99};
    private int tick;
    private int drift;
    private int comings;
    private long trace;

    // ---- the line

    int egg(int barn, int weight, int taps, int blood, int dirt) {
        if (out(barn, 0, 3) || out(weight, 30, 90) || out(taps, 0, 15) || out(blood, 0, 9) || out(dirt, 0, 3)) {
            return -1;
        }
        if (all(Where.QUEUE).size() == 20) {
            return -3;
        }
        Egg e = new Egg();
        e.number = eggs.size();
        e.barn = barn;
        e.weight = weight;
        e.taps = taps;
        e.blood = blood;
        e.dirt = dirt;
        eggs.add(e);
        come(e, Where.QUEUE);
        return e.number;
    }

    int tick(int n) {
        if (out(n, 1, 40)) {
            return -1;
        }
        for (int i = 0; i < n; i++) {
            oneTick();
        }
        return tick;
    }

    int drift(int v) {
        if (out(v, -9, 9)) {
            return -1000;
        }
        int was = drift;
        drift = v;
        return was;
    }

    int grade(int packer, int v) {
        if (out(packer, 0, 3) || out(v, 0, 5)) {
            return -1;
        }
        if (!tray(packer).isEmpty()) {
            return -2;
        }
        int was = gradeOfPacker[packer];
        gradeOfPacker[packer] = v;
        return was;
    }

    int on(int packer, boolean is) {
        if (out(packer, 0, 3)) {
            return -1;
        }
        int was = isOn[packer] ? 1 : 0;
        isOn[packer] = is;
        return was;
    }

    int at(int place, int what) {
        if (out(place, 0, 15) || out(what, 0, 4)) {
            return -1;
        }
        Egg e = eggAt(place);
        if (e == null) {
            return -9;
        }
        int[] answers = {e.number, e.barn, e.weight, place < 2 ? 0 : e.told, place < 2 ? -9 : gradeBy(e.told)};
        return answers[what];
    }

    int packer(int packer, int what) {
        if (out(packer, 0, 3) || out(what, 0, 4)) {
            return -1;
        }
        List<Egg> tray = tray(packer);
        int busyYet = Math.max(0, lastDrop[packer] + 3 - tick);
        int[] answers = {gradeOfPacker[packer], isOn[packer] ? 1 : 0, tray.size(), busyYet, barnsOf(tray)};
        return answers[what];
    }

    int count(int what) {
        if (out(what, 0, 9)) {
            return -1;
        }
        if (what == 0) {
            return eggs.size();
        }
        return what == 9 ? (int) eggs.stream().filter(e -> e.washed).count() : all(Where.values()[what - 1]).size();
    }

    int barn(int barn, int what) {
        if (out(barn, 0, 3) || out(what, 0, 4)) {
            return -1;
        }
        List<List<Where>> asked = List.of(List.of(Where.values()), List.of(Where.ASIDE), List.of(Where.BROKEN),
                List.of(Where.FLOOR), List.of(Where.TRAY, Where.PACK));
        return (int) eggs.stream().filter(e -> e.barn == barn && asked.get(what).contains(e.where)).count();
    }

    // ---- packs, orders

    int pack(int pack, int what) {
        if (out(pack, 0, packs.size() - 1) || out(what, 0, 7)) {
            return -1;
        }
        Pack p = packs.get(pack);
        int weights = p.eggs.stream().mapToInt(e -> e.weight).sum();
        int told = p.eggs.stream().mapToInt(e -> e.told).sum();
        int[] answers = {
            p.grade, barnsOf(p.eggs), p.firstTick(), p.lastTick(), p.soldTo, p.held ? 1 : 0, weights, told,
        };
        return answers[what];
    }

    int free(int grade) {
        return out(grade, 0, 5) ? -1 : (int) packs.stream().filter(p -> p.grade == grade && p.isFree()).count();
    }

    int order(int grade, int n, int worth) {
        if (out(grade, 0, 5) || out(n, 1, 9) || out(worth, 1, 1000)) {
            return -1;
        }
        if (orders.size() == 6) {
            return -3;
        }
        orders.add(new int[] {grade, n, worth, 0});
        return orders.size() - 1;
    }

    int best(int what) {
        if (out(what, 0, 1)) {
            return -1;
        }
        int best = servedBest(orders.size() - 1, new int[6]);
        return what == 0 ? best : worthOf(best);
    }

    int serve() {
        int best = best(0);
        int sold = 0;
        for (int i = 0; i < orders.size(); i++) {
            int[] order = orders.get(i);
            if ((best & 1 << i) == 0) {
                continue;
            }
            int number = i;
            List<Pack> taken = packs.stream().filter(p -> p.grade == order[0] && p.isFree()).limit(order[1]).toList();
            taken.forEach(p -> p.soldTo = number);
            sold += taken.size();
            order[3] = 1;
        }
        return sold;
    }

    int about(int order, int what) {
        return out(order, 0, orders.size() - 1) || out(what, 0, 3) ? -1 : orders.get(order)[what];
    }

    int doubt(int barn, boolean hold) {
        if (out(barn, 0, 3)) {
            return -1;
        }
        return inDoubt(packs.stream().filter(p -> p.eggs.stream().anyMatch(e -> e.barn == barn)).toList(), hold);
    }

    int hours(int from, int to, boolean hold) {
        if (from < 0 || to < from) {
            return -1;
        }
        return inDoubt(packs.stream().filter(p -> !(p.firstTick() > to || p.lastTick() < from)).toList(), hold);
    }

    int clear(int pack) {
        if (out(pack, 0, packs.size() - 1)) {
            return -1;
        }
        if (!packs.get(pack).held) {
            return -2;
        }
        packs.get(pack).held = false;
        return 1;
    }

    int told(int what) {
        if (out(what, 0, 5)) {
            return -1000;
        }
        int sold = (int) packs.stream().filter(p -> p.soldTo != -9).count();
        int held = (int) packs.stream().filter(p -> p.held).count();
        int[] answers = {packs.size(), orders.size(), sold, held, tick, drift};
        return answers[what];
    }

    long trace() {
        return trace;
    }

    // ---- a tick

    private void oneTick() {
        List<Egg> line = all(Where.LINE);
        for (Egg e : line) {
            e.place++;
            if (e.place > 15) {
                come(e, Where.FLOOR);
            } else if (e.place == 2) {
                e.told = e.weight + drift;
                e.weighedIn = tick;
            } else if (e.place == 5) {
                come(e, goesTo(e));
            }
        }
        for (int packer = 0; packer < 4; packer++) {
            Egg e = eggAt(8 + 2 * packer);
            if (e != null && takes(packer, e)) {
                drop(packer, e);
            }
        }
        for (Egg e : all(Where.WASH)) {
            if (tick >= e.washedIn + 8 && all(Where.QUEUE).size() < 20) {
                come(e, Where.QUEUE);
            }
        }
        List<Egg> queue = all(Where.QUEUE);
        if (!queue.isEmpty()) {
            queue.get(0).place = 0;
            come(queue.get(0), Where.LINE);
        }
        tick++;
    }

    private Where goesTo(Egg e) {
        int dull = (e.taps & 1) + (e.taps >> 1 & 1) + (e.taps >> 2 & 1) + (e.taps >> 3 & 1);
        int kind = dull >= 2 ? 3 : e.blood >= 5 ? 2 : e.dirt >= 2 ? 1 : 0;
        int[] asked = {1111, 1110, 1100, 1000};
        trace += asked[kind];
        if (kind != 1) {
            return kind == 3 ? Where.BROKEN : kind == 2 ? Where.ASIDE : Where.LINE;
        }
        if (all(Where.WASH).size() == 30) {
            return Where.ASIDE;
        }
        e.dirt = 0;
        e.washed = true;
        e.washedIn = tick;
        return Where.WASH;
    }

    private boolean takes(int packer, Egg e) {
        boolean busy = tick - lastDrop[packer] <= 2;
        boolean noRoom = tray(packer).size() == 5 && packs.size() == 60;
        return isOn[packer] && !busy && !noRoom && gradeOfPacker[packer] == gradeBy(e.told);
    }

    private void drop(int packer, Egg e) {
        e.packer = packer;
        lastDrop[packer] = tick;
        come(e, Where.TRAY);
        List<Egg> tray = tray(packer);
        if (tray.size() == 6) {
            Pack p = new Pack();
            p.grade = gradeOfPacker[packer];
            p.eggs = tray;
            tray.forEach(t -> come(t, Where.PACK));
            packs.add(p);
        }
    }

    // ---- what is where

    private void come(Egg e, Where where) {
        e.where = where;
        e.came = comings++;
    }

    /** Those that came first stand first. */
    private List<Egg> all(Where where) {
        return eggs.stream().filter(e -> e.where == where).sorted(Comparator.comparingInt(e -> e.came)).toList();
    }

    private List<Egg> tray(int packer) {
        return all(Where.TRAY).stream().filter(e -> e.packer == packer).toList();
    }

    private Egg eggAt(int place) {
        return all(Where.LINE).stream().filter(e -> e.place == place).findFirst().orElse(null);
    }

    private static int barnsOf(List<Egg> eggs) {
        return eggs.stream().mapToInt(e -> 1 << e.barn).reduce(0, (a, b) -> a | b);
    }

    private static int gradeBy(int told) {
        return told < 43 ? 0 : told < 48 ? 1 : told < 53 ? 2 : told < 58 ? 3 : told < 63 ? 4 : 5;
    }

    private static boolean out(int v, int least, int most) {
        return v < least || v > most;
    }

    // ---- orders and doubts

    /** The best of orders 0 .. last, where so many packs of each grade are wanted already. */
    private int servedBest(int last, int[] wanted) {
        if (last < 0) {
            return 0;
        }
        int without = servedBest(last - 1, wanted);
        int[] order = orders.get(last);
        if (order[3] == 1 || wanted[order[0]] + order[1] > free(order[0])) {
            return without;
        }
        wanted[order[0]] += order[1];
        int with = 1 << last | servedBest(last - 1, wanted);
        wanted[order[0]] -= order[1];
        // The set without the last order has the lesser number, so it stands if both are worth the same.
        return worthOf(with) > worthOf(without) ? with : without;
    }

    private int worthOf(int set) {
        int worth = 0;
        for (int i = 0; i < orders.size(); i++) {
            worth += (set >> i & 1) * orders.get(i)[2];
        }
        return worth;
    }

    private static int inDoubt(List<Pack> found, boolean hold) {
        found.stream().filter(p -> hold && p.soldTo == -9).forEach(p -> p.held = true);
        return found.size();
    }
}
