import java.lang.reflect.Method;
import java.util.Arrays;
import java.util.Random;

/** Runs of 512 calls, each made on an EggHouse and on a SecondReading: every answer must be the same. */
public final class SecondReadingTest {
    private static final int RUNS = 240;
    private static final int CALLS = 512;
    private static final int[] EDGES = {
        Integer.MIN_VALUE, -1000, -10, -9, -2, -1, 0, 1, 2, 3, 4, 5, 6, 7, 8, 9, 10, 15, 16, 29, 30, 40, 41, 59, 60,
        90, 91, 1000, 1001, Integer.MAX_VALUE,
    };
    private static final Check check = new Check();
    private static int mostInWash;
    private static int mostPacks;

    private final EggHouse house = new EggHouse();
    private final SecondReading reading = new SecondReading();
    private final Random random;
    private final int edgesInHundred;
    private int callsMade;

    private SecondReadingTest(int run) {
        random = new Random(run);
        edgesInHundred = run % 4 == 0 ? 30 : 1;
    }

    public static void main(String[] args) throws Exception {
        for (int run = 0; run < RUNS; run += 3) {
            new SecondReadingTest(run).anyCalls();
            new SecondReadingTest(run + 1).dirtyEggsAtAFullQueue();
            new SecondReadingTest(run + 2).eggsOfOneGrade();
        }
        check.due("runs come to a full wash", mostInWash, 30);
        check.due("runs come to 60 packs", mostPacks, 60);
        check.end();
    }

    private void anyCalls() throws Exception {
        while (callsMade < CALLS) {
            switch (random.nextInt(8)) {
                case 0: both("tick", number(1, random.nextBoolean() ? 2 : 25)); break;
                case 1: change(); break;
                case 2: orderOrDoubt(); break;
                case 3:
                case 4: question(); break;
                default: egg(number(41, 66), number(0, 3)); break;
            }
        }
    }

    private void dirtyEggsAtAFullQueue() throws Exception {
        while (callsMade < CALLS) {
            if (reading.count(1) < 20 && random.nextInt(60) > 0) {
                egg(number(48, 60), number(1, 3));
            } else {
                both("tick", 1);
            }
            if (random.nextInt(4) == 0) {
                question();
            }
            mostInWash = Math.max(mostInWash, reading.count(3));
        }
    }

    private void eggsOfOneGrade() throws Exception {
        int grade = random.nextInt(6);
        for (int packer = 0; packer < 4; packer++) {
            both("grade", packer, grade);
        }
        // With so few orders and doubts, runs have the calls that 60 packs need.
        while (callsMade < CALLS) {
            if (reading.count(1) < 20) {
                both("egg", random.nextInt(4), Houses.WEIGHT_OF_GRADE[grade], 8, 4, 1);
            } else {
                both("tick", 20);
            }
            if (random.nextInt(14) == 0) {
                ofOneGrade(grade);
            }
            mostPacks = Math.max(mostPacks, reading.told(0));
        }
    }

    private void ofOneGrade(int grade) throws Exception {
        switch (random.nextInt(4)) {
            case 0: both("order", grade, number(1, 9), number(1, 5)); break;
            case 1: orderOrDoubt(); break;
            default: question(); break;
        }
    }

    private void egg(int weight, int dirt) throws Exception {
        int taps = random.nextInt(5) == 0 ? number(0, 15) : 1 << random.nextInt(4);
        int blood = random.nextInt(5) == 0 ? number(0, 9) : number(0, 4);
        both("egg", number(0, 3), weight, taps, blood, dirt);
    }

    private void change() throws Exception {
        switch (random.nextInt(3)) {
            case 0: both("drift", number(-9, 9)); break;
            case 1: both("grade", number(0, 3), number(1, 5)); break;
            default: both("on", number(0, 3), random.nextInt(3) > 0); break;
        }
    }

    private void orderOrDoubt() throws Exception {
        int from = number(0, reading.told(4) + 1);
        switch (random.nextInt(5)) {
            case 0: both("order", number(1, 5), number(1, 3), number(1, 5)); break;
            case 1: both("serve"); break;
            case 2: both("doubt", number(0, 3), random.nextInt(6) == 0); break;
            case 3: both("hours", from, from + number(-1, 9), random.nextInt(4) == 0); break;
            default: both("clear", number(0, reading.told(0))); break;
        }
    }

    private void question() throws Exception {
        switch (random.nextInt(10)) {
            case 0: both("packer", number(0, 3), number(0, 4)); break;
            case 1: both("count", number(0, 9)); break;
            case 2: both("barn", number(0, 3), number(0, 4)); break;
            case 3: both("pack", number(0, reading.told(0)), number(0, 7)); break;
            case 4: both("free", number(0, 5)); break;
            case 5: both("best", number(0, 1)); break;
            case 6: both("about", number(0, reading.told(1)), number(0, 3)); break;
            case 7: both("told", number(0, 5)); break;
            case 8: both("trace"); break;
            default: both("at", number(0, 15), number(0, 4)); break;
        }
    }

    private int number(int least, int most) {
        boolean edge = random.nextInt(100) < edgesInHundred;
        return edge ? EDGES[random.nextInt(EDGES.length)] : least + random.nextInt(most - least + 1);
    }

    private void both(String name, Object... numbers) throws Exception {
        if (callsMade == CALLS) {
            return;
        }
        callsMade++;
        String call = name + Arrays.toString(numbers) + ", call " + callsMade;
        check.due(call, answer(house, name, numbers), answer(reading, name, numbers));
    }

    private static long answer(Object asked, String name, Object[] numbers) throws Exception {
        for (Method method : asked.getClass().getDeclaredMethods()) {
            if (method.getName().equals(name) && method.getParameterCount() == numbers.length) {
                return ((Number) method.invoke(asked, numbers)).longValue();
            }
        }
        throw new IllegalArgumentException("no call " + name);
    }
}
