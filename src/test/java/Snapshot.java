/** All that can be asked of a house, as one text: two houses that differ in an answer differ in it. */
final class Snapshot {
    private Snapshot() {
    }

    static String of(EggHouse x) {
        StringBuilder all = new StringBuilder();
        for (int what = 0; what < 10; what++) {
            add(all, x.count(what), x.told(what));
            for (int i = 0; i < 16; i++) {
                add(all, x.at(i, what), x.packer(i, what), x.barn(i, what), x.about(i, what));
            }
            for (int i = 0; i < x.told(0); i++) {
                add(all, x.pack(i, what));
            }
        }
        for (int grade = 0; grade < 6; grade++) {
            add(all, x.free(grade));
        }
        add(all, x.best(0), x.best(1), x.trace());
        return all.toString();
    }

    private static void add(StringBuilder all, long... answers) {
        for (long answer : answers) {
            all.append(answer).append(' ');
        }
    }
}
