/** Machines with rows of acts, and how far these have come. */
final class Rows {
    private Rows() {
    }

    /** A machine with the acts of the text, which it keeps; one state is recorded. */
    static OvertakingLoads machine(String text) {
        OvertakingLoads x = new OvertakingLoads();
        Check.typeText(x, text);
        Check.holds("added: " + text, x.addAll() > 0);
        return x;
    }

    /** A machine that issues four acts a beat and has four ports; three states are recorded. */
    static OvertakingLoads wide(String text) {
        OvertakingLoads x = machine(text);
        x.set(1, 4);
        x.set(2, 4);
        return x;
    }

    /** A wide machine that merges. */
    static OvertakingLoads merging(String text) {
        OvertakingLoads x = wide(text);
        x.set(3, 1);
        return x;
    }

    /** How all acts are, a digit each, the first act first. */
    static void hows(OvertakingLoads x, String due) {
        StringBuilder got = new StringBuilder();
        for (int i = 0; i < x.count(1); i++) {
            got.append(x.act(i, 4));
        }
        Check.holds("acts are " + got + ", due is " + due, got.toString().equals(due));
    }

    /** How all acts are after each of the next beats. */
    static void hasByBeats(OvertakingLoads x, String... dues) {
        for (String due : dues) {
            x.pass(1);
            hows(x, due);
        }
    }
}
