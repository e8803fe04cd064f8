/** Each line of promises 1 to 8 that names an edge has a test of its own here. */
public final class EdgesOfActsTest {
    private static final int UNKNOWN = OvertakingLoads.UNKNOWN;
    private static final int BAD_VALUE = OvertakingLoads.BAD_VALUE;
    private static final int FULL = OvertakingLoads.FULL;
    private static final int NOT_POSSIBLE = OvertakingLoads.NOT_POSSIBLE;
    private static final int NONE = OvertakingLoads.NONE;
    private static final int LOWEST = Integer.MIN_VALUE;
    private static final int HIGHEST = Integer.MAX_VALUE;

    public static void main(String[] args) {
        newMachine();
        addresses();
        bytes();
        values();
        delays();
        storeAnswers();
        places();
        loadAnswers();
        addAllOrNone();
        addAllIsOneAct();
        addAllAnswers();
        passAnswers();
        wipe();
        wipeAnswers();
        setAnswers();
        setCounterAnswers();
        Check.end("EdgesOfActsTest");
    }

    private static void newMachine() {
        Check.says("Creates a machine without acts, on the beat 0.");
        OvertakingLoads x = new OvertakingLoads();
        Check.due("beats", x.count(0), 0);
        Check.due("acts", x.count(1), 0);
        Check.due("act 0", x.act(0, 0), UNKNOWN);
        Check.due("nothing retires", x.pass(1), 0);
        Check.due("another one", new OvertakingLoads().count(0), 0);
    }

    // ---- promises 2 and 3

    private static void addresses() {
        Check.says("- `address`: 0 to 63");
        int[] wrong = {-1, 64, 65, 127, LOWEST, HIGHEST};
        OvertakingLoads x = new OvertakingLoads();
        for (int address : wrong) {
            for (int bytes = 1; bytes <= 3; bytes++) {
                Check.due("store at " + address, x.store(address, bytes, 0, 0, 0), UNKNOWN);
                Check.due("load at " + address, x.load(address, bytes, 0, 0), UNKNOWN);
            }
        }
        Check.due("store at 0", x.store(0, 1, 0, 0, 0), 0);
        Check.due("store at 63", x.store(63, 1, 0, 0, 0), 1);
        Check.due("load at 0", x.load(0, 1, 0, 0), 2);
        Check.due("load at 63", x.load(63, 1, 0, 0), 3);
        for (int i = 0; i < 4; i++) {
            Check.due("address of " + i, x.act(i, 1), i % 2 == 0 ? 0 : 63);
        }
    }

    private static void bytes() {
        Check.says("- `bytes`: 1 to 3");
        int[] wrong = {0, -1, 4, 5, 33, 256, LOWEST, HIGHEST};
        OvertakingLoads x = new OvertakingLoads();
        for (int bytes : wrong) {
            Check.due("store of " + bytes, x.store(0, bytes, 0, 0, 0), BAD_VALUE);
            Check.due("load of " + bytes, x.load(0, bytes, 0, 0), BAD_VALUE);
        }
        for (int bytes = 1; bytes <= 3; bytes++) {
            Check.due("store of " + bytes, x.store(0, bytes, 0, 0, 0), 2 * bytes - 2);
            Check.due("load of " + bytes, x.load(0, bytes, 0, 0), 2 * bytes - 1);
            Check.due("bytes of the store", x.act(2 * bytes - 2, 2), bytes);
            Check.due("bytes of the load", x.act(2 * bytes - 1, 2), bytes);
        }
    }

    private static void values() {
        Check.says("- `value`: 0 to 16777215, less than 256 to the power of bytes");
        OvertakingLoads x = new OvertakingLoads();
        int[] most = {255, 65535, 16777215};
        for (int bytes = 1; bytes <= 3; bytes++) {
            Check.due("-1", x.store(0, bytes, -1, 0, 0), BAD_VALUE);
            Check.due("lowest", x.store(0, bytes, LOWEST, 0, 0), BAD_VALUE);
            Check.due("one too much", x.store(0, bytes, most[bytes - 1] + 1, 0, 0), BAD_VALUE);
            Check.due("256 to the power of 3", x.store(0, bytes, 16777216, 0, 0), BAD_VALUE);
            Check.due("highest", x.store(0, bytes, HIGHEST, 0, 0), BAD_VALUE);
            Check.due("0", x.store(0, bytes, 0, 0, 0), 2 * bytes - 2);
            Check.due("the most", x.store(0, bytes, most[bytes - 1], 0, 0), 2 * bytes - 1);
            Check.due("it is that", x.act(2 * bytes - 1, 3), most[bytes - 1]);
            Check.due("it is 0", x.act(2 * bytes - 2, 3), 0);
        }
    }

    private static void delays() {
        Check.says("- `known`: the delay of its address, 0 to 20");
        Check.says("- `data`: the delay of its data, 0 to 20");
        int[] wrong = {-1, 21, 22, LOWEST, HIGHEST};
        OvertakingLoads x = new OvertakingLoads();
        for (int delay : wrong) {
            Check.due("store, address", x.store(0, 1, 0, delay, 0), BAD_VALUE);
            Check.due("store, data", x.store(0, 1, 0, 0, delay), BAD_VALUE);
            Check.due("load", x.load(0, 1, delay, 0), BAD_VALUE);
        }
        for (int delay = 0; delay <= 20; delay++) {
            OvertakingLoads y = new OvertakingLoads();
            Check.due("store, address", y.store(0, 1, 0, delay, 0), 0);
            Check.due("beats", y.doneIn(), delay + 2);
            OvertakingLoads z = new OvertakingLoads();
            Check.due("store, data", z.store(0, 1, 0, 0, delay), 0);
            Check.due("beats", z.doneIn(), delay + 2);
            OvertakingLoads w = new OvertakingLoads();
            Check.due("load", w.load(0, 1, delay, 0), 0);
            Check.due("beats", w.doneIn(), delay + 2);
        }
    }

    private static void storeAnswers() {
        Check.says("Returns its number; UNKNOWN (address, or the last byte, if bytes is 1 to 3); BAD_VALUE; FULL if 48 came.");
        OvertakingLoads x = new OvertakingLoads();
        for (int bytes = 2; bytes <= 3; bytes++) {
            for (int address = 65 - bytes; address <= 63; address++) {
                Check.due("the last byte", x.store(address, bytes, 0, 0, 0), UNKNOWN);
                Check.due("the last byte, others out of range", x.store(address, bytes, -1, -1, -1), UNKNOWN);
            }
        }
        int[] noBytes = {0, -1, 4, 100, LOWEST, HIGHEST};
        for (int bytes : noBytes) {
            Check.due("no last byte for " + bytes, x.store(63, bytes, 0, 0, 0), BAD_VALUE);
            Check.due("but the address", x.store(64, bytes, 0, 0, 0), UNKNOWN);
        }
        for (int number = 0; number < 48; number++) {
            Check.due("its number", x.store(number, 1, 0, 0, 0), number);
        }
        Check.due("48 came", x.store(0, 1, 0, 0, 0), FULL);
        Check.due("UNKNOWN all the same", x.store(63, 2, 0, 0, 0), UNKNOWN);
        Check.due("BAD_VALUE all the same", x.store(0, 1, 256, 0, 0), BAD_VALUE);
        x.undo();
        Check.due("47 came", x.store(0, 1, 0, 0, 0), 47);
    }

    private static void places() {
        Check.says("- `place`: 0 to 7");
        int[] wrong = {-1, 8, 9, LOWEST, HIGHEST};
        OvertakingLoads x = new OvertakingLoads();
        for (int place : wrong) {
            Check.due("load at place " + place, x.load(0, 1, 0, place), UNKNOWN);
            Check.due("setCounter of " + place, x.setCounter(place, 1), UNKNOWN);
            Check.due("counter of " + place, x.counter(place), UNKNOWN);
        }
        for (int place = 0; place <= 7; place++) {
            Check.due("load", x.load(0, 1, 0, place), place);
            Check.due("its place", x.act(place, 9), place);
            Check.due("setCounter", x.setCounter(place, 1), 0);
            Check.due("counter", x.counter(place), 1);
        }
    }

    private static void loadAnswers() {
        Check.says("Returns its number; UNKNOWN (address, the last byte, if bytes is 1 to 3, or place); BAD_VALUE; FULL if 48 came.");
        OvertakingLoads x = new OvertakingLoads();
        for (int bytes = 2; bytes <= 3; bytes++) {
            for (int address = 65 - bytes; address <= 63; address++) {
                Check.due("the last byte", x.load(address, bytes, 0, 0), UNKNOWN);
                Check.due("the last byte, delay out of range", x.load(address, bytes, 21, 0), UNKNOWN);
            }
        }
        int[] noBytes = {0, -1, 4, 100, LOWEST, HIGHEST};
        for (int bytes : noBytes) {
            Check.due("no last byte for " + bytes, x.load(63, bytes, 0, 0), BAD_VALUE);
            Check.due("but the address", x.load(64, bytes, 0, 0), UNKNOWN);
            Check.due("and the place", x.load(63, bytes, 0, 8), UNKNOWN);
        }
        Check.due("the place ahead of the delay", x.load(0, 1, 21, 8), UNKNOWN);
        for (int number = 0; number < 48; number++) {
            Check.due("its number", x.load(number, 1, 0, 0), number);
        }
        Check.due("48 came", x.load(0, 1, 0, 0), FULL);
        Check.due("UNKNOWN all the same", x.load(0, 1, 0, 8), UNKNOWN);
        Check.due("BAD_VALUE all the same", x.load(0, 1, 21, 0), BAD_VALUE);
        x.undo();
        Check.due("47 came", x.load(0, 1, 0, 0), 47);
    }

    // ---- promise 4

    private static void fill(OvertakingLoads x, int acts) {
        while (x.count(1) < acts) {
            x.load(0, 1, 0, 0);
        }
    }

    private static void addAllOrNone() {
        Check.says("Adds all acts of the text, which stays, one after the other; all of them or none.");
        OvertakingLoads x = new OvertakingLoads();
        Check.typeText(x, "l0:1;l1:1;s62:3=1");
        Check.due("none", x.addAll(), UNKNOWN);
        Check.due("none of them came", x.count(1), 0);
        Check.due("the text stays", x.count(14), 17);
        Check.typeText(x, "l0:1;l1:1;s61:3=1");
        Check.due("all", x.addAll(), 3);
        Check.due("all of them came", x.count(1), 3);
        Check.due("the text stays", x.count(14), 17);
        Check.due("all once more", x.addAll(), 3);
        for (int number = 0; number < 6; number++) {
            int[] addresses = {0, 1, 61};
            Check.due("one after the other", x.act(number, 1), addresses[number % 3]);
        }
        fill(x, 46);
        Check.due("room for two of three", x.addAll(), FULL);
        Check.due("none of them came", x.count(1), 46);
        x.undo();
        Check.due("room for all", x.addAll(), 3);
        Check.due("all of them came", x.count(1), 48);
        Check.due("the last one", x.act(47, 1), 61);
    }

    private static void addAllIsOneAct() {
        Check.says("This is one act of the user.");
        OvertakingLoads x = new OvertakingLoads();
        Check.typeText(x, "l0:1;l1:1;l2:1;l3:1;l4:1");
        x.addAll();
        Check.due("one state", x.count(13), 1);
        Check.due("undone at once", x.undo(), 0);
        Check.due("none of them is left", x.count(1), 0);
        fill(x, 44);
        Check.due("no room", x.addAll(), FULL);
        x.undo();
        Check.due("an error records none", x.count(1), 43);
        Check.due("room", x.addAll(), 5);
        x.undo();
        Check.due("undone at once", x.count(1), 43);
    }

    private static void addAllAnswers() {
        Check.says("Returns how many the text has; -100 minus the fault of the text if it has one (which is an error); "
            + "otherwise the error that store() or load() returns for the first one that has one when its turn comes.");
        OvertakingLoads x = new OvertakingLoads();
        Check.due("the empty text", x.addAll(), -100);
        Check.typeText(x, "l0:1;l1:1;l2:1;l3:1;l4:1;l5:1;l6:1;l7:1;l8:1;l9:1;l0:1;l1:1;");
        Check.due("the latest fault", x.addAll(), -160);
        Check.due("an error records nothing", x.count(13), 0);
        Check.typeText(x, "l0:1");
        Check.due("one", x.addAll(), 1);
        Check.typeText(x, "s63:2=1;s0:1=256");
        Check.due("the first one's", x.addAll(), UNKNOWN);
        Check.typeText(x, "s0:1=256;l63:2");
        Check.due("the first one's", x.addAll(), BAD_VALUE);
        Check.typeText(x, "l0:1;l63:2;x");
        Check.due("the fault", x.addAll(), -111);
        fill(x, 47);
        Check.typeText(x, "l0:1;s0:1=256");
        Check.due("BAD_VALUE ahead of FULL", x.addAll(), BAD_VALUE);
        Check.typeText(x, "l0:1;l63:2");
        Check.due("UNKNOWN ahead of FULL", x.addAll(), UNKNOWN);
        Check.typeText(x, "l0:1;l0:1;s0:1=256");
        Check.due("FULL when its turn comes", x.addAll(), FULL);
        Check.typeText(x, "l0:1");
        Check.due("room for one", x.addAll(), 1);
        Check.due("no room", x.addAll(), FULL);
    }

    // ---- promises 5 and 6

    private static void passAnswers() {
        Check.says("- `beats`: 1 to 500");
        int[] wrong = {0, -1, -500, 501, 1000000, 1000001, LOWEST, HIGHEST};
        OvertakingLoads x = Rows.machine("l0:1;l0:1;l0:1");
        for (int beats : wrong) {
            Check.due("pass " + beats, x.pass(beats), BAD_VALUE);
        }
        Check.due("no beat has passed", x.count(0), 0);
        Check.says("Returns how many acts are retired in them");
        Check.due("none in the first", x.pass(1), 0);
        Check.due("one in the second", x.pass(1), 1);
        Check.due("the rest", x.pass(500), 2);
        Check.due("none are left", x.pass(500), 0);
        Check.due("beats", x.count(0), 1002);
    }

    private static void wipe() {
        Check.says("Wipes all acts, when none is in the queue: the row is empty then, numbers begin at 0 again; "
            + "the memory, the table, the settings and counts stay.");
        OvertakingLoads x = Rows.wide("s4:1=7/2,3;l4:1@5;l9:1@1");
        x.pass(20);
        int[] stay = {0, 8, 9, 10, 11, 12, 14, 15, 16, 17, 18, 19};
        int[] before = new int[stay.length];
        for (int i = 0; i < stay.length; i++) {
            before[i] = x.count(stay[i]);
        }
        Check.due("wiped", x.wipe(), 3);
        for (int i = 0; i < stay.length; i++) {
            Check.due("count " + stay[i], x.count(stay[i]), before[i]);
        }
        for (int what = 1; what <= 7; what++) {
            Check.due("count " + what, x.count(what), 0);
        }
        Check.due("the memory stays", x.memory(4), 7);
        Check.due("the table stays", x.counter(5), 1);
        Check.due("the row is empty", x.act(0, 0), UNKNOWN);
        Check.due("numbers begin again", x.load(4, 1, 0, 0), 0);
        Check.due("as new", x.act(0, 6), 0);
        OvertakingLoads waiting = Rows.machine("l0:1;l0:1");
        Check.due("acts that wait are wiped, too", waiting.wipe(), 2);
        Check.due("nothing is left to do", waiting.doneIn(), 0);
        OvertakingLoads part = Rows.machine("s0:1=1;l9:1;l9:1");
        part.set(0, 2);
        part.pass(2);
        Rows.hows(part, "332");
        Check.due("one is in the queue", part.wipe(), NOT_POSSIBLE);
    }

    private static void wipeAnswers() {
        Check.says("Returns how many acts there were; NONE if there were none; NOT_POSSIBLE if some act is in the queue.");
        OvertakingLoads x = new OvertakingLoads();
        Check.due("there were none", x.wipe(), NONE);
        for (int i = 0; i < 48; i++) {
            x.store(0, 1, 0, 0, 0);
        }
        Check.due("all of 48", x.wipe(), 48);
        Check.due("none then", x.wipe(), NONE);
        x.load(0, 1, 1, 0);
        Check.due("one that waits", x.wipe(), 1);
        x.load(0, 1, 1, 0);
        x.pass(1);
        Check.due("one that is issued", x.wipe(), NOT_POSSIBLE);
        x.pass(1);
        Check.due("one that is done", x.wipe(), NOT_POSSIBLE);
        x.pass(1);
        x.load(0, 1, 0, 0);
        Check.due("one that is retired, one that waits", x.wipe(), 2);
    }

    // ---- promises 7 and 8

    private static void setAnswers() {
        Check.says("- `which`: 0 to 4");
        Check.says("- `value`: in its range");
        int[][] ranges = {{1, 16, 8}, {1, 4, 2}, {1, 4, 1}, {0, 1, 0}, {0, 2, 0}};
        int[] noSetting = {-1, 5, 6, LOWEST, HIGHEST};
        for (int which : noSetting) {
            Check.due("set " + which, new OvertakingLoads().set(which, 1), BAD_VALUE);
        }
        for (int which = 0; which < 5; which++) {
            int[] wrong = {ranges[which][0] - 1, ranges[which][1] + 1, LOWEST, HIGHEST};
            OvertakingLoads x = new OvertakingLoads();
            for (int value : wrong) {
                Check.due("set " + which + " to " + value, x.set(which, value), BAD_VALUE);
            }
            int previous = ranges[which][2];
            for (int value = ranges[which][0]; value <= ranges[which][1]; value++) {
                Check.due("set " + which + " to " + value, x.set(which, value), value == previous ? NONE : previous);
                Check.due("setting " + which, x.count(15 + which), value);
                previous = value;
            }
        }
        Check.says("Returns the previous one; BAD_VALUE (which or value); NONE if it is so already; "
            + "NOT_POSSIBLE for the queue, if more acts are in it.");
        OvertakingLoads x = Rows.machine("s0:1=1/9;l9:1;l9:1;l9:1;l9:1");
        x.pass(2);
        Check.due("four are in it", x.count(3) + x.count(4), 4);
        Check.due("three", x.set(0, 3), NOT_POSSIBLE);
        Check.due("one", x.set(0, 1), NOT_POSSIBLE);
        Check.due("none", x.set(0, 0), BAD_VALUE);
        Check.due("four", x.set(0, 4), 8);
        Check.due("it is so already", x.set(0, 4), NONE);
        Check.due("other settings may be less than that", x.set(1, 1), 2);
    }

    private static void setCounterAnswers() {
        Check.says("- `value`: 0 to 3");
        int[] wrong = {-1, 4, 5, LOWEST, HIGHEST};
        OvertakingLoads x = new OvertakingLoads();
        for (int value : wrong) {
            Check.due("to " + value, x.setCounter(7, value), BAD_VALUE);
        }
        Check.says("Returns the previous one; UNKNOWN; BAD_VALUE; NONE if it is so already.");
        Check.due("it is so already", x.setCounter(7, 0), NONE);
        Check.due("3", x.setCounter(7, 3), 0);
        Check.due("it is so already", x.setCounter(7, 3), NONE);
        Check.due("2", x.setCounter(7, 2), 3);
        Check.due("0", x.setCounter(7, 0), 2);
        Check.due("of another place", x.setCounter(0, 3), 0);
        Check.due("that place alone", x.counter(7), 0);
        Check.due("UNKNOWN first", x.setCounter(8, 4), UNKNOWN);
        Check.due("no place, so already", x.setCounter(8, 0), UNKNOWN);
    }
}
