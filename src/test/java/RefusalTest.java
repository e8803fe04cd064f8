import java.util.ArrayList;
import java.util.List;
import java.util.function.Function;
import java.util.function.Supplier;
import java.util.function.ToIntFunction;

/**
 * "A call that returns an error or NONE changes nothing": each such call is made on a machine, and all that can
 * be told of it then, is as with a machine that was made alike without that call. Each look at a machine takes
 * a new one, so that none is asked more than 512 times.
 */
public final class RefusalTest {
    private static final int UNKNOWN = OvertakingLoads.UNKNOWN;
    private static final int BAD_VALUE = OvertakingLoads.BAD_VALUE;
    private static final int FULL = OvertakingLoads.FULL;
    private static final int NOT_POSSIBLE = OvertakingLoads.NOT_POSSIBLE;
    private static final int NONE = OvertakingLoads.NONE;

    private static final List<Function<OvertakingLoads, String>> LOOKS = new ArrayList<>();

    public static void main(String[] args) {
        LOOKS.add(RefusalTest::tellTheRest);
        for (int from = 0; from < 48; from += 12) {
            int first = from;
            LOOKS.add(x -> tellActs(x, first, first + 12));
        }
        LOOKS.add(RefusalTest::tellTheHistory);
        LOOKS.add(RefusalTest::tellTheSnapshot);
        LOOKS.add(RefusalTest::tellTheFuture);
        Check.says("A call that returns an error or NONE changes nothing.");
        stores();
        loads();
        addAll();
        passAndWipe();
        settingsAndCounters();
        textAndHistory();
        acts();
        sources();
        otherQuestions();
        wouldBe();
        Check.end("RefusalTest");
    }

    // ---- the machines

    /** On its way, with acts of every kind, counters, counts, a full history, a snapshot and a text. */
    private static OvertakingLoads onItsWay() {
        OvertakingLoads x = new OvertakingLoads();
        x.load(0, 2, 3, 1);
        x.pass(1);
        x.keep();
        Check.typeText(x, "l9:1;s4:1=7/2;l4:1@5;l9:2@2;s9:2=300/1,4;l9:1@5;l4:3@1");
        x.addAll();
        x.set(1, 4);
        x.setCounter(2, 2);
        x.pass(4);
        x.setCounter(5, 3);
        return x;
    }

    private static OvertakingLoads withText(String text) {
        OvertakingLoads x = onItsWay();
        Check.typeText(x, text);
        return x;
    }

    private static OvertakingLoads retired() {
        OvertakingLoads x = onItsWay();
        x.pass(40);
        return x;
    }

    private static OvertakingLoads wiped() {
        OvertakingLoads x = retired();
        x.wipe();
        return x;
    }

    private static OvertakingLoads fullRow() {
        OvertakingLoads x = onItsWay();
        while (x.count(1) < 48) {
            x.store(x.count(1), 1, 9, 1, 0);
        }
        Check.typeText(x, "l0:1");
        return x;
    }

    private static OvertakingLoads almostFullRow(String text) {
        OvertakingLoads x = fullRow();
        x.undo();
        Check.typeText(x, text);
        return x;
    }

    private static OvertakingLoads withoutHistory() {
        OvertakingLoads x = onItsWay();
        while (x.count(13) > 0) {
            x.undo();
        }
        return x;
    }

    private static OvertakingLoads withoutSnapshot() {
        OvertakingLoads x = Rows.wide("l9:1;s4:1=7/2;l4:1@5;l9:2@2;s9:2=300/1,4");
        x.pass(3);
        return x;
    }

    // ---- the looks

    private static String tellTheRest(OvertakingLoads x) {
        StringBuilder told = new StringBuilder();
        for (int what = 0; what <= 19; what++) {
            told.append(x.count(what)).append(' ');
        }
        for (int address = 0; address < 64; address++) {
            told.append(x.memory(address)).append(' ');
        }
        for (int place = 0; place < 8; place++) {
            told.append(x.counter(place)).append(' ');
        }
        for (int guess = 0; guess <= 2; guess++) {
            told.append(x.ifGuessed(guess, 0)).append(' ').append(x.ifGuessed(guess, 1)).append(' ');
        }
        return told.append(x.doneIn()).append(' ').append(x.leastQueue()).toString();
    }

    private static String tellActs(OvertakingLoads x, int from, int to) {
        StringBuilder told = new StringBuilder();
        for (int i = from; i < to; i++) {
            for (int what = 0; what <= 9; what++) {
                told.append(x.act(i, what)).append(' ');
            }
            for (int k = 0; k < 3; k++) {
                told.append(x.source(i, k)).append(' ');
            }
            told.append(x.plain(i)).append(' ');
        }
        return told.toString();
    }

    private static String tellTheHistory(OvertakingLoads x) {
        StringBuilder told = new StringBuilder();
        for (int undone = 0; undone < 5; undone++) {
            told.append(x.undo()).append(' ').append(x.doneIn()).append(' ').append(x.leastQueue()).append(' ');
            for (int what = 0; what <= 19; what++) {
                told.append(x.count(what)).append(' ');
            }
        }
        return told.toString();
    }

    private static String tellTheSnapshot(OvertakingLoads x) {
        return x.restore() + " " + tellTheRest(x) + " " + tellActs(x, 0, 4);
    }

    /** What is added next, the text, and the acts when all of them are retired. */
    private static String tellTheFuture(OvertakingLoads x) {
        StringBuilder told = new StringBuilder();
        told.append(x.store(9, 1, 9, 0, 0)).append(' ').append(x.load(9, 1, 0, 0)).append(' ');
        told.append(x.fault()).append(' ').append(x.addAll()).append(' ').append(x.pass(100)).append(' ');
        for (int address = 0; address < 64; address++) {
            told.append(x.memory(address)).append(' ');
        }
        return told.append(x.clearText()).append(' ').append(tellActs(x, 0, 12)).toString();
    }

    /** The call answers what is due, and changes nothing. */
    private static void changesNothing(String name, Supplier<OvertakingLoads> made,
            ToIntFunction<OvertakingLoads> call, int due) {
        for (int i = 0; i < LOOKS.size(); i++) {
            OvertakingLoads called = made.get();
            Check.due(name, call.applyAsInt(called), due);
            String got = LOOKS.get(i).apply(called);
            Check.holds(name + ": look " + i, got.equals(LOOKS.get(i).apply(made.get())));
        }
    }

    private static void onTheWay(String name, ToIntFunction<OvertakingLoads> call, int due) {
        changesNothing(name, RefusalTest::onItsWay, call, due);
    }

    // ---- the calls

    private static void stores() {
        onTheWay("store, address below", x -> x.store(-1, 1, 0, 0, 0), UNKNOWN);
        onTheWay("store, address above", x -> x.store(64, 1, 0, 0, 0), UNKNOWN);
        onTheWay("store, last byte", x -> x.store(63, 2, 0, 0, 0), UNKNOWN);
        onTheWay("store, no bytes", x -> x.store(0, 0, 0, 0, 0), BAD_VALUE);
        onTheWay("store, four bytes", x -> x.store(0, 4, 0, 0, 0), BAD_VALUE);
        onTheWay("store, value below", x -> x.store(0, 1, -1, 0, 0), BAD_VALUE);
        onTheWay("store, value above", x -> x.store(0, 2, 65536, 0, 0), BAD_VALUE);
        onTheWay("store, delay of the address", x -> x.store(0, 1, 0, 21, 0), BAD_VALUE);
        onTheWay("store, delay of the data", x -> x.store(0, 1, 0, 0, -1), BAD_VALUE);
        changesNothing("store, full", RefusalTest::fullRow, x -> x.store(0, 1, 0, 0, 0), FULL);
    }

    private static void loads() {
        onTheWay("load, address below", x -> x.load(-1, 1, 0, 0), UNKNOWN);
        onTheWay("load, address above", x -> x.load(64, 1, 0, 0), UNKNOWN);
        onTheWay("load, last byte", x -> x.load(62, 3, 0, 0), UNKNOWN);
        onTheWay("load, place", x -> x.load(0, 1, 0, 8), UNKNOWN);
        onTheWay("load, no bytes", x -> x.load(0, 0, 0, 0), BAD_VALUE);
        onTheWay("load, four bytes", x -> x.load(0, 4, 0, 0), BAD_VALUE);
        onTheWay("load, delay", x -> x.load(0, 1, 21, 0), BAD_VALUE);
        changesNothing("load, full", RefusalTest::fullRow, x -> x.load(0, 1, 0, 0), FULL);
    }

    private static void addAll() {
        changesNothing("addAll, no text", () -> withText(""), x -> x.addAll(), -100);
        changesNothing("addAll, a fault", () -> withText("l0:1;s0:1=1;s64:1=1"), x -> x.addAll(), -114);
        changesNothing("addAll, too short", () -> withText("l0:1;"), x -> x.addAll(), -105);
        changesNothing("addAll, the second", () -> withText("l0:1;s63:2=1;l1:1"), x -> x.addAll(), UNKNOWN);
        changesNothing("addAll, the third", () -> withText("l0:1;s62:2=1;s0:1=999"), x -> x.addAll(), BAD_VALUE);
        changesNothing("addAll, full", RefusalTest::fullRow, x -> x.addAll(), FULL);
        changesNothing("addAll, room for one", () -> almostFullRow("s9:1=1;l0:1"), x -> x.addAll(), FULL);
    }

    private static void passAndWipe() {
        onTheWay("pass 0", x -> x.pass(0), BAD_VALUE);
        onTheWay("pass -1", x -> x.pass(-1), BAD_VALUE);
        onTheWay("pass 501", x -> x.pass(501), BAD_VALUE);
        onTheWay("wipe, some in the queue", x -> x.wipe(), NOT_POSSIBLE);
        changesNothing("wipe, none", RefusalTest::wiped, x -> x.wipe(), NONE);
    }

    private static void settingsAndCounters() {
        onTheWay("set -1", x -> x.set(-1, 1), BAD_VALUE);
        onTheWay("set 5", x -> x.set(5, 1), BAD_VALUE);
        int[] below = {0, 0, 0, -1, -1};
        int[] above = {17, 5, 5, 2, 3};
        int[] already = {8, 4, 1, 0, 0};
        for (int i = 0; i < 5; i++) {
            int which = i;
            onTheWay("set, below, " + i, x -> x.set(which, below[which]), BAD_VALUE);
            onTheWay("set, above, " + i, x -> x.set(which, above[which]), BAD_VALUE);
            onTheWay("set, so already, " + i, x -> x.set(which, already[which]), NONE);
        }
        onTheWay("set, more in the queue", x -> x.set(0, 1), NOT_POSSIBLE);
        onTheWay("setCounter -1", x -> x.setCounter(-1, 1), UNKNOWN);
        onTheWay("setCounter 8", x -> x.setCounter(8, 1), UNKNOWN);
        onTheWay("setCounter to -1", x -> x.setCounter(0, -1), BAD_VALUE);
        onTheWay("setCounter to 4", x -> x.setCounter(0, 4), BAD_VALUE);
        onTheWay("setCounter, so already", x -> x.setCounter(5, 3), NONE);
    }

    private static void textAndHistory() {
        String most = "l0:1;l1:1;l2:1;l3:1;l4:1;l5:1;l6:1;l7:1;l8:1;l9:1;l0:1;l12:1";
        changesNothing("type, full", () -> withText(most), x -> x.type('1'), FULL);
        changesNothing("fault, none", () -> withText(most), x -> x.fault(), NONE);
        changesNothing("fault", () -> withText("l0:1;x"), x -> x.fault(), 5);
        changesNothing("undo, no history", RefusalTest::withoutHistory, x -> x.undo(), NONE);
        changesNothing("restore, no snapshot", RefusalTest::withoutSnapshot, x -> x.restore(), NONE);
        changesNothing("clearText of none", () -> withText(""), x -> x.clearText(), 0);
    }

    private static void acts() {
        onTheWay("act -1", x -> x.act(-1, 0), UNKNOWN);
        onTheWay("act 8", x -> x.act(8, 0), UNKNOWN);
        onTheWay("act, what -1", x -> x.act(0, -1), BAD_VALUE);
        onTheWay("act, what 10", x -> x.act(0, 10), BAD_VALUE);
        onTheWay("act, no value", x -> x.act(7, 3), NONE);
        onTheWay("act, it waits", x -> x.act(7, 5), NONE);
        onTheWay("act, a store", x -> x.act(2, 9), NONE);
    }

    private static void sources() {
        onTheWay("source -1", x -> x.source(-1, 0), UNKNOWN);
        onTheWay("source 8", x -> x.source(8, 0), UNKNOWN);
        onTheWay("source, byte -1", x -> x.source(0, -1), BAD_VALUE);
        onTheWay("source, byte 3", x -> x.source(0, 3), BAD_VALUE);
        onTheWay("source, not so many", x -> x.source(0, 2), BAD_VALUE);
        onTheWay("source, a store", x -> x.source(2, 0), NONE);
        onTheWay("source, no value", x -> x.source(7, 0), NONE);
    }

    private static void otherQuestions() {
        onTheWay("memory -1", x -> x.memory(-1), UNKNOWN);
        onTheWay("memory 64", x -> x.memory(64), UNKNOWN);
        onTheWay("counter -1", x -> x.counter(-1), UNKNOWN);
        onTheWay("counter 8", x -> x.counter(8), UNKNOWN);
        onTheWay("plain -1", x -> x.plain(-1), UNKNOWN);
        onTheWay("plain 8", x -> x.plain(8), UNKNOWN);
        onTheWay("plain, a store", x -> x.plain(2), NONE);
        onTheWay("count -1", x -> x.count(-1), BAD_VALUE);
        onTheWay("count 20", x -> x.count(20), BAD_VALUE);
    }

    /** What only asks what would be changes nothing, either. */
    private static void wouldBe() {
        onTheWay("ifGuessed -1", x -> x.ifGuessed(-1, 0), BAD_VALUE);
        onTheWay("ifGuessed 3", x -> x.ifGuessed(3, 0), BAD_VALUE);
        onTheWay("ifGuessed, what -1", x -> x.ifGuessed(0, -1), BAD_VALUE);
        onTheWay("ifGuessed, what 3", x -> x.ifGuessed(0, 3), BAD_VALUE);
        OvertakingLoads asked = onItsWay();
        onTheWay("ifGuessed", x -> x.ifGuessed(1, 0), asked.ifGuessed(1, 0));
        onTheWay("doneIn", x -> x.doneIn(), asked.doneIn());
        onTheWay("bestGuess", x -> x.bestGuess(), asked.bestGuess());
        onTheWay("leastQueue", x -> x.leastQueue(), asked.leastQueue());
        changesNothing("doneIn, all retired", RefusalTest::retired, x -> x.doneIn(), 0);
    }
}
