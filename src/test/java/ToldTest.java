/** Promises 15 to 20: what is told. */
public final class ToldTest {
    private static final int UNKNOWN = OvertakingLoads.UNKNOWN;
    private static final int BAD_VALUE = OvertakingLoads.BAD_VALUE;
    private static final int NONE = OvertakingLoads.NONE;
    private static final int LOWEST = Integer.MIN_VALUE;
    private static final int HIGHEST = Integer.MAX_VALUE;

    public static void main(String[] args) {
        actErrors();
        actTells();
        againAddsUp();
        sourceAnswers();
        memoryAnswers();
        counterAnswers();
        plainAnswers();
        countAnswers();
        tellingChangesNothing();
        Check.end("ToldTest");
    }

    private static void actErrors() {
        OvertakingLoads x = new OvertakingLoads();
        Check.due("act 0", x.act(0, 0), UNKNOWN);
        Check.due("act 0, what bad too", x.act(0, 10), UNKNOWN);
        x.store(0, 1, 0, 0, 0);
        Check.due("act -1", x.act(-1, 0), UNKNOWN);
        Check.due("act 1", x.act(1, 0), UNKNOWN);
        Check.due("act lowest", x.act(LOWEST, -1), UNKNOWN);
        Check.due("act highest", x.act(HIGHEST, 0), UNKNOWN);
        Check.due("what -1", x.act(0, -1), BAD_VALUE);
        Check.due("what 10", x.act(0, 10), BAD_VALUE);
        Check.due("what lowest", x.act(0, LOWEST), BAD_VALUE);
        Check.due("what highest", x.act(0, HIGHEST), BAD_VALUE);
    }

    private static void dueAct(OvertakingLoads x, int act, int... due) {
        for (int what = 0; what < due.length; what++) {
            Check.due("beat " + x.count(0) + ", act " + act + ", " + what, x.act(act, what), due[what]);
        }
    }

    private static void actTells() {
        OvertakingLoads x = new OvertakingLoads();
        x.store(6, 2, 515, 2, 1);
        x.load(7, 1, 1, 3);
        dueAct(x, 0, 1, 6, 2, 515, 0, NONE, 0, 0, 0, NONE);
        dueAct(x, 1, 0, 7, 1, NONE, 0, NONE, 0, 0, 0, 3);
        x.pass(1);
        dueAct(x, 0, 1, 6, 2, 515, 1, 2, 1, 0, 0, NONE);
        dueAct(x, 1, 0, 7, 1, NONE, 1, 1, 1, 0, 0, 3);
        x.pass(1);
        dueAct(x, 1, 0, 7, 1, 0, 2, 1, 1, 0, 0, 3);
        x.pass(1);
        dueAct(x, 0, 1, 6, 2, 515, 2, 2, 1, 0, 0, NONE);
        dueAct(x, 1, 0, 7, 1, NONE, 0, NONE, 1, 1, 0, 3);
        x.pass(1);
        dueAct(x, 0, 1, 6, 2, 515, 3, 2, 1, 0, 0, NONE);
        dueAct(x, 1, 0, 7, 1, NONE, 1, 4, 2, 1, 0, 3);
        x.pass(1);
        dueAct(x, 1, 0, 7, 1, 2, 2, 4, 2, 1, 0, 3);
        x.pass(1);
        dueAct(x, 1, 0, 7, 1, 2, 3, 4, 2, 1, 0, 3);
    }

    /** Count 8 and act what 7 have the same words, so over a row that was never wiped they tell of the same. */
    private static void againAddsUp() {
        OvertakingLoads x = Rows.wide("s4:1=7/2;s5:1=8/4;l4:2@1;l9:1@2;s9:1=1/3;l9:2@3;l9:1@4");
        int most = 0;
        for (int beat = 0; beat < 20; beat++) {
            int again = 0;
            for (int act = 0; act < x.count(1); act++) {
                again += x.act(act, 7);
            }
            Check.due("beat " + beat + ", again", again, x.count(8));
            Check.holds("acts left with those", x.count(9) >= again);
            most = again;
            x.pass(1);
        }
        Check.due("in the end", most, 3);
        Check.due("the first load, by each store", x.act(2, 7), 2);
        Check.due("the one behind it left with it", x.act(3, 7), 0);
        Check.due("the store as well", x.act(4, 7), 0);
        Check.due("the last load but one", x.act(5, 7), 1);
        Check.due("the last load left with it", x.act(6, 7), 0);
    }

    private static void sourceAnswers() {
        OvertakingLoads x = new OvertakingLoads();
        Check.due("no act", x.source(0, 0), UNKNOWN);
        Check.due("no act, byte bad too", x.source(0, 3), UNKNOWN);
        x.store(4, 2, 513, 0, 0);
        x.load(5, 2, 0, 0);
        x.load(5, 3, 9, 0);
        x.set(3, 1);
        Check.due("act -1", x.source(-1, 0), UNKNOWN);
        Check.due("act 3", x.source(3, 0), UNKNOWN);
        Check.due("a load that waits", x.source(1, 0), NONE);
        Check.due("byte -1", x.source(1, -1), BAD_VALUE);
        Check.due("byte 3", x.source(2, 3), BAD_VALUE);
        Check.due("byte highest", x.source(2, HIGHEST), BAD_VALUE);
        Check.due("byte lowest", x.source(2, LOWEST), BAD_VALUE);
        Check.due("not so many bytes", x.source(1, 2), BAD_VALUE);
        Check.due("not so many bytes of a store", x.source(0, 2), BAD_VALUE);
        Check.due("a store", x.source(0, 1), NONE);
        x.pass(1);
        Check.due("a store that is done", x.source(0, 0), NONE);
        x.pass(1);
        Check.due("a load that is done", x.source(1, 0), 0);
        Check.due("a load that is issued", x.source(2, 2), NONE);
        OvertakingLoads y = new OvertakingLoads();
        y.set(1, 4);
        y.set(3, 1);
        y.store(0, 1, 1, 0, 0);
        y.store(4, 2, 513, 0, 0);
        y.load(5, 2, 0, 0);
        y.pass(1);
        Check.due("the store", y.source(2, 0), 1);
        Check.due("the memory", y.source(2, 1), 99);
        y.pass(9);
        Check.due("the store, when all are retired", y.source(2, 0), 1);
        Check.due("the memory, when all are retired", y.source(2, 1), 99);
        Check.due("a store that is retired", y.source(1, 0), NONE);
        OvertakingLoads z = new OvertakingLoads();
        z.store(4, 1, 1, 1, 0);
        z.load(4, 1, 0, 0);
        z.pass(1);
        Check.due("too early", z.source(1, 0), 99);
        z.pass(1);
        Check.due("it has no value any more", z.source(1, 0), NONE);
        z.pass(1);
        Check.due("again", z.source(1, 0), 99);
    }

    private static void memoryAnswers() {
        OvertakingLoads x = new OvertakingLoads();
        x.store(61, 3, 16711935, 0, 0);
        x.pass(3);
        Check.due("61", x.memory(61), 255);
        Check.due("62", x.memory(62), 0);
        Check.due("63", x.memory(63), 255);
        Check.due("64", x.memory(64), UNKNOWN);
        Check.due("-1", x.memory(-1), UNKNOWN);
        Check.due("lowest", x.memory(LOWEST), UNKNOWN);
        Check.due("highest", x.memory(HIGHEST), UNKNOWN);
    }

    private static void counterAnswers() {
        OvertakingLoads x = new OvertakingLoads();
        for (int place = 0; place < 8; place++) {
            x.setCounter(place, place % 4);
        }
        for (int place = 0; place < 8; place++) {
            Check.due("counter " + place, x.counter(place), place % 4);
        }
        Check.due("8", x.counter(8), UNKNOWN);
        Check.due("-1", x.counter(-1), UNKNOWN);
        Check.due("lowest", x.counter(LOWEST), UNKNOWN);
        Check.due("highest", x.counter(HIGHEST), UNKNOWN);
    }

    private static void plainAnswers() {
        OvertakingLoads x = new OvertakingLoads();
        Check.due("no act", x.plain(0), UNKNOWN);
        x.load(4, 3, 0, 0);
        x.store(4, 1, 7, 20, 20);
        x.store(5, 2, 2313, 0, 0);
        x.load(4, 3, 0, 0);
        x.store(5, 1, 1, 0, 0);
        x.load(4, 3, 0, 0);
        x.load(3, 1, 0, 0);
        x.load(6, 2, 0, 0);
        int[] due = {0, NONE, NONE, 7 + 9 * 256 + 9 * 65536, NONE, 7 + 256 + 9 * 65536, 0, 9};
        for (int beat = 0; beat < 40; beat++) {
            for (int i = 0; i < due.length; i++) {
                Check.due("beat " + beat + ", plain " + i, x.plain(i), due[i]);
            }
            x.pass(1);
        }
        Check.due("all retired", x.count(5), 8);
        Check.due("-1", x.plain(-1), UNKNOWN);
        Check.due("8", x.plain(8), UNKNOWN);
        Check.due("lowest", x.plain(LOWEST), UNKNOWN);
        Check.due("highest", x.plain(HIGHEST), UNKNOWN);
    }

    private static void dueCounts(OvertakingLoads x, int... due) {
        for (int what = 0; what < due.length; what++) {
            Check.due("beat " + x.count(0) + ", count " + what, x.count(what), due[what]);
        }
    }

    private static void countAnswers() {
        OvertakingLoads x = new OvertakingLoads();
        Check.due("-1", x.count(-1), BAD_VALUE);
        Check.due("20", x.count(20), BAD_VALUE);
        Check.due("lowest", x.count(LOWEST), BAD_VALUE);
        Check.due("highest", x.count(HIGHEST), BAD_VALUE);
        Check.typeText(x, "s6:2=515/2,1;l7:1@3;l6:1;l20:1/20");
        x.addAll();
        x.set(1, 3);
        dueCounts(x, 0, 4, 4, 0, 0, 0, 0, 0, 0, 0, 0, 0, 0, 2, 33, 8, 3, 1, 0, 0);
        x.pass(1);
        dueCounts(x, 1, 4, 1, 2, 1, 0, 0, 0, 0, 0, 0, 0, 1, 3, 33, 8, 3, 1, 0, 0);
        x.pass(1);
        dueCounts(x, 2, 4, 0, 2, 2, 0, 0, 0, 0, 0, 0, 0, 2, 4, 33, 8, 3, 1, 0, 0);
        x.pass(1);
        dueCounts(x, 3, 4, 3, 0, 1, 0, 0, 0, 1, 3, 0, 0, 2, 4, 33, 8, 3, 1, 0, 0);
        x.pass(2);
        dueCounts(x, 5, 4, 0, 1, 1, 2, 1, 1, 1, 3, 0, 0, 2, 4, 33, 8, 3, 1, 0, 0);
        x.pass(30);
        dueCounts(x, 35, 4, 0, 0, 0, 4, 3, 3, 1, 3, 0, 0, 2, 4, 33, 8, 3, 1, 0, 0);
        x.set(0, 16);
        x.set(1, 4);
        x.set(2, 2);
        x.set(3, 1);
        x.set(4, 2);
        x.clearText();
        dueCounts(x, 35, 4, 0, 0, 0, 4, 3, 3, 1, 3, 0, 0, 2, 4, 0, 16, 4, 2, 1, 2);
    }

    private static void tellingChangesNothing() {
        OvertakingLoads x = new OvertakingLoads();
        Check.typeText(x, "s6:2=515/2,1;l7:1@3;l6:1;l20:1/20");
        x.addAll();
        x.pass(2);
        String before = HistoryTest.tellAll(x);
        x.ifGuessed(1, 0);
        x.bestGuess();
        x.leastQueue();
        x.doneIn();
        x.fault();
        Check.holds("nothing has changed", HistoryTest.tellAll(x).equals(before));
        Check.due("nothing is recorded", x.count(13), 2);
    }
}
