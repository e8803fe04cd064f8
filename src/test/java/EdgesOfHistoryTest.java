/** Each sentence of the document's parts HISTORY and ERRORS that names an edge has a test of its own here. */
public final class EdgesOfHistoryTest {
    private static final int UNKNOWN = OvertakingLoads.UNKNOWN;
    private static final int BAD_VALUE = OvertakingLoads.BAD_VALUE;
    private static final int FULL = OvertakingLoads.FULL;
    private static final int NONE = OvertakingLoads.NONE;

    public static void main(String[] args) {
        atMostFour();
        removesTheLatest();
        eachActRecords();
        errorsAndNoneDoNot();
        oneSnapshot();
        whatAStateIs();
        asIfNothingHadBeen();
        orderOfTheErrors();
        noneIsNoError();
        constants();
        Check.end("EdgesOfHistoryTest");
    }

    private static void atMostFour() {
        Check.says("A history of at most 4 states is kept; when one more is recorded, the oldest one is dropped");
        OvertakingLoads x = new OvertakingLoads();
        Check.due("none at first", x.count(13), 0);
        for (int recorded = 1; recorded <= 9; recorded++) {
            x.pass(recorded);
            Check.due("states", x.count(13), Math.min(4, recorded));
        }
        int[] beats = {36, 28, 21, 15};
        for (int i = 0; i < 4; i++) {
            Check.due("left", x.undo(), 3 - i);
            Check.due("beats", x.count(0), beats[i]);
        }
        Check.due("the fifth one was dropped", x.undo(), NONE);
        Check.due("no further back", x.count(0), 15);
        // Full once more, from a history that has been emptied in between.
        for (int recorded = 1; recorded <= 5; recorded++) {
            x.pass(1);
        }
        for (int i = 0; i < 4; i++) {
            Check.due("left", x.undo(), 3 - i);
            Check.due("beats", x.count(0), 19 - i);
        }
        Check.due("dropped", x.undo(), NONE);
    }

    private static void removesTheLatest() {
        Check.says("undo() removes and restores the latest one.");
        OvertakingLoads x = new OvertakingLoads();
        Check.due("there is none", x.undo(), NONE);
        x.pass(1);
        x.pass(2);
        Check.due("the latest", x.undo(), 1);
        Check.due("beats", x.count(0), 1);
        x.pass(4);
        Check.due("removed: two are left", x.count(13), 2);
        Check.due("the later one", x.undo(), 1);
        Check.due("beats", x.count(0), 1);
        Check.due("the first one", x.undo(), 0);
        Check.due("beats", x.count(0), 0);
        Check.due("there is none any more", x.undo(), NONE);
    }

    private static void eachActRecords() {
        Check.says("Each call of a method that is described as an act of the user, and returns no error and not NONE, "
            + "records the state that was before it.");
        OvertakingLoads x = new OvertakingLoads();
        x.store(0, 1, 1, 0, 0);
        Check.due("store", x.count(13), 1);
        x.load(0, 1, 0, 0);
        Check.due("load", x.count(13), 2);
        Check.typeText(x, "l0:1;l0:1;l0:1");
        x.addAll();
        Check.due("addAll, once", x.count(13), 3);
        x.pass(1);
        Check.due("pass", x.count(13), 4);
        undoAll(x, 5, 2, 1, 0);
        x.set(0, 1);
        Check.due("set", x.count(13), 1);
        x.setCounter(0, 1);
        Check.due("setCounter", x.count(13), 2);
        x.keep();
        Check.due("keep is none", x.count(13), 2);
        x.restore();
        Check.due("restore, though nothing changes by it", x.count(13), 3);
        x.load(0, 1, 0, 0);
        x.wipe();
        Check.due("wipe", x.count(13), 4);
        undoAll(x, 1, 0, 0, 0);
        x.type('l');
        x.clearText();
        x.undo();
        Check.due("type, clearText and undo are none", x.count(13), 0);
    }

    /** How many acts there are after each of four calls of undo. */
    private static void undoAll(OvertakingLoads x, int... acts) {
        for (int i = 0; i < 4; i++) {
            Check.due("left", x.undo(), 3 - i);
            Check.due("acts", x.count(1), acts[i]);
        }
    }

    private static void errorsAndNoneDoNot() {
        Check.says("and returns no error and not NONE");
        OvertakingLoads x = new OvertakingLoads();
        x.wipe();
        x.restore();
        x.set(0, 8);
        x.setCounter(0, 0);
        Check.due("NONE", x.count(13), 0);
        x.store(64, 1, 0, 0, 0);
        x.store(0, 1, 256, 0, 0);
        x.load(0, 1, 0, 8);
        x.load(0, 4, 0, 0);
        x.addAll();
        x.pass(0);
        x.pass(501);
        x.set(0, 17);
        x.set(5, 1);
        x.setCounter(8, 1);
        x.setCounter(0, 4);
        Check.due("errors", x.count(13), 0);
        Check.typeText(x, "l0:1;s0:1=256");
        x.addAll();
        Check.due("an error of the second act", x.count(13), 0);
        for (int i = 0; i < 48; i++) {
            x.load(0, 1, 0, 0);
        }
        Check.due("full", x.count(13), 4);
        x.undo();
        x.load(0, 1, 0, 0);
        x.load(0, 1, 0, 0);
        x.store(0, 1, 0, 0, 0);
        Check.due("FULL: the states are those of acts", x.undo() + x.count(1), 3 + 47);
        x.pass(1);
        x.wipe();
        x.set(0, 1);
        Check.due("NOT_POSSIBLE", x.undo() + x.count(0), 3);
    }

    private static void oneSnapshot() {
        Check.says("There is one snapshot, empty at first.");
        OvertakingLoads x = new OvertakingLoads();
        Check.due("empty", x.restore(), NONE);
        x.pass(1);
        Check.due("still empty", x.restore(), NONE);
        Check.due("the first", x.keep(), 1);
        x.pass(1);
        Check.due("the second", x.keep(), 2);
        x.pass(1);
        Check.due("in its place", x.restore(), 2);
        Check.due("it stays", x.restore(), 2);
        OvertakingLoads first = new OvertakingLoads();
        first.keep();
        first.pass(1);
        Check.due("the state without any beat is one, too", first.restore(), 0);
    }

    private static void whatAStateIs() {
        Check.says("A state is everything but the text, the history and the snapshot.");
        OvertakingLoads x = Rows.machine("s4:1=7/2;l4:1@5");
        x.keep();
        Check.typeText(x, "l9:1");
        x.pass(9);
        x.undo();
        Check.due("undo leaves the text", x.count(14), 4);
        Check.due("and restores the acts", x.count(5), 0);
        x.pass(9);
        x.keep();
        x.undo();
        Check.due("undo leaves the snapshot", x.restore(), 9);
        Check.due("restore restores the acts", x.count(5), 2);
        Check.due("memory", x.memory(4), 7);
        Check.due("counter", x.counter(5), 1);
        Check.due("counts", x.count(8), 1);
        Check.due("restore leaves the text", x.count(14), 4);
        Check.due("restore leaves the history, and is recorded in it", x.count(13), 2);
        OvertakingLoads settings = new OvertakingLoads();
        settings.keep();
        settings.set(0, 1);
        settings.set(4, 2);
        settings.restore();
        Check.due("settings are of the state", settings.count(15) + settings.count(19), 8);
        settings.undo();
        Check.due("by undo as well", settings.count(15) + settings.count(19), 3);
        OvertakingLoads first = Rows.machine("l4:1;s4:1=7");
        first.keep();
        first.pass(9);
        first.wipe();
        first.load(4, 1, 0, 0);
        Check.due("wiped", first.plain(0), 7);
        first.restore();
        Check.due("the memory as it was is of the state", first.plain(0), 0);
    }

    /** Stores that have their data late, loads that waited, one that was done again, in a beat of all that. */
    private static OvertakingLoads inTheMiddle() {
        OvertakingLoads x = Rows.wide("s4:1=7/2,6;l9:1/3@5;l4:1;s9:2=300/1,5;l8:1@5;l10:1@5");
        x.setCounter(5, 3);
        x.pass(4);
        x.keep();
        return x;
    }

    /** Makes four other things of the machine, each an act of the user. */
    private static void leave(OvertakingLoads x) {
        x.pass(40);
        x.wipe();
        Check.typeText(x, "l1:1;s2:1=2;s3:3=3;l3:2/1@1;s9:1=9;l3:2@5;l9:2");
        x.addAll();
        x.pass(2);
    }

    /** All that is told of the next beats. */
    private static String tellTheBeats(OvertakingLoads x) {
        StringBuilder told = new StringBuilder();
        for (int beats = 0; beats < 6; beats++) {
            for (int act = 0; act < 6; act++) {
                for (int what = 3; what <= 8; what++) {
                    told.append(x.act(act, what)).append(' ');
                }
                told.append(x.source(act, 0)).append(' ');
            }
            for (int what = 2; what <= 12; what++) {
                told.append(x.count(what)).append(' ');
            }
            told.append(x.counter(5)).append('\n');
            x.pass(1);
        }
        return told.toString();
    }

    private static void asIfNothingHadBeen() {
        Check.says("A state is everything but");
        String due = tellTheBeats(inTheMiddle());
        OvertakingLoads undone = inTheMiddle();
        leave(undone);
        for (int left = 3; left >= 0; left--) {
            Check.due("undo", undone.undo(), left);
        }
        Check.holds("undone, all goes on as it would have", tellTheBeats(undone).equals(due));
        OvertakingLoads restored = inTheMiddle();
        leave(restored);
        Check.due("restore", restored.restore(), 4);
        Check.holds("restored, all goes on as it would have", tellTheBeats(restored).equals(due));
    }

    private static void orderOfTheErrors() {
        Check.says("Where several errors can apply, the order of the @return line is the order of the checks.");
        OvertakingLoads x = new OvertakingLoads();
        for (int i = 0; i < 48; i++) {
            x.store(0, 1, 0, 20, 0);
        }
        Check.due("store, UNKNOWN ahead of BAD_VALUE", x.store(64, 4, -1, 21, 21), UNKNOWN);
        Check.due("store, the last byte ahead of BAD_VALUE", x.store(63, 2, -1, 21, 21), UNKNOWN);
        Check.due("store, BAD_VALUE ahead of FULL", x.store(0, 1, 0, 0, 21), BAD_VALUE);
        Check.due("load, UNKNOWN ahead of BAD_VALUE", x.load(0, 4, 21, 8), UNKNOWN);
        Check.due("load, UNKNOWN ahead of FULL", x.load(0, 1, 0, -1), UNKNOWN);
        Check.due("load, BAD_VALUE ahead of FULL", x.load(0, 1, 21, 0), BAD_VALUE);
        Check.due("nothing but FULL", x.load(0, 1, 0, 0), FULL);
        Check.typeText(x, "s63:2=0;s0:1=256;x");
        Check.due("addAll, the fault ahead of others", x.addAll(), -117);
        Check.typeText(x, "s63:2=0;s0:1=256");
        Check.due("addAll, the first act's ahead of the second's", x.addAll(), UNKNOWN);
        Check.typeText(x, "s0:1=256;s63:2=0");
        Check.due("addAll, BAD_VALUE ahead of FULL", x.addAll(), BAD_VALUE);
        Check.due("setCounter, UNKNOWN ahead of BAD_VALUE", x.setCounter(8, 4), UNKNOWN);
        Check.due("act, UNKNOWN ahead of BAD_VALUE", x.act(48, 10), UNKNOWN);
        Check.due("source, UNKNOWN ahead of BAD_VALUE", x.source(48, 3), UNKNOWN);
        x.pass(1);
        Check.due("set, BAD_VALUE ahead of NOT_POSSIBLE", x.set(0, 0), BAD_VALUE);
    }

    private static void noneIsNoError() {
        Check.says("NONE is no error; it is returned only if no error applies.");
        OvertakingLoads x = Rows.machine("s0:2=1;l0:2/9");
        Check.due("a store has not so many bytes", x.source(0, 2), BAD_VALUE);
        Check.due("a store has no byte 3", x.source(0, 3), BAD_VALUE);
        Check.due("a store", x.source(0, 1), NONE);
        Check.due("a load without a value has not so many bytes", x.source(1, 2), BAD_VALUE);
        Check.due("a load without a value has no byte -1", x.source(1, -1), BAD_VALUE);
        Check.due("a load without a value", x.source(1, 1), NONE);
        Check.due("the counter of no place is not so already", x.setCounter(8, 0), UNKNOWN);
        Check.due("no setting is not so already", x.set(5, 0), BAD_VALUE);
        Check.due("no act is not a store", x.plain(2), UNKNOWN);
        Check.due("no such number of an act that waits", x.act(0, 10), BAD_VALUE);
        Check.due("no such guess", x.ifGuessed(3, 0), BAD_VALUE);
    }

    private static void constants() {
        Check.says("`UNKNOWN = -1`: There is no such act, address or place.");
        Check.due("UNKNOWN", OvertakingLoads.UNKNOWN, -1);
        OvertakingLoads x = new OvertakingLoads();
        Check.due("act", x.act(0, 0), -1);
        Check.due("address", x.memory(64), -1);
        Check.due("place", x.counter(8), -1);
        Check.says("`BAD_VALUE = -2`: Another argument is out of range.");
        Check.due("BAD_VALUE", OvertakingLoads.BAD_VALUE, -2);
        Check.due("beats", x.pass(0), -2);
        Check.says("`FULL = -3`: There is no more room.");
        Check.due("FULL", OvertakingLoads.FULL, -3);
        for (int i = 0; i < 60; i++) {
            x.type('s');
        }
        Check.due("characters", x.type('s'), -3);
        Check.says("`NOT_POSSIBLE = -4`: This is not possible.");
        Check.due("NOT_POSSIBLE", OvertakingLoads.NOT_POSSIBLE, -4);
        x.store(0, 1, 0, 9, 0);
        x.pass(1);
        Check.due("wipe", x.wipe(), -4);
        Check.says("`NONE = -5`: There is no such thing; not an error.");
        Check.due("NONE", OvertakingLoads.NONE, -5);
        Check.due("snapshot", x.restore(), -5);
    }
}
