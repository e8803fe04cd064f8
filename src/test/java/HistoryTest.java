/** Promises 12 to 14: undo, keep, restore. */
public final class HistoryTest {
    private static final int NONE = OvertakingLoads.NONE;

    public static void main(String[] args) {
        undoOfNothing();
        atMostFour();
        whatIsRecorded();
        undoRestoresAll();
        keepAndRestore();
        restoreIsAnAct();
        snapshotIsApart();
        Check.end("HistoryTest");
    }

    private static void undoOfNothing() {
        OvertakingLoads x = new OvertakingLoads();
        Check.due("undo", x.undo(), NONE);
        x.pass(1);
        Check.due("undo one", x.undo(), 0);
        Check.due("beats", x.count(0), 0);
        Check.due("undo none", x.undo(), NONE);
    }

    private static void atMostFour() {
        OvertakingLoads x = new OvertakingLoads();
        for (int i = 1; i <= 7; i++) {
            x.pass(i);
            Check.due("states", x.count(13), Math.min(i, 4));
        }
        int[] beats = {21, 15, 10, 6};
        for (int i = 0; i < 4; i++) {
            Check.due("left", x.undo(), 3 - i);
            Check.due("beats", x.count(0), beats[i]);
        }
        Check.due("no more", x.undo(), NONE);
        Check.due("beats stay", x.count(0), 6);
        x.pass(1);
        x.pass(1);
        Check.due("recorded again", x.undo(), 1);
        Check.due("beats again", x.count(0), 7);
    }

    private static void whatIsRecorded() {
        OvertakingLoads x = new OvertakingLoads();
        Check.due("keep", x.keep(), 0);
        x.type('l');
        x.clearText();
        x.fault();
        x.act(0, 0);
        x.doneIn();
        x.ifGuessed(1, 0);
        x.bestGuess();
        x.leastQueue();
        x.undo();
        Check.due("these are no acts of the user", x.count(13), 0);
        x.store(0, 1, 1, 0, 0);
        Check.due("store", x.count(13), 1);
        x.load(0, 1, 0, 0);
        Check.due("load", x.count(13), 2);
        Check.typeText(x, "l0:1;l0:1");
        x.addAll();
        Check.due("addAll", x.count(13), 3);
        x.wipe();
        Check.due("wipe", x.count(13), 4);
        x.undo();
        x.undo();
        x.undo();
        x.undo();
        x.set(0, 1);
        Check.due("set", x.count(13), 1);
        x.setCounter(0, 1);
        Check.due("setCounter", x.count(13), 2);
        x.restore();
        Check.due("restore", x.count(13), 3);
        x.pass(1);
        Check.due("pass", x.count(13), 4);
    }

    private static void undoRestoresAll() {
        OvertakingLoads x = new OvertakingLoads();
        x.set(1, 4);
        Check.typeText(x, "s3:1=77/4;l3:1@5;l0:3;s0:2=999;l1:1/1@2;s1:1=3");
        x.addAll();
        x.pass(2);
        String before = tellAll(x);
        x.pass(3);
        x.undo();
        Check.holds("a few beats are undone", tellAll(x).equals(before));
        x.pass(500);
        x.undo();
        Check.holds("many beats are undone", tellAll(x).equals(before));
        x.setCounter(5, 3);
        x.undo();
        Check.holds("a counter is undone", tellAll(x).equals(before));
        x.set(4, 2);
        x.undo();
        Check.holds("a setting is undone", tellAll(x).equals(before));
        x.pass(500);
        String end = tellAll(x);
        x.wipe();
        x.undo();
        Check.holds("wiping is undone", tellAll(x).equals(end));
        x.store(9, 1, 9, 0, 0);
        x.undo();
        Check.holds("a store is undone", tellAll(x).equals(end));
    }

    private static void keepAndRestore() {
        OvertakingLoads x = new OvertakingLoads();
        Check.due("no snapshot", x.restore(), NONE);
        Check.due("not recorded", x.count(13), 0);
        x.set(1, 4);
        Check.typeText(x, "s3:1=77/4;l3:1@5;l0:3;s0:2=999;l1:1/1@2;s1:1=3");
        x.addAll();
        x.pass(2);
        Check.due("keep", x.keep(), 2);
        String kept = tellAll(x);
        for (int i = 0; i < 2; i++) {
            x.pass(30);
            x.wipe();
            x.set(0, 1);
            x.store(1, 1, 1, 0, 0);
            Check.due("restore", x.restore(), 2);
            Check.holds("all as it was, and the snapshot stays", tellAll(x).equals(kept));
        }
        x.pass(30);
        Check.due("keep another", x.keep(), 32);
        kept = tellAll(x);
        x.wipe();
        Check.due("restore the other", x.restore(), 32);
        Check.holds("all as it was then", tellAll(x).equals(kept));
    }

    private static void restoreIsAnAct() {
        OvertakingLoads x = new OvertakingLoads();
        x.keep();
        x.pass(9);
        Check.due("restore", x.restore(), 0);
        Check.due("recorded", x.count(13), 2);
        Check.due("undo it", x.undo(), 1);
        Check.due("beats", x.count(0), 9);
        Check.due("undo the pass", x.undo(), 0);
        Check.due("restore once more", x.restore(), 0);
        Check.due("the history is not restored", x.count(13), 1);
    }

    private static void snapshotIsApart() {
        OvertakingLoads x = new OvertakingLoads();
        x.pass(3);
        x.keep();
        x.undo();
        Check.due("undo does not take the snapshot", x.restore(), 3);
        x.pass(1);
        x.keep();
        x.undo();
        x.undo();
        Check.due("a later one in its place", x.restore(), 4);
    }

    /** All that an object tells of its state, in one text. */
    static String tellAll(OvertakingLoads x) {
        StringBuilder told = new StringBuilder();
        for (int what = 0; what <= 19; what++) {
            if (what != 13 && what != 14) {
                told.append(x.count(what)).append(' ');
            }
        }
        for (int i = 0; i < 64; i++) {
            told.append(x.memory(i)).append(' ');
        }
        for (int i = 0; i < 8; i++) {
            told.append(x.counter(i)).append(' ');
        }
        for (int i = 0; i < x.count(1); i++) {
            for (int what = 0; what <= 9; what++) {
                told.append(x.act(i, what)).append(' ');
            }
            told.append(x.plain(i)).append(' ');
            for (int k = 0; k < 3; k++) {
                told.append(x.source(i, k)).append(' ');
            }
        }
        told.append(x.doneIn());
        return told.toString();
    }
}
