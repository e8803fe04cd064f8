/** Promises 12 to 14: undo, keep, restore. */
public final class HistoryTest {
    private static final int NONE = OvertakingLoads.NONE;

    public static void main(String[] args) {
        undoOfNothing();
        atMostFour();
        whatIsRecorded();
        undoRestoresAll();
        keepAndRestore();
        restoreIsAnAct();
        snapshotIsApart();
        Check.end("HistoryTest");
    }

    private static void undoOfNothing() {
        OvertakingLoads x = new OvertakingLoads();
        Check.due("undo", x.undo(), NONE);
        x.pass(1);
        Check.due("undo one", x.undo(), 0);
        Check.due("beats", x.count(0), 0);
        Check.due("undo none", x.undo(), NONE);
    }

    private static void atMostFour() {
        OvertakingLoads x = new OvertakingLoads();
        for (int i = 1; i <= 7; i++) {
            x.pass(i);
            Check.due("states", x.count(13), Math.min(i, 4));
        }
        int[] beats = {21, 15, 10, 6};
        for (int i = 0; i < 4; i++) {
            Check.due("left", x.undo(), 3 - i);
            Check.due("beats", x.count(0), beats[i]);
        }
        Check.due("no more", x.undo(), NONE);
        Check.due("beats stay", x.count(0), 6);
        x.pass(1);
        x.pass(1);
        Check.due("recorded again", x.undo(), 1);
        Check.due("beats again", x.count(0), 7);
    }

    private static void whatIsRecorded() {
        OvertakingLoads x = new OvertakingLoads();
        Check.due("keep", x.keep(), 0);
        x.type('l');
        x.clearText();
        x.fault();
        x.act(0, 0);
        x.doneIn();
        x.ifGuessed(1, 0);
        x.bestGuess();
        x.leastQueue();
        x.undo();
        Check.due("these are no acts of the user", x.count(13), 0);
        x.store(0, 1, 1, 0, 0);
        Check.due("store", x.count(13), 1);
        x.load(0, 1, 0, 0);
        Check.due("load", x.count(13), 2);
        Check.typeText(x, "l0:1;l0:1");
        x.addAll();
        Check.due("addAll", x.count(13), 3);
        x.wipe();
        Check.due("wipe", x.count(13), 4);
        x.undo();
        x.undo();
        x.undo();
        x.undo();
        x.set(0, 1);
        Check.due("set", x.count(13), 1);
        x.setCounter(0, 1);
        Check.due("setCounter", x.count(13), 2);
        x.restore();
        Check.due("restore", x.count(13), 3);
        x.pass(1);
        Check.due("pass", x.count(13), 4);
    }

    /** On its way after two beats; each comparison takes one of its own, so that none is asked more than 512 times. */
    private static OvertakingLoads onItsWay() {
        OvertakingLoads x = new OvertakingLoads();
        x.set(1, 4);
        Check.typeText(x, "s3:1=77/4;l3:1@5;l0:3;s0:2=999;l1:1/1@2;s1:1=3");
        x.addAll();
        x.pass(2);
        return x;
    }

    private static OvertakingLoads atItsEnd() {
        OvertakingLoads x = onItsWay();
        x.pass(500);
        return x;
    }

    private static void undone(String name, OvertakingLoads x, OvertakingLoads before) {
        x.undo();
        Check.holds(name + " undone", tellAll(x).equals(tellAll(before)));
    }

    private static void undoRestoresAll() {
        OvertakingLoads x = onItsWay();
        x.pass(3);
        undone("a few beats", x, onItsWay());
        undone("many beats", atItsEnd(), onItsWay());
        x = onItsWay();
        x.setCounter(5, 3);
        undone("a counter", x, onItsWay());
        x = onItsWay();
        x.set(4, 2);
        undone("a setting", x, onItsWay());
        x = atItsEnd();
        x.wipe();
        undone("wiping", x, atItsEnd());
        x = atItsEnd();
        x.store(9, 1, 9, 0, 0);
        undone("a store", x, atItsEnd());
        x = atItsEnd();
        x.addAll();
        undone("many acts", x, atItsEnd());
    }

    private static void leave(OvertakingLoads x) {
        x.pass(30);
        x.wipe();
        x.set(0, 1);
        x.store(1, 1, 1, 0, 0);
    }

    private static void keepAndRestore() {
        OvertakingLoads none = new OvertakingLoads();
        Check.due("no snapshot", none.restore(), NONE);
        Check.due("not recorded", none.count(13), 0);
        OvertakingLoads once = onItsWay();
        Check.due("keep", once.keep(), 2);
        leave(once);
        Check.due("restore", once.restore(), 2);
        Check.holds("all as it was", tellAll(once).equals(tellAll(onItsWay())));
        leave(once);
        Check.due("restore again", once.restore(), 2);
        Check.holds("the snapshot stays", tellAll(once).equals(tellAll(onItsWay())));
        OvertakingLoads twice = onItsWay();
        twice.keep();
        twice.pass(500);
        Check.due("keep another", twice.keep(), 502);
        twice.wipe();
        Check.due("restore the other", twice.restore(), 502);
        Check.holds("all as it was then", tellAll(twice).equals(tellAll(atItsEnd())));
    }

    private static void restoreIsAnAct() {
        OvertakingLoads x = new OvertakingLoads();
        x.keep();
        x.pass(9);
        Check.due("restore", x.restore(), 0);
        Check.due("recorded", x.count(13), 2);
        Check.due("undo it", x.undo(), 1);
        Check.due("beats", x.count(0), 9);
        Check.due("undo the pass", x.undo(), 0);
        Check.due("restore once more", x.restore(), 0);
        Check.due("the history is not restored", x.count(13), 1);
    }

    private static void snapshotIsApart() {
        OvertakingLoads x = new OvertakingLoads();
        x.pass(3);
        x.keep();
        x.undo();
        Check.due("undo does not take the snapshot", x.restore(), 3);
        x.pass(1);
        x.keep();
        x.undo();
        x.undo();
        Check.due("a later one in its place", x.restore(), 4);
    }

    /** All that an object tells of its state, in one text. */
    static String tellAll(OvertakingLoads x) {
        StringBuilder told = new StringBuilder();
        for (int what = 0; what <= 19; what++) {
            if (what != 13 && what != 14) {
                told.append(x.count(what)).append(' ');
            }
        }
        for (int i = 0; i < 64; i++) {
            told.append(x.memory(i)).append(' ');
        }
        for (int i = 0; i < 8; i++) {
            told.append(x.counter(i)).append(' ');
        }
        for (int i = 0; i < x.count(1); i++) {
            for (int what = 0; what <= 9; what++) {
                told.append(x.act(i, what)).append(' ');
            }
            told.append(x.plain(i)).append(' ');
            for (int k = 0; k < 3; k++) {
                told.append(x.source(i, k)).append(' ');
            }
        }
        told.append(x.doneIn());
        return told.toString();
    }
}
