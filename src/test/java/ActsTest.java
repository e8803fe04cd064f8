/** Promises 1 to 8: a new object, and the acts of the user. */
public final class ActsTest {
    private static final int UNKNOWN = OvertakingLoads.UNKNOWN;
    private static final int BAD_VALUE = OvertakingLoads.BAD_VALUE;
    private static final int FULL = OvertakingLoads.FULL;
    private static final int NOT_POSSIBLE = OvertakingLoads.NOT_POSSIBLE;
    private static final int NONE = OvertakingLoads.NONE;
    private static final int LOWEST = Integer.MIN_VALUE;
    private static final int HIGHEST = Integer.MAX_VALUE;

    public static void main(String[] args) {
        newObject();
        storeAnswers();
        storeIsKept();
        loadAnswers();
        loadIsKept();
        rowIsFull();
        addAllAdds();
        addAllAddsAllOrNone();
        addAllFillsTheRow();
        passAnswers();
        wipeAnswers();
        wipeKeepsTheRest();
        setAnswers();
        setQueue();
        setCounterAnswers();
        Check.end("ActsTest");
    }

    private static void newObject() {
        OvertakingLoads x = new OvertakingLoads();
        for (int what = 0; what <= 14; what++) {
            Check.due("new: count " + what, x.count(what), 0);
        }
        int[] settings = {8, 2, 1, 0, 0};
        for (int i = 0; i < 5; i++) {
            Check.due("new: setting " + i, x.count(15 + i), settings[i]);
        }
        for (int i = 0; i < 64; i++) {
            Check.due("new: memory " + i, x.memory(i), 0);
        }
        for (int i = 0; i < 8; i++) {
            Check.due("new: counter " + i, x.counter(i), 0);
        }
        Check.due("new: act", x.act(0, 0), UNKNOWN);
        Check.due("new: undo", x.undo(), NONE);
        Check.due("new: restore", x.restore(), NONE);
        Check.due("new: wipe", x.wipe(), NONE);
        Check.due("new: fault", x.fault(), 0);
    }

    private static void storeAnswers() {
        OvertakingLoads x = new OvertakingLoads();
        Check.due("store -1", x.store(-1, 1, 0, 0, 0), UNKNOWN);
        Check.due("store 64", x.store(64, 1, 0, 0, 0), UNKNOWN);
        Check.due("store lowest", x.store(LOWEST, 1, 0, 0, 0), UNKNOWN);
        Check.due("store highest", x.store(HIGHEST, 3, 0, 0, 0), UNKNOWN);
        Check.due("store 63:2", x.store(63, 2, 0, 0, 0), UNKNOWN);
        Check.due("store 62:3", x.store(62, 3, 0, 0, 0), UNKNOWN);
        Check.due("store 62:3, value bad too", x.store(62, 3, -1, 0, 0), UNKNOWN);
        Check.due("store 64:0", x.store(64, 0, 0, 0, 0), UNKNOWN);
        Check.due("store 63:4", x.store(63, 4, 0, 0, 0), BAD_VALUE);
        Check.due("store 63:highest", x.store(63, HIGHEST, 0, 0, 0), BAD_VALUE);
        Check.due("store 0:0", x.store(0, 0, 0, 0, 0), BAD_VALUE);
        Check.due("store 0:-1", x.store(0, -1, 0, 0, 0), BAD_VALUE);
        Check.due("store 0:lowest", x.store(0, LOWEST, 0, 0, 0), BAD_VALUE);
        Check.due("store =-1", x.store(0, 1, -1, 0, 0), BAD_VALUE);
        Check.due("store :1=256", x.store(0, 1, 256, 0, 0), BAD_VALUE);
        Check.due("store :2=65536", x.store(0, 2, 65536, 0, 0), BAD_VALUE);
        Check.due("store :3=16777216", x.store(0, 3, 16777216, 0, 0), BAD_VALUE);
        Check.due("store known -1", x.store(0, 1, 0, -1, 0), BAD_VALUE);
        Check.due("store known 21", x.store(0, 1, 0, 21, 0), BAD_VALUE);
        Check.due("store data -1", x.store(0, 1, 0, 0, -1), BAD_VALUE);
        Check.due("store data 21", x.store(0, 1, 0, 0, 21), BAD_VALUE);
        Check.due("nothing came", x.count(1), 0);
        Check.due("nothing recorded", x.count(13), 0);
        Check.due("store 63:1=255", x.store(63, 1, 255, 20, 20), 0);
        Check.due("store 62:2=65535", x.store(62, 2, 65535, 0, 0), 1);
        Check.due("store 61:3=16777215", x.store(61, 3, 16777215, 0, 0), 2);
        Check.due("store 0:1=0", x.store(0, 1, 0, 0, 0), 3);
        Check.due("recorded", x.count(13), 4);
    }

    private static void storeIsKept() {
        OvertakingLoads x = new OvertakingLoads();
        x.store(5, 2, 770, 3, 7);
        int[] due = {1, 5, 2, 770, 0, NONE, 0, 0, 0, NONE};
        for (int what = 0; what < due.length; what++) {
            Check.due("store: act " + what, x.act(0, what), due[what]);
        }
        x.pass(1);
        Check.due("the address is known from", x.act(0, 5), 3);
        x.pass(6);
        Check.due("the data are not known yet", x.act(0, 4), 1);
        x.pass(1);
        Check.due("the data are known", x.act(0, 4), 2);
        Check.due("not written yet", x.memory(5), 0);
        x.pass(1);
        Check.due("retired", x.act(0, 4), 3);
        Check.due("the lowest byte", x.memory(5), 2);
        Check.due("the next byte", x.memory(6), 3);
        Check.due("no other byte", x.memory(7) + x.memory(4), 0);
    }

    private static void loadAnswers() {
        OvertakingLoads x = new OvertakingLoads();
        Check.due("load -1", x.load(-1, 1, 0, 0), UNKNOWN);
        Check.due("load 64", x.load(64, 1, 0, 0), UNKNOWN);
        Check.due("load highest", x.load(HIGHEST, 1, 0, 0), UNKNOWN);
        Check.due("load 63:2", x.load(63, 2, 0, 0), UNKNOWN);
        Check.due("load 62:3", x.load(62, 3, 0, 0), UNKNOWN);
        Check.due("load @8", x.load(0, 1, 0, 8), UNKNOWN);
        Check.due("load @-1", x.load(0, 1, 0, -1), UNKNOWN);
        Check.due("load 0:0 @8", x.load(0, 0, 0, 8), UNKNOWN);
        Check.due("load known 21 @8", x.load(0, 1, 21, 8), UNKNOWN);
        Check.due("load 63:4", x.load(63, 4, 0, 0), BAD_VALUE);
        Check.due("load 0:0", x.load(0, 0, 0, 0), BAD_VALUE);
        Check.due("load 0:lowest", x.load(0, LOWEST, 0, 0), BAD_VALUE);
        Check.due("load known -1", x.load(0, 1, -1, 0), BAD_VALUE);
        Check.due("load known 21", x.load(0, 1, 21, 0), BAD_VALUE);
        Check.due("nothing came", x.count(1) + x.count(13), 0);
        Check.due("load 63:1/20@7", x.load(63, 1, 20, 7), 0);
        Check.due("load 61:3", x.load(61, 3, 0, 0), 1);
        Check.due("recorded", x.count(13), 2);
    }

    private static void loadIsKept() {
        OvertakingLoads x = new OvertakingLoads();
        x.load(61, 3, 4, 6);
        int[] due = {0, 61, 3, NONE, 0, NONE, 0, 0, 0, 6};
        for (int what = 0; what < due.length; what++) {
            Check.due("load: act " + what, x.act(0, what), due[what]);
        }
        x.pass(4);
        Check.due("the address is not known yet", x.act(0, 4), 1);
        Check.due("no waiting", x.act(0, 8), 0);
        x.pass(1);
        Check.due("done", x.act(0, 4), 2);
        Check.due("the value", x.act(0, 3), 0);
    }

    private static void rowIsFull() {
        OvertakingLoads x = new OvertakingLoads();
        for (int i = 0; i < 48; i++) {
            Check.due("act " + i, i % 2 == 0 ? x.store(i, 1, i, 0, 0) : x.load(i, 1, 0, 0), i);
        }
        Check.due("store 48", x.store(0, 1, 0, 0, 0), FULL);
        Check.due("load 48", x.load(0, 1, 0, 0), FULL);
        Check.due("store 48, bad too", x.store(0, 1, 0, 0, 21), BAD_VALUE);
        Check.due("store 48, unknown too", x.store(64, 1, 0, 0, 0), UNKNOWN);
        Check.due("load 48, unknown too", x.load(0, 1, 0, 8), UNKNOWN);
        Check.due("load 48, bad too", x.load(0, 4, 0, 0), BAD_VALUE);
        Check.typeText(x, "l0:1");
        Check.due("addAll 48", x.addAll(), FULL);
        Check.due("count", x.count(1), 48);
        Check.due("all retire", x.pass(500), 48);
        Check.due("retired ones have come, too", x.load(0, 1, 0, 0), FULL);
        Check.due("wipe", x.wipe(), 48);
        Check.due("numbers begin again", x.load(46, 1, 0, 0), 0);
        Check.due("the memory stays", x.plain(0), 46);
    }

    private static void addAllAdds() {
        OvertakingLoads x = new OvertakingLoads();
        Check.due("addAll of the empty text", x.addAll(), -100);
        Check.typeText(x, "s60:3=16777215/20,19;l7:2/3@5;l0:1@7;s1:1=0/4;l2:1");
        x.load(0, 1, 0, 0);
        int before = x.count(14);
        Check.due("addAll", x.addAll(), 5);
        Check.due("the text stays", x.count(14), before);
        Check.due("one act of the user", x.count(13), 2);
        int[][] due = {
            {1, 60, 3, 16777215, 0, NONE, 0, 0, 0, NONE},
            {0, 7, 2, NONE, 0, NONE, 0, 0, 0, 5},
            {0, 0, 1, NONE, 0, NONE, 0, 0, 0, 7},
            {1, 1, 1, 0, 0, NONE, 0, 0, 0, NONE},
            {0, 2, 1, NONE, 0, NONE, 0, 0, 0, 0}};
        for (int i = 0; i < due.length; i++) {
            for (int what = 0; what < 10; what++) {
                Check.due("added " + i + " act " + what, x.act(i + 1, what), due[i][what]);
            }
        }
        x.pass(10);
        Check.due("delay of the store's address", x.act(1, 5), 20);
        Check.due("delay of the load's address", x.act(2, 5), 1 + 3);
        Check.due("no delay", x.act(3, 5), 1);
        Check.due("delay of the second store", x.act(4, 5), 2 + 4);
        x.pass(10);
        Check.due("data known, address not", x.act(1, 4), 1);
        x.pass(1);
        Check.due("both known", x.act(1, 4), 2);
        Check.due("addAll again", x.addAll(), 5);
        x.undo();
        Check.due("undone at once", x.count(1), 6);
    }

    private static void addAllAddsAllOrNone() {
        OvertakingLoads x = new OvertakingLoads();
        Check.typeText(x, "l0:1;s0:1=255;s63:2=70000;s0:1=256");
        Check.due("the last byte", x.addAll(), UNKNOWN);
        Check.typeText(x, "l0:1;s0:1=256;s63:2=0");
        Check.due("the value", x.addAll(), BAD_VALUE);
        Check.typeText(x, "s0:2=65536");
        Check.due("the value of two", x.addAll(), BAD_VALUE);
        Check.typeText(x, "l62:3");
        Check.due("the last byte of a load", x.addAll(), UNKNOWN);
        Check.typeText(x, "l0:1;l0:1;");
        Check.due("a fault", x.addAll(), -110);
        Check.typeText(x, "s63:2=0;x");
        Check.due("the fault goes first", x.addAll(), -108);
        Check.due("nothing came", x.count(1) + x.count(13), 0);
    }

    private static void addAllFillsTheRow() {
        OvertakingLoads x = new OvertakingLoads();
        Check.typeText(x, "l0:1;l1:1;l2:1;l3:1;l4:1;l5:1;l6:1;l7:1;l8:1;l9:1;l0:2;l1:2");
        for (int i = 0; i < 3; i++) {
            Check.due("twelve more", x.addAll(), 12);
        }
        Check.typeText(x, "l0:1;l1:1;l2:1;l3:1;l4:1;l5:1;l6:1;l7:1;l8:1;l9:1;l0:2");
        Check.due("eleven more", x.addAll(), 11);
        Check.typeText(x, "l0:1;s0:1=256");
        Check.due("the first one that has an error", x.addAll(), BAD_VALUE);
        Check.typeText(x, "l0:1;s0:1=255");
        Check.due("no room for both", x.addAll(), FULL);
        Check.due("none of them came", x.count(1), 47);
        Check.typeText(x, "l9:3");
        Check.due("the last one", x.addAll(), 1);
        Check.due("it is the last", x.act(47, 1), 9);
        Check.typeText(x, "l0:1;s0:1=256");
        Check.due("full before bad", x.addAll(), FULL);
    }

    private static void passAnswers() {
        OvertakingLoads x = new OvertakingLoads();
        Check.due("pass 0", x.pass(0), BAD_VALUE);
        Check.due("pass -1", x.pass(-1), BAD_VALUE);
        Check.due("pass lowest", x.pass(LOWEST), BAD_VALUE);
        Check.due("pass 501", x.pass(501), BAD_VALUE);
        Check.due("pass highest", x.pass(HIGHEST), BAD_VALUE);
        Check.due("no beat", x.count(0) + x.count(13), 0);
        Check.due("pass 500", x.pass(500), 0);
        Check.due("beats", x.count(0), 500);
        Check.due("recorded", x.count(13), 1);
        x.load(0, 1, 0, 0);
        x.load(0, 1, 0, 0);
        x.load(0, 1, 0, 0);
        Check.due("pass 1", x.pass(1), 0);
        Check.due("the second", x.pass(1), 1);
        Check.due("the rest", x.pass(5), 2);
        Check.due("beats then", x.count(0), 507);
        Check.due("issued on", x.act(2, 5), 501);
    }

    private static void wipeAnswers() {
        OvertakingLoads x = new OvertakingLoads();
        Check.due("nothing to wipe", x.wipe(), NONE);
        Check.due("not recorded", x.count(13), 0);
        x.load(0, 1, 0, 0);
        x.store(0, 1, 9, 0, 0);
        Check.due("acts that wait", x.wipe(), 2);
        Check.due("they are gone", x.count(1), 0);
        Check.due("act 0", x.act(0, 0), UNKNOWN);
        Check.due("undone", x.undo(), 2);
        Check.due("they are back", x.count(1), 2);
        x.pass(1);
        Check.due("in the queue", x.wipe(), NOT_POSSIBLE);
        x.pass(1);
        Check.due("all retired in two beats", x.count(5), 2);
        Check.due("retired ones", x.wipe(), 2);
        Check.due("none is retired", x.count(5) + x.count(6) + x.count(7), 0);
    }

    private static void wipeKeepsTheRest() {
        OvertakingLoads x = new OvertakingLoads();
        x.set(1, 4);
        x.store(3, 1, 77, 4, 0);
        x.load(3, 1, 0, 5);
        x.pass(10);
        x.store(8, 1, 1, 0, 2);
        x.load(8, 1, 0, 5);
        x.pass(10);
        x.wipe();
        Check.due("beats", x.count(0), 20);
        Check.due("done again", x.count(8), 1);
        Check.due("left", x.count(9), 1);
        Check.due("forwarded", x.count(11), 1);
        Check.due("waited", x.count(10), 2);
        Check.due("ahead", x.count(12), 1);
        Check.due("setting", x.count(16), 4);
        Check.due("counter", x.counter(5), 1);
        Check.due("memory", x.memory(3), 77);
        x.store(3, 1, 78, 0, 0);
        x.load(3, 1, 0, 0);
        x.pass(9);
        Check.due("plain begins with the new memory", x.plain(1), 78);
        x.wipe();
        x.load(3, 1, 0, 0);
        Check.due("number", x.count(1), 1);
        Check.due("nothing of the old act 0", x.act(0, 6), 0);
        x.pass(3);
        x.store(3, 1, 79, 0, 0);
        x.pass(3);
        Check.due("memory now", x.memory(3), 79);
        Check.due("the memory as it was when wiped", x.plain(0), 78);
        Check.due("right", x.count(6), 1);
    }

    private static void setAnswers() {
        int[][] ranges = {{1, 16, 8}, {1, 4, 2}, {1, 4, 1}, {0, 1, 0}, {0, 2, 0}};
        OvertakingLoads x = new OvertakingLoads();
        Check.due("set -1", x.set(-1, 1), BAD_VALUE);
        Check.due("set 5", x.set(5, 1), BAD_VALUE);
        Check.due("set lowest", x.set(LOWEST, 1), BAD_VALUE);
        Check.due("set highest", x.set(HIGHEST, 1), BAD_VALUE);
        for (int which = 0; which < 5; which++) {
            int least = ranges[which][0];
            int most = ranges[which][1];
            int now = ranges[which][2];
            Check.due("below " + which, x.set(which, least - 1), BAD_VALUE);
            Check.due("above " + which, x.set(which, most + 1), BAD_VALUE);
            Check.due("lowest " + which, x.set(which, LOWEST), BAD_VALUE);
            Check.due("so already " + which, x.set(which, now), NONE);
            Check.due("most " + which, x.set(which, most), now);
            Check.due("it is set " + which, x.count(15 + which), most);
            Check.due("least " + which, x.set(which, least), most);
            Check.due("it is set " + which, x.count(15 + which), least);
            Check.due("least again " + which, x.set(which, least), NONE);
            Check.due("undo " + which, x.undo() >= 0 ? 1 : 0, 1);
            Check.due("back " + which, x.count(15 + which), most);
            x.undo();
            Check.due("nothing else was recorded " + which, x.count(13), 0);
        }
    }

    private static void setQueue() {
        OvertakingLoads x = new OvertakingLoads();
        for (int i = 0; i < 6; i++) {
            x.store(0, 1, 0, 20, 0);
        }
        x.pass(2);
        Check.due("four are in it", x.count(3), 4);
        Check.due("three", x.set(0, 3), NOT_POSSIBLE);
        Check.due("no queue of 0", x.set(0, 0), BAD_VALUE);
        Check.due("four", x.set(0, 4), 8);
        Check.due("four again", x.set(0, 4), NONE);
        x.pass(2);
        Check.due("no more come", x.count(3), 4);
        Check.due("five", x.set(0, 5), 4);
        x.pass(2);
        Check.due("one more comes", x.count(3), 5);
    }

    private static void setCounterAnswers() {
        OvertakingLoads x = new OvertakingLoads();
        Check.due("place -1", x.setCounter(-1, 0), UNKNOWN);
        Check.due("place 8", x.setCounter(8, 0), UNKNOWN);
        Check.due("place 8, value 4", x.setCounter(8, 4), UNKNOWN);
        Check.due("place lowest", x.setCounter(LOWEST, 1), UNKNOWN);
        Check.due("value -1", x.setCounter(0, -1), BAD_VALUE);
        Check.due("value 4", x.setCounter(7, 4), BAD_VALUE);
        Check.due("value highest", x.setCounter(7, HIGHEST), BAD_VALUE);
        Check.due("so already", x.setCounter(7, 0), NONE);
        Check.due("not recorded", x.count(13), 0);
        Check.due("3", x.setCounter(7, 3), 0);
        Check.due("it is 3", x.counter(7), 3);
        Check.due("the next place is not", x.counter(6), 0);
        Check.due("1", x.setCounter(7, 1), 3);
        Check.due("recorded", x.count(13), 2);
        Check.due("0 at place 0", x.setCounter(0, 2), 0);
    }
}
