/** Each sentence of the document's terms that names an edge, up to plain values, has a test of its own here. */
public final class EdgesOfTermsTest {
    private static final int UNKNOWN = OvertakingLoads.UNKNOWN;
    private static final int BAD_VALUE = OvertakingLoads.BAD_VALUE;
    private static final int FULL = OvertakingLoads.FULL;
    private static final int NOT_POSSIBLE = OvertakingLoads.NOT_POSSIBLE;
    private static final int NONE = OvertakingLoads.NONE;

    public static void main(String[] args) {
        atMost512Calls();
        acts();
        settings();
        retiringAndIssuing();
        lookingAtStores();
        runningLoads();
        withoutOvertaking();
        Check.end("EdgesOfTermsTest");
    }

    private static void acts() {
        memoryOf64Bytes();
        atMost48Acts();
        oneToThreeBytes();
        lowestByteLowest();
        delaysOfAStore();
        delayAndPlaceOfALoad();
        howAnActIs();
        inTheQueue();
    }

    private static void settings() {
        queue();
        width();
        ports();
        merging();
        guess();
        table();
    }

    private static void retiringAndIssuing() {
        beatsFromZero();
        retiresAsLongAsDone();
        issuesAsLongAsThereIsRoom();
        addressKnownFromTheBeat();
        dataKnownFromTheBeat();
        beatsAreOneMore();
    }

    private static void lookingAtStores() {
        knownForTheFirstTime();
        haveAByteOfIt();
        tookItFromBefore();
        oldestWithAllBehind();
        lastOfAFullRow();
        nextIssuedIsThisLoad();
        counterThreeAtMost();
        leftAreNotLookedAt();
        addressAndDataKnown();
    }

    private static void runningLoads() {
        fromTheOldestOn();
        portsAtMost();
        waitsByTheGuess();
        aStoreAheadIsUnknown();
        latestStoreThatHasTheByte();
        dataNotKnown();
        mergingZero();
        oneLess();
        zeroAtLeast();
        noByteOfAnAwaitedStore();
        retiredMeanwhile();
    }

    private static void atMost512Calls() {
        Check.says("An object is used for at most 512 calls after it has been made");
        OvertakingLoads x = new OvertakingLoads();
        for (int call = 1; call <= 511; call++) {
            Check.due("call " + call, x.pass(500), 0);
        }
        Check.due("call 512", x.count(0), 511 * 500);
    }

    // ---- ACTS

    private static void memoryOf64Bytes() {
        Check.says("There is a memory of 64 bytes, 0 to 63, each 0 to 255 (0 at first).");
        OvertakingLoads x = Rows.machine("s0:1=255;s63:1=255;s31:2=65280");
        for (int address = 0; address < 64; address++) {
            Check.due("at first, " + address, x.memory(address), 0);
        }
        x.pass(4);
        for (int address = 0; address < 64; address++) {
            boolean written = address == 0 || address == 32 || address == 63;
            Check.due("then, " + address, x.memory(address), written ? 255 : 0);
        }
        Check.due("below", x.memory(-1), UNKNOWN);
        Check.due("above", x.memory(64), UNKNOWN);
    }

    private static void atMost48Acts() {
        Check.says("they are numbered from 0 in this order; at most 48 come.");
        OvertakingLoads x = new OvertakingLoads();
        Check.due("no act 0", x.act(0, 1), UNKNOWN);
        for (int number = 0; number < 48; number++) {
            Check.due("act", x.load(number, 1, 0, 0), number);
        }
        for (int number = 0; number < 48; number++) {
            Check.due("address of " + number, x.act(number, 1), number);
        }
        Check.due("load 48", x.load(0, 1, 0, 0), FULL);
        Check.due("store 48", x.store(0, 1, 0, 0, 0), FULL);
        Check.due("no act 48", x.act(48, 1), UNKNOWN);
        Check.due("all of them retire", x.pass(500), 48);
        Check.due("they came all the same", x.load(0, 1, 0, 0), FULL);
    }

    private static void oneToThreeBytes() {
        Check.says("of 1 to 3 bytes from an address on (the last one is at most 63).");
        for (int bytes = 1; bytes <= 3; bytes++) {
            OvertakingLoads x = new OvertakingLoads();
            Check.due("store at the end", x.store(64 - bytes, bytes, 0, 0, 0), 0);
            Check.due("load at the end", x.load(64 - bytes, bytes, 0, 0), 1);
            Check.due("store beyond", x.store(65 - bytes, bytes, 0, 0, 0), UNKNOWN);
            Check.due("load beyond", x.load(65 - bytes, bytes, 0, 0), UNKNOWN);
            Check.due("store at the beginning", x.store(0, bytes, 0, 0, 0), 2);
        }
        OvertakingLoads x = new OvertakingLoads();
        Check.due("store of none", x.store(0, 0, 0, 0, 0), BAD_VALUE);
        Check.due("store of four", x.store(0, 4, 0, 0, 0), BAD_VALUE);
        Check.due("load of none", x.load(0, 0, 0, 0), BAD_VALUE);
        Check.due("load of four", x.load(0, 4, 0, 0), BAD_VALUE);
    }

    private static void lowestByteLowest() {
        Check.says("Values of several bytes have the lowest one at the lowest address.");
        OvertakingLoads x = Rows.machine("s61:3=197121;l61:3;l61:1;l63:1;l62:2");
        x.pass(9);
        Check.due("61", x.memory(61), 1);
        Check.due("62", x.memory(62), 2);
        Check.due("63", x.memory(63), 3);
        Check.due("all", x.act(1, 3), 197121);
        Check.due("the lowest", x.act(2, 3), 1);
        Check.due("the highest", x.act(3, 3), 3);
        Check.due("the upper two", x.act(4, 3), 3 * 256 + 2);
        OvertakingLoads y = Rows.machine("s0:3=16777215;l0:3;l2:3");
        y.pass(9);
        Check.due("the greatest value", y.act(1, 3), 16777215);
        Check.due("its highest byte alone", y.act(2, 3), 255);
    }

    private static void delaysOfAStore() {
        Check.says("A store has a value, a delay of its address and a delay of its data (0 to 20)");
        OvertakingLoads x = new OvertakingLoads();
        Check.due("-1 for the address", x.store(0, 1, 0, -1, 0), BAD_VALUE);
        Check.due("-1 for the data", x.store(0, 1, 0, 0, -1), BAD_VALUE);
        Check.due("21 for the address", x.store(0, 1, 0, 21, 0), BAD_VALUE);
        Check.due("21 for the data", x.store(0, 1, 0, 0, 21), BAD_VALUE);
        Check.due("0 and 0", x.store(0, 1, 0, 0, 0), 0);
        Check.due("20 and 0", x.store(0, 1, 0, 20, 0), 1);
        Check.due("0 and 20", x.store(0, 1, 0, 0, 20), 2);
        x.set(1, 4);
        Rows.hasByBeats(x, "211", "311");
        x.pass(18);
        Rows.hows(x, "311");
        Rows.hasByBeats(x, "322", "333");
    }

    private static void delayAndPlaceOfALoad() {
        Check.says("a load has a delay of its address, and a place (0 to 7).");
        OvertakingLoads x = new OvertakingLoads();
        Check.due("a delay of -1", x.load(0, 1, -1, 0), BAD_VALUE);
        Check.due("a delay of 21", x.load(0, 1, 21, 0), BAD_VALUE);
        Check.due("place -1", x.load(0, 1, 0, -1), UNKNOWN);
        Check.due("place 8", x.load(0, 1, 0, 8), UNKNOWN);
        Check.due("a delay of 0, place 0", x.load(0, 1, 0, 0), 0);
        Check.due("a delay of 20, place 7", x.load(0, 1, 20, 7), 1);
        Check.due("place of the first", x.act(0, 9), 0);
        Check.due("place of the second", x.act(1, 9), 7);
        x.pass(20);
        Rows.hows(x, "31");
        Rows.hasByBeats(x, "32", "33");
    }

    private static void howAnActIs() {
        Check.says("An act waits (0), is issued (1), is done (2: a load has its value; "
            + "a store has its address and its data known), or is retired (3).");
        OvertakingLoads x = Rows.machine("s0:1=1/1,2;l0:1/3");
        Rows.hows(x, "00");
        Rows.hasByBeats(x, "11", "11", "21", "32", "33");
    }

    private static void inTheQueue() {
        Check.says("Those that are issued or done are in the queue.");
        OvertakingLoads x = Rows.machine("s0:1=1/3;l9:1;l9:1;l9:1");
        Check.due("those that wait are not", x.set(0, 1), 8);
        x.set(0, 3);
        x.pass(3);
        Rows.hows(x, "1220");
        Check.due("one issued, two done", x.set(0, 2), NOT_POSSIBLE);
        Check.due("no more than three", x.set(0, 4), 3);
        x.pass(9);
        Rows.hows(x, "3333");
        Check.due("those that are retired are not", x.set(0, 1), 4);
    }

    // ---- SETTINGS

    /** A machine with so many stores, of which all come to know their addresses late. */
    private static OvertakingLoads lateStores(int many) {
        OvertakingLoads x = new OvertakingLoads();
        for (int i = 0; i < many; i++) {
            x.store(i, 1, 1, 20, 0);
        }
        return x;
    }

    private static void dueInQueue(OvertakingLoads x, int due) {
        Check.due("in the queue", x.count(3) + x.count(4), due);
    }

    private static void queue() {
        Check.says("0 the queue (1 to 16; 8): how many acts are in it at most");
        OvertakingLoads first = lateStores(20);
        Check.due("0", first.set(0, 0), BAD_VALUE);
        Check.due("17", first.set(0, 17), BAD_VALUE);
        Check.due("8 at first", first.set(0, 8), NONE);
        first.pass(15);
        dueInQueue(first, 8);
        int[] queues = {1, 2, 7, 9, 15, 16};
        for (int queue : queues) {
            OvertakingLoads x = lateStores(20);
            Check.due("set", x.set(0, queue), 8);
            x.pass(15);
            dueInQueue(x, queue);
        }
    }

    private static OvertakingLoads readyStores(int many) {
        OvertakingLoads x = new OvertakingLoads();
        for (int i = 0; i < many; i++) {
            x.store(i, 1, 1, 0, 0);
        }
        return x;
    }

    private static void width() {
        Check.says("1 the width (1 to 4; 2)");
        OvertakingLoads first = readyStores(9);
        Check.due("0", first.set(1, 0), BAD_VALUE);
        Check.due("5", first.set(1, 5), BAD_VALUE);
        Check.due("2 at first", first.set(1, 2), NONE);
        Rows.hasByBeats(first, "220000000", "332200000");
        String[] once = {"200000000", "220000000", "222000000", "222200000"};
        String[] twice = {"320000000", "332200000", "333222000", "333322220"};
        for (int width = 1; width <= 4; width++) {
            OvertakingLoads x = readyStores(9);
            x.set(1, width);
            Rows.hasByBeats(x, once[width - 1], twice[width - 1]);
        }
    }

    private static void ports() {
        Check.says("2 the ports (1 to 4; 1)");
        String[] dues = {"21111", "22111", "22211", "22221"};
        for (int ports = 1; ports <= 4; ports++) {
            OvertakingLoads x = Rows.machine("l0:1/1;l0:1/1;l0:1/1;l0:1/1;l0:1");
            x.set(1, 4);
            if (ports > 1) {
                x.set(2, ports);
            }
            Rows.hasByBeats(x, "11110", dues[ports - 1]);
        }
        OvertakingLoads x = new OvertakingLoads();
        Check.due("0", x.set(2, 0), BAD_VALUE);
        Check.due("5", x.set(2, 5), BAD_VALUE);
        Check.due("1 at first", x.set(2, 1), NONE);
    }

    private static void merging() {
        Check.says("3 merging (0 or 1; 0)");
        OvertakingLoads x = Rows.wide("s4:1=7/0,9;s5:1=8;l5:2");
        Check.due("-1", x.set(3, -1), BAD_VALUE);
        Check.due("2", x.set(3, 2), BAD_VALUE);
        Check.due("0 at first", x.set(3, 0), NONE);
        Rows.hasByBeats(x, "121");
        Check.due("1", x.set(3, 1), 0);
        Rows.hasByBeats(x, "122");
    }

    private static void guess() {
        Check.says("4 the guess (0 to 2; 0): 0 by the table, 1 loads always wait, 2 they never do.");
        for (int counter = 0; counter <= 3; counter++) {
            for (int guess = 0; guess <= 2; guess++) {
                OvertakingLoads x = Rows.wide("s4:1=7/9;l9:1");
                x.setCounter(0, counter);
                x.set(4, guess);
                boolean waits = guess == 1 || guess == 0 && counter >= 2;
                Rows.hasByBeats(x, waits ? "11" : "12");
            }
        }
        OvertakingLoads x = new OvertakingLoads();
        Check.due("-1", x.set(4, -1), BAD_VALUE);
        Check.due("3", x.set(4, 3), BAD_VALUE);
        Check.due("0 at first", x.set(4, 0), NONE);
    }

    private static void table() {
        Check.says("The table has a counter (0 to 3, at first 0) for each place.");
        OvertakingLoads x = new OvertakingLoads();
        for (int place = 0; place < 8; place++) {
            Check.due("at first", x.counter(place), 0);
            Check.due("-1", x.setCounter(place, -1), BAD_VALUE);
            Check.due("4", x.setCounter(place, 4), BAD_VALUE);
            Check.due("3", x.setCounter(place, 3), 0);
            Check.due("it is 3", x.counter(place), 3);
        }
        Check.due("no place -1", x.counter(-1), UNKNOWN);
        Check.due("no place 8", x.counter(8), UNKNOWN);
        Check.due("0 again", x.setCounter(4, 0), 3);
        Check.due("of its place alone", x.counter(3) + x.counter(5), 6);
    }

    // ---- A BEAT

    private static void beatsFromZero() {
        Check.says("Beats are counted from 0.");
        OvertakingLoads x = Rows.machine("l0:1");
        Check.due("none so far", x.count(0), 0);
        x.pass(1);
        Check.due("issued in beat 0, known in it", x.act(0, 5), 0);
    }

    private static void retiresAsLongAsDone() {
        Check.says("From the oldest act of the queue on, as many as the width at most, "
            + "one after the other as long as it is done: it is retired; a store is written into the memory.");
        OvertakingLoads empty = new OvertakingLoads();
        Check.due("none in the queue", empty.pass(3), 0);
        OvertakingLoads x = Rows.wide("s9:1=9;l9:1;s0:1=1/9;l9:1");
        Rows.hasByBeats(x, "2212", "3312");
        Check.due("written", x.memory(9), 9);
        Check.due("the third one is not done", x.pass(7), 0);
        Check.due("not written", x.memory(0), 0);
        Check.due("now it is", x.pass(1), 0);
        Rows.hows(x, "3322");
        Check.due("retired", x.pass(1), 2);
        Check.due("written in that beat", x.memory(0), 1);
        OvertakingLoads y = Rows.wide("s0:1=1;s1:1=1;s2:1=1;s3:1=1;s4:1=1");
        y.pass(1);
        y.set(1, 3);
        Check.due("as many as the width", y.pass(1), 3);
        Check.due("the third one is written", y.memory(2), 1);
        Check.due("the fourth one is not", y.memory(3), 0);
    }

    private static void issuesAsLongAsThereIsRoom() {
        Check.says("As many as the width at most, in the order of the row, acts that wait are issued, "
            + "as long as there is room in the queue.");
        OvertakingLoads x = Rows.wide("s0:1=1/3;s1:1=1;s2:1=1;s3:1=1;s4:1=1");
        x.set(0, 3);
        Rows.hasByBeats(x, "12200", "12200", "12200", "22200", "33322");
        Check.due("in the beat that makes room", x.act(3, 5), 4);
        OvertakingLoads y = Rows.wide("s0:1=1;s1:1=1");
        y.set(0, 1);
        Rows.hasByBeats(y, "20", "32", "33");
        OvertakingLoads z = Rows.wide("s0:1=1;s1:1=1;s2:1=1;s3:1=1;s4:1=1");
        Rows.hasByBeats(z, "22220", "33332");
    }

    private static void addressKnownFromTheBeat() {
        Check.says("The address of an act is known from the beat on that comes its delay of beats behind "
            + "the one in which it is issued (in the same one if that is 0)");
        OvertakingLoads x = Rows.machine("l0:1;s0:1=1/1;l0:1/20;l0:1");
        x.pass(1);
        Check.due("in the same one", x.act(0, 5), 0);
        Check.due("one behind", x.act(1, 5), 1);
        Rows.hows(x, "2100");
        x.pass(1);
        Rows.hows(x, "3212");
        Check.due("20 behind beat 1", x.act(2, 5), 21);
        Check.due("in beat 1", x.act(3, 5), 1);
        x.pass(19);
        Rows.hows(x, "3312");
        Rows.hasByBeats(x, "3322");
    }

    private static void dataKnownFromTheBeat() {
        Check.says("so are the data of a store.");
        Rows.hasByBeats(Rows.machine("s0:1=1/0,0;l0:1"), "22");
        Rows.hasByBeats(Rows.machine("s0:1=1/0,1;l0:1"), "11", "22");
        OvertakingLoads x = Rows.machine("s0:1=1/0,20;l0:1");
        x.pass(20);
        Rows.hows(x, "11");
        Rows.hasByBeats(x, "22");
        Rows.hasByBeats(Rows.machine("l9:1;l9:1;s0:1=1/0,1;l0:1"), "2100", "3211", "3322");
    }

    private static void beatsAreOneMore() {
        Check.says("Then the beats are 1 more.");
        OvertakingLoads x = new OvertakingLoads();
        x.pass(1);
        Check.due("without acts", x.count(0), 1);
        x.load(0, 1, 0, 0);
        x.pass(1);
        Check.due("known in the beat that passed", x.act(0, 5), 1);
        Check.due("with acts", x.count(0), 2);
    }

    private static void knownForTheFirstTime() {
        Check.says("From the oldest one on, each store of the queue whose address is known for the first time "
            + "in this beat is looked at");
        Rows.hasByBeats(Rows.wide("s4:1=7/1;l4:1"), "12", "20", "32");
        Rows.hasByBeats(Rows.wide("s4:1=7/2;l4:1"), "12", "12", "20");
        Rows.hasByBeats(Rows.wide("s4:1=7;l4:1"), "22", "33");
        OvertakingLoads late = Rows.wide("s4:1=7/20;l4:1");
        late.pass(20);
        Rows.hows(late, "12");
        Rows.hasByBeats(late, "20");
        // The older store takes load 3 out of the queue; the younger one is left with load 2.
        OvertakingLoads x = Rows.wide("s4:1=7/1;s5:1=8/1;l5:1@2;l4:1@1");
        Rows.hasByBeats(x, "1122", "2200");
        Check.due("the oldest one first", x.counter(1), 1);
        Check.due("then the other", x.counter(2), 1);
    }

    private static void haveAByteOfIt() {
        Check.says("of the loads behind it that are done, those are too early that have a byte of it");
        String[] early = {"l10:1", "l11:1", "l12:1", "l9:2", "l8:3", "l12:2", "l12:3", "l10:3", "l9:3", "l11:3"};
        for (String load : early) {
            Rows.hasByBeats(Rows.wide("s10:3=197121/1;" + load), "12", "20");
        }
        String[] apart = {"l9:1", "l13:1", "l8:2", "l7:3", "l13:2", "l13:3", "l0:1", "l63:1"};
        for (String load : apart) {
            Rows.hasByBeats(Rows.wide("s10:3=197121/1;" + load), "12", "22");
        }
        Rows.hasByBeats(Rows.wide("s63:1=1/1;l61:3"), "12", "20");
        Rows.hasByBeats(Rows.wide("s0:1=1/1;l0:3"), "12", "20");
        // Not behind it, or not done.
        Rows.hasByBeats(Rows.wide("l10:1;s10:1=1/1"), "21", "32");
        OvertakingLoads x = Rows.wide("s10:1=1/1;l10:1/1");
        Rows.hasByBeats(x, "11", "22");
        Check.due("none again", x.count(8), 0);
    }

    private static void tookItFromBefore() {
        Check.says("and took that from the memory or from a store ahead of it.");
        Rows.hasByBeats(Rows.wide("s4:1=7/1;l4:1"), "12", "20");
        Rows.hasByBeats(Rows.wide("s4:1=6;s4:1=7/1;l4:1"), "212", "320");
        Rows.hasByBeats(Rows.wide("s4:1=7/1;s4:1=8;l4:1"), "122", "222");
        // A byte from the store behind it, the other one not of it, or of it.
        Rows.hasByBeats(Rows.merging("s4:1=7/1;s4:1=8;l4:2"), "122", "222");
        Rows.hasByBeats(Rows.merging("s4:2=7/1;s4:1=8;l4:2"), "122", "220");
        Rows.hasByBeats(Rows.merging("s3:2=7/1;s4:1=8;l3:2"), "122", "220");
        // It took the byte from a store that is retired by now.
        Rows.hasByBeats(Rows.wide("s4:1=6;s4:1=7/2;l4:1"), "212", "312", "320");
    }

    private static void oldestWithAllBehind() {
        Check.says("If there are any, the oldest one is done again, with all acts behind it: "
            + "they leave the queue, and wait again");
        OvertakingLoads none = Rows.wide("s4:1=7/1;l5:1");
        Rows.hasByBeats(none, "12", "22");
        Check.due("there are none", none.count(8) + none.count(9), 0);
        OvertakingLoads alone = Rows.wide("s4:1=7/1;l4:1");
        Rows.hasByBeats(alone, "12", "20");
        Check.due("none behind it", alone.count(9), 1);
        OvertakingLoads x = Rows.wide("s4:1=7/1;l9:1;l4:1@1;l4:1@2;l4:1@3;l4:1");
        Rows.hasByBeats(x, "122200", "220000");
        Check.due("the oldest one of three", x.act(2, 7), 1);
        Check.due("not the next one", x.act(3, 7), 0);
        Check.due("once", x.count(8), 1);
        Check.due("four left, two of them issued in that beat", x.count(9), 4);
        Check.due("issued and gone", x.act(5, 6), 1);
        Check.due("its place", x.counter(1), 1);
        Check.due("no other place", x.counter(2) + x.counter(3), 0);
        OvertakingLoads some = Rows.wide("s4:1=7/1;l9:1;l4:1;l9:1;l9:1;l9:1");
        some.set(0, 4);
        Rows.hasByBeats(some, "122200", "220000");
        Check.due("those that were in the queue", some.count(9), 2);
    }

    private static void lastOfAFullRow() {
        Check.says("and wait again (the next one that is issued is this load)");
        OvertakingLoads x = new OvertakingLoads();
        x.set(1, 4);
        for (int i = 0; i < 46; i++) {
            x.store(i, 1, i, 0, 0);
        }
        x.store(50, 1, 9, 1, 0);
        x.load(50, 1, 0, 7);
        x.pass(12);
        Check.due("all are issued, and the load is done", x.act(47, 4), 2);
        x.pass(1);
        Check.due("it was too early", x.act(47, 4), 0);
        Check.due("one waits", x.count(2), 1);
        Check.due("one has left", x.count(9), 1);
        Check.due("the row is full still", x.load(0, 1, 0, 0), FULL);
        x.pass(9);
        Check.due("its value", x.act(47, 3), 9);
        Check.due("all are retired", x.count(5), 48);
    }

    private static void nextIssuedIsThisLoad() {
        Check.says("(the next one that is issued is this load)");
        OvertakingLoads x = Rows.wide("s4:1=7/1;l4:1;l9:1;l8:1");
        Rows.hasByBeats(x, "1222", "2000");
        x.set(1, 1);
        Rows.hasByBeats(x, "3200", "3320", "3332");
        Check.due("issued again in beat 2", x.act(1, 5), 2);
        Check.due("twice", x.act(1, 6), 2);
        Check.due("the last one in beat 4", x.act(3, 5), 4);
    }

    private static void counterThreeAtMost() {
        Check.says("the counter of its place is 1 more (3 at most), whatever the setting 4 is.");
        for (int counter = 0; counter <= 3; counter++) {
            for (int guess = 0; guess <= 2; guess++) {
                OvertakingLoads x = Rows.wide("s4:1=7/1;l4:1@6");
                x.set(4, 2);
                x.pass(1);
                Rows.hows(x, "12");
                x.setCounter(6, counter);
                x.set(4, guess);
                x.pass(1);
                Rows.hows(x, "20");
                Check.due("from " + counter + ", guess " + guess, x.counter(6), Math.min(3, counter + 1));
            }
        }
    }

    private static void leftAreNotLookedAt() {
        Check.says("(Acts that left the queue are not looked at any more.)");
        OvertakingLoads x = Rows.wide("s4:1=7/1;l4:1@1;s5:1=8/1;l5:1@2");
        Rows.hasByBeats(x, "1212", "2000");
        Check.due("the first store's load", x.counter(1), 1);
        Check.due("the second store left", x.counter(2), 0);
        Check.due("once", x.count(8), 1);
        // The second store stays; both of its loads but one left with the first store's.
        OvertakingLoads y = Rows.wide("s4:1=7/1;s5:1=8/1;l4:1@1;l5:1@2");
        Rows.hasByBeats(y, "1122", "2200");
        Check.due("the load of the second store left", y.counter(2), 0);
        Check.due("once", y.count(8), 1);
    }

    private static void addressAndDataKnown() {
        Check.says("Then each store whose address and data are known is done.");
        Rows.hasByBeats(Rows.machine("s0:1=1"), "2", "3");
        Rows.hasByBeats(Rows.machine("s0:1=1/1"), "1", "2", "3");
        Rows.hasByBeats(Rows.machine("s0:1=1/0,1"), "1", "2", "3");
        Rows.hasByBeats(Rows.machine("s0:1=1/1,1"), "1", "2", "3");
        Rows.hasByBeats(Rows.machine("s0:1=1/2,1"), "1", "1", "2", "3");
        Rows.hasByBeats(Rows.machine("s0:1=1/1,2"), "1", "1", "2", "3");
    }

    private static void fromTheOldestOn() {
        Check.says("From the oldest one on, loads that are issued and whose address is known");
        OvertakingLoads x = Rows.machine("l0:1/1;l1:1/2;l2:1;l3:1/1");
        x.set(1, 4);
        // Beat 1: acts 0 and 3 are known; beat 2: acts 1 and 3.
        Rows.hasByBeats(x, "1121", "2121", "3221", "3332", "3333");
        OvertakingLoads y = Rows.wide("l0:1/1;l1:1;l2:1/1;l3:1");
        Rows.hasByBeats(y, "1212", "2222");
    }

    private static void portsAtMost() {
        Check.says("as many as the ports at most (those that wait do not count; those behind, "
            + "when the ports are used, are not looked at, and do not wait by this)");
        OvertakingLoads x = Rows.machine("s0:1=1/0,5;l0:1;l0:1;l9:1;l9:1;l0:1");
        x.set(1, 4);
        Rows.hasByBeats(x, "111200");
        Rows.hasByBeats(x, "111221");
        Check.due("the first one waited", x.act(1, 8), 2);
        Check.due("the second one, too", x.act(2, 8), 2);
        Check.due("behind used ports none waits", x.act(4, 8) + x.act(5, 8), 0);
        Rows.hasByBeats(x, "111221");
        Check.due("now it is looked at", x.act(5, 8), 1);
        Check.due("in all", x.count(10), 7);
    }

    private static void waitsByTheGuess() {
        Check.says("always if the setting 4 is 1, never if it is 2, otherwise if the counter of its place is 2 or 3");
        for (int counter = 0; counter <= 3; counter++) {
            OvertakingLoads x = Rows.wide("s4:1=7/9;l9:1@7;l9:1");
            x.setCounter(7, counter);
            Rows.hasByBeats(x, counter >= 2 ? "112" : "122");
            Check.due("by the counter " + counter, x.act(1, 8), counter >= 2 ? 1 : 0);
            OvertakingLoads y = Rows.wide("s4:1=7/9;l9:1@7");
            y.setCounter(7, counter);
            y.set(4, 1);
            Rows.hasByBeats(y, "11", "11");
            Check.due("always", y.act(1, 8), 2);
            y.set(4, 2);
            Rows.hasByBeats(y, "12");
            Check.due("never", y.act(1, 8), 2);
        }
    }

    private static void aStoreAheadIsUnknown() {
        Check.says("and some store ahead of it in the queue has an address that is not known.");
        String[] goes = {"l9:1;s4:1=7/9", "l9:1;l9:1", "l9:1;s4:1=7"};
        for (String row : goes) {
            OvertakingLoads x = Rows.wide(row);
            x.set(4, 1);
            x.pass(1);
            Check.due("none ahead: " + row, x.act(0, 4), 2);
        }
        OvertakingLoads known = Rows.wide("s4:1=7/0,9;l9:1");
        known.set(4, 1);
        Rows.hasByBeats(known, "12");
        OvertakingLoads inThisBeat = Rows.wide("s4:1=7/1,9;l9:1/1;l9:1");
        inThisBeat.set(4, 1);
        Rows.hasByBeats(inThisBeat, "111", "122");
        Check.due("known in the same beat", inThisBeat.act(1, 8), 0);
        Check.due("not known in the beat before", inThisBeat.act(2, 8), 1);
        OvertakingLoads one = Rows.wide("s4:1=7;s4:1=7/2;s4:1=7;l9:1");
        one.set(4, 1);
        Rows.hasByBeats(one, "2121", "3121", "3222");
        OvertakingLoads waiting = Rows.wide("l9:1;l9:1;l9:1;l9:1;s4:1=7/9");
        waiting.set(4, 1);
        Rows.hasByBeats(waiting, "22220", "33331");
    }

    private static void latestStoreThatHasTheByte() {
        Check.says("Otherwise each of its bytes comes from the latest store ahead of it in the queue that has "
            + "this byte and whose address is known, or, if there is none, from the memory.");
        int[] sources = {99, 0, 0, 99};
        for (int i = 0; i < 4; i++) {
            OvertakingLoads x = Rows.wide("s10:2=513;l" + (9 + i) + ":1");
            x.pass(1);
            Check.due("byte " + (9 + i), x.source(1, 0), sources[i]);
        }
        OvertakingLoads latest = Rows.wide("s4:1=1;s4:1=2;s4:1=3/1;l4:1");
        latest.pass(1);
        Check.due("the latest that is known", latest.source(3, 0), 1);
        Check.due("its value", latest.act(3, 3), 2);
        OvertakingLoads behind = Rows.wide("l4:1;s4:1=1");
        behind.pass(1);
        Check.due("not from behind", behind.source(0, 0), 99);
        OvertakingLoads retired = Rows.machine("s4:1=9;s5:1=9;l4:1");
        retired.pass(2);
        Check.due("not from one that is retired", retired.source(2, 0), 99);
        Check.due("but what it wrote", retired.act(2, 3), 9);
        OvertakingLoads nothing = Rows.wide("l63:1");
        nothing.pass(1);
        Check.due("no store at all", nothing.source(0, 0), 99);
        OvertakingLoads known = Rows.wide("s4:1=7/1;l4:1/1");
        known.pass(2);
        Check.due("known in this beat", known.source(1, 0), 0);
    }

    private static void dataNotKnown() {
        Check.says("It waits, too, if the data of one of these stores are not known");
        OvertakingLoads x = Rows.wide("s4:1=7/0,1;l4:1;l4:1/1;l5:1");
        Rows.hasByBeats(x, "1112", "2222");
        Check.due("one beat", x.act(1, 8), 1);
        Check.due("known in that beat", x.act(2, 8), 0);
        Check.due("not of this store", x.act(3, 8), 0);
        OvertakingLoads y = Rows.merging("s4:1=7/0,1;s5:1=7/0,3;l4:3");
        Rows.hasByBeats(y, "111", "211", "311", "322");
        Check.due("as long as one of them is not known", y.act(2, 8), 3);
    }

    private static void mergingZero() {
        Check.says("or if merging is 0 and its bytes come from more than one store, or from a store and the memory.");
        String[] apart = {"s4:1=1;s5:1=2;l4:2", "s5:1=2;s4:1=1;l4:2", "s4:1=1;s7:1=1;l4:2", "s5:1=1;s7:1=1;l4:2",
            "s4:2=1;s7:1=1;l4:3", "s5:2=1;s7:1=1;l4:3", "s5:1=1;s7:1=1;l4:3", "s4:3=1;s5:1=1;l4:3"};
        for (String row : apart) {
            OvertakingLoads x = Rows.wide(row);
            Rows.hasByBeats(x, "221", "332");
            Check.due("waited: " + row, x.act(2, 8), 1);
            Rows.hasByBeats(Rows.merging(row), "222");
        }
        String[] whole = {"s4:1=1;s5:1=2;l4:1", "s4:2=1;s7:1=1;l4:2", "s4:3=1;s7:1=1;l4:3", "s4:3=1;s7:1=1;l5:2",
            "s4:1=1;s7:1=1;l5:2", "s4:1=1;s4:3=1;l4:3", "s3:3=1;s8:1=1;l3:3"};
        for (String row : whole) {
            Rows.hasByBeats(Rows.wide(row), "222");
        }
    }

    private static void oneLess() {
        Check.says("When a load is done that had to wait by the table (in some beat since it was issued)");
        for (int counter = 2; counter <= 3; counter++) {
            OvertakingLoads x = Rows.wide("s4:1=7/1;l9:1@3");
            x.setCounter(3, counter);
            Rows.hasByBeats(x, "11");
            Check.due("not while it waits", x.counter(3), counter);
            Rows.hasByBeats(x, "22");
            Check.due("1 less", x.counter(3), counter - 1);
            Rows.hasByBeats(x, "33");
            Check.due("once", x.counter(3), counter - 1);
        }
        OvertakingLoads never = Rows.wide("s4:1=7/1;l9:1/1@3");
        never.setCounter(3, 3);
        Rows.hasByBeats(never, "11", "22");
        Check.due("in no beat", never.counter(3), 3);
        OvertakingLoads data = Rows.wide("s4:1=7/0,1;l4:1@3");
        data.setCounter(3, 3);
        Rows.hasByBeats(data, "11", "22");
        Check.due("not by the table", data.counter(3), 3);
        OvertakingLoads always = Rows.wide("s4:1=7/9;l9:1@3");
        always.setCounter(3, 3);
        always.set(4, 1);
        Rows.hasByBeats(always, "11");
        always.set(4, 2);
        Rows.hasByBeats(always, "12");
        Check.due("not by the table, either", always.counter(3), 3);
        OvertakingLoads before = Rows.wide("s4:1=7/1;s8:1=1;l4:1@1;l9:1@2");
        before.setCounter(2, 3);
        Rows.hasByBeats(before, "1221", "2200", "3322");
        Check.due("not since it was issued the last time", before.counter(2), 3);
    }

    private static void zeroAtLeast() {
        Check.says("the counter of its place is 1 less (0 at least).");
        for (int counter = 0; counter <= 3; counter++) {
            OvertakingLoads x = Rows.wide("s4:1=7/2;l9:1@3");
            x.setCounter(3, 2);
            x.pass(1);
            x.setCounter(3, counter);
            x.pass(2);
            Rows.hows(x, "22");
            Check.due("from " + counter, x.counter(3), Math.max(0, counter - 1));
        }
    }

    private static void noByteOfAnAwaitedStore() {
        Check.says("and none of its bytes comes from a store for which it waited then");
        dueCounter(Rows.merging("s4:1=7/1;l2:3@3"), "22", 3);
        dueCounter(Rows.merging("s2:1=7/1;l2:3@3"), "22", 3);
        dueCounter(Rows.merging("s5:1=7/1;l2:3@3"), "22", 2);
        dueCounter(Rows.merging("s1:1=7/1;l2:3@3"), "22", 2);
        // A store whose address was known all the time gives the byte.
        dueCounter(Rows.merging("s4:1=6/1;s4:1=7/0,1;l4:1@3"), "222", 2);
        dueCounter(Rows.merging("s4:1=6/0,1;s4:1=7/1;l4:1@3"), "222", 3);
        // Of two stores for which it waited the first one gives the byte, or the second one, or none.
        dueCounter(Rows.wide("s4:1=6/1;s9:1=7/1;l4:1@3"), "222", 3);
        dueCounter(Rows.wide("s4:1=6/1;s9:1=7/1;l9:1@3"), "222", 3);
        dueCounter(Rows.wide("s4:1=6/1;s9:1=7/1;l8:1@3"), "222", 2);
        // It waited for the first one in beat 0, for the second one up to beat 3, and for data up to beat 8.
        OvertakingLoads x = Rows.wide("s4:1=6/1,9;s9:1=7/4;l4:1@3");
        x.setCounter(3, 3);
        x.pass(9);
        Rows.hows(x, "121");
        Rows.hasByBeats(x, "222");
        Check.due("from the first one", x.source(2, 0), 0);
        Check.due("counter", x.counter(3), 3);
    }

    /** The counter of place 3, from 3 on, after two beats. */
    private static void dueCounter(OvertakingLoads x, String hows, int due) {
        x.setCounter(3, 3);
        x.pass(2);
        Rows.hows(x, hows);
        Check.due("counter", x.counter(3), due);
    }

    private static void retiredMeanwhile() {
        Check.says("(bytes of one that was retired meanwhile come from the memory)");
        OvertakingLoads x = Rows.wide("s4:1=7/1;s9:1=1/2;l4:1@3");
        x.setCounter(3, 3);
        Rows.hasByBeats(x, "111", "211", "322");
        Check.due("from the memory", x.source(2, 0), 99);
        Check.due("what the store wrote", x.act(2, 3), 7);
        Check.due("not forwarded", x.count(11), 0);
        Check.due("1 less", x.counter(3), 2);
    }

    // ---- WITHOUT OVERTAKING

    private static void withoutOvertaking() {
        asIfOneAfterTheOther();
        asTheMachineBegan();
        right();
    }

    private static void asIfOneAfterTheOther() {
        Check.says("The plain value of a load is that which it would have if all acts were done one after the other");
        OvertakingLoads x = Rows.machine("l4:2;s4:2=513/20,20;l3:3;s5:1=9;l4:2");
        for (int beats = 0; beats < 30; beats++) {
            Check.due("ahead of all stores", x.plain(0), 0);
            Check.due("behind one", x.plain(2), 513 * 256);
            Check.due("behind both", x.plain(4), 9 * 256 + 1);
            x.pass(1);
        }
        Check.due("all are retired", x.count(5), 5);
    }

    private static void asTheMachineBegan() {
        Check.says("beginning with the memory as it was when the machine began (or was wiped).");
        OvertakingLoads x = Rows.machine("l4:1;s4:1=7;s5:1=8;l4:1");
        x.pass(9);
        Check.due("as it began", x.plain(0), 0);
        Check.due("the memory now", x.memory(4), 7);
        x.wipe();
        x.load(4, 2, 0, 0);
        x.store(4, 1, 9, 0, 0);
        Check.due("as it was wiped", x.plain(0), 8 * 256 + 7);
        x.pass(9);
        Check.due("the memory then", x.memory(4), 9);
        Check.due("as it was wiped, still", x.plain(0), 8 * 256 + 7);
        x.undo();
        x.undo();
        x.undo();
        x.undo();
        Check.due("the wiping undone", x.plain(0), 0);
    }

    private static void right() {
        Check.says("A load that is retired is right if its value is the plain one.");
        OvertakingLoads x = Rows.wide("s4:1=7/3;l4:1;s4:1=8;l4:1;l4:2");
        Rows.hasByBeats(x, "12220");
        Check.due("its first value is not the plain one", x.act(1, 3), 0);
        Check.due("it is not retired", x.count(6) + x.count(7), 0);
        x.pass(20);
        Check.due("retired", x.count(7), 3);
        Check.due("right", x.count(6), 3);
        x.wipe();
        Check.due("of the row", x.count(6) + x.count(7), 0);
    }
}
