/** Each line of promises 9 to 24 that names an edge has a test of its own here. */
public final class EdgesOfQuestionsTest {
    private static final int UNKNOWN = OvertakingLoads.UNKNOWN;
    private static final int BAD_VALUE = OvertakingLoads.BAD_VALUE;
    private static final int FULL = OvertakingLoads.FULL;
    private static final int NONE = OvertakingLoads.NONE;
    private static final int LOWEST = Integer.MIN_VALUE;
    private static final int HIGHEST = Integer.MAX_VALUE;

    public static void main(String[] args) {
        typeAnswers();
        typeAnyCharacter();
        clearTextAnswers();
        faultAnswers();
        undoAnswers();
        keepAnswers();
        restoreAnswers();
        told();
        wouldBe();
        Check.end("EdgesOfQuestionsTest");
    }

    private static void told() {
        actNumbers();
        actAsItWasAdded();
        actValue();
        actHow();
        actAddressBeat();
        actTimes();
        actPlace();
        sourceAnswers();
        sourceOfAStoreOrWithoutValue();
        memoryAnswers();
        counterAnswers();
        plainAnswers();
        countAnswers();
        countsOfTheRow();
        countsSoFar();
        countsOfRedoing();
        countsOfTheRest();
    }

    private static void wouldBe() {
        doneInAnswers();
        ifGuessedAnswers();
        bestGuessAnswers();
        leastQueueAnswers();
        queuesAtLeastAsLong();
    }

    // ---- promises 9 to 14

    private static void typeAnswers() {
        Check.says("Returns the length then; FULL if it has 60 characters.");
        OvertakingLoads x = new OvertakingLoads();
        for (int length = 1; length <= 60; length++) {
            Check.due("type", x.type('x'), length);
        }
        Check.due("the 61st", x.type('x'), FULL);
        Check.due("and the next", x.type('x'), FULL);
        Check.due("length", x.count(14), 60);
        x.clearText();
        Check.due("room again", x.type('x'), 1);
    }

    private static void typeAnyCharacter() {
        Check.says("- `character`: any character");
        char[] characters = {0, '\n', ' ', 127, 128, 255, 256, 0x660, 0xd800, 0xffff};
        OvertakingLoads x = new OvertakingLoads();
        for (int i = 0; i < characters.length; i++) {
            Check.due("type", x.type(characters[i]), i + 1);
        }
        Check.due("fault", x.fault(), 0);
        // Not one whose lower half is a digit or a letter of a text, nor a digit of another script.
        char[] alike = {(char) (256 + 'l'), (char) (65280 + 'l'), (char) (256 + '0'), 0x660, 0xff10};
        for (char character : alike) {
            OvertakingLoads y = new OvertakingLoads();
            Check.typeText(y, "l0:1;l");
            y.type(character);
            Check.due("for a number", y.fault(), 6);
            Check.typeText(y, "l0:1;");
            y.type(character);
            Check.due("for an act", y.fault(), 5);
        }
    }

    private static void clearTextAnswers() {
        Check.says("Returns the length that it had.");
        OvertakingLoads x = new OvertakingLoads();
        Check.due("of the empty text", x.clearText(), 0);
        x.type('l');
        Check.due("of one", x.clearText(), 1);
        Check.due("cleared", x.clearText(), 0);
        for (int i = 0; i < 61; i++) {
            x.type('l');
        }
        Check.due("of the longest", x.clearText(), 60);
        Check.due("it is empty", x.count(14), 0);
    }

    private static void faultAnswers() {
        Check.says("Returns the index; NONE if it has none.");
        OvertakingLoads x = new OvertakingLoads();
        Check.due("the empty text", x.fault(), 0);
        String text = "l0:1;s0:1=2";
        int[] dues = {1, 2, 3, NONE, 5, 6, 7, 8, 9, 10, NONE};
        for (int i = 0; i < text.length(); i++) {
            x.type(text.charAt(i));
            Check.due("after " + text.charAt(i), x.fault(), dues[i]);
        }
        x.type('x');
        Check.due("what is too much", x.fault(), 11);
    }

    private static void undoAnswers() {
        Check.says("Returns the number of states that are left; NONE if the history is empty.");
        OvertakingLoads x = new OvertakingLoads();
        Check.due("empty", x.undo(), NONE);
        for (int i = 0; i < 6; i++) {
            x.load(0, 1, 0, 0);
        }
        for (int left = 3; left >= 0; left--) {
            Check.due("left", x.undo(), left);
            Check.due("acts", x.count(1), left + 2);
        }
        Check.due("empty again", x.undo(), NONE);
        Check.due("acts", x.count(1), 2);
    }

    private static void keepAnswers() {
        Check.says("Takes a snapshot of the state, in place of the one that was.");
        Check.says("Returns the beats so far.");
        OvertakingLoads x = new OvertakingLoads();
        Check.due("on beat 0", x.keep(), 0);
        x.pass(500);
        Check.due("on beat 500", x.keep(), 500);
        x.pass(1);
        Check.due("the first one is gone", x.restore(), 500);
        Check.due("kept again", x.keep(), 500);
        Check.due("no act of the user", x.count(13), 3);
    }

    private static void restoreAnswers() {
        Check.says("Restores the state of the snapshot, which stays. An act of the user.");
        Check.says("Returns the beats so far then; NONE if there is no snapshot.");
        OvertakingLoads x = new OvertakingLoads();
        Check.due("no snapshot", x.restore(), NONE);
        x.pass(3);
        Check.due("no snapshot still", x.restore(), NONE);
        x.keep();
        x.pass(4);
        Check.due("its beats", x.restore(), 3);
        Check.due("it stays", x.restore(), 3);
        Check.due("acts of the user", x.count(13), 4);
        x.undo();
        Check.due("undone", x.count(0), 3);
        x.undo();
        Check.due("undone", x.count(0), 7);
        Check.due("it stays still", x.restore(), 3);
    }

    // ---- promises 15 to 20

    private static void actNumbers() {
        Check.says("`int act(int act, int what)`: - `act`: an act");
        Check.says("Returns the number; UNKNOWN; BAD_VALUE.");
        OvertakingLoads x = new OvertakingLoads();
        Check.due("the empty row", x.act(0, 0), UNKNOWN);
        for (int number = 0; number < 48; number++) {
            x.store(number, 1, number, 0, 0);
            Check.due("the next one is none yet", x.act(number + 1, 0), UNKNOWN);
            Check.due("the last one", x.act(number, 3), number);
        }
        int[] noActs = {-1, 48, 49, 99, LOWEST, HIGHEST};
        for (int act : noActs) {
            Check.due("act " + act, x.act(act, 0), UNKNOWN);
            Check.due("act " + act + ", what out of range", x.act(act, -1), UNKNOWN);
        }
        int[] noWhats = {-1, 10, 11, LOWEST, HIGHEST};
        for (int what : noWhats) {
            Check.due("what " + what, x.act(47, what), BAD_VALUE);
        }
        x.wipe();
        Check.due("wiped", x.act(0, 0), UNKNOWN);
    }

    private static void actAsItWasAdded() {
        Check.says("0 for 1 if it is a store, otherwise 0; 1 for its address, 2 for its bytes");
        OvertakingLoads x = Rows.machine("s0:1=1;l61:3;s61:3=0;l0:1");
        int[][] dues = {{1, 0, 1}, {0, 61, 3}, {1, 61, 3}, {0, 0, 1}};
        for (int act = 0; act < 4; act++) {
            for (int what = 0; what < 3; what++) {
                Check.due("act " + act + ", " + what, x.act(act, what), dues[act][what]);
            }
        }
    }

    private static void actValue() {
        Check.says("3 for its value (of a load that is neither done nor retired NONE)");
        OvertakingLoads x = Rows.wide("s4:1=7/2;l4:1/1");
        int[] dues = {NONE, NONE, 0, NONE, NONE, 7, 7, 7};
        String[] hows = {"00", "11", "12", "20", "31", "32", "33", "33"};
        for (int i = 0; i < dues.length; i++) {
            Rows.hows(x, hows[i]);
            Check.due("value of the load", x.act(1, 3), dues[i]);
            Check.due("value of the store", x.act(0, 3), 7);
            x.pass(1);
        }
    }

    private static void actHow() {
        Check.says("4 for how it is, 0 to 3");
        OvertakingLoads x = Rows.machine("l0:1/1");
        for (int how = 0; how <= 3; how++) {
            Check.due("how", x.act(0, 4), how);
            x.pass(1);
        }
        Check.due("how at last", x.act(0, 4), 3);
    }

    private static void actAddressBeat() {
        Check.says("5 for the beat from which on its address is known (NONE if it waits)");
        OvertakingLoads x = Rows.wide("s4:1=7/2;l4:1/1;l9:1");
        x.set(0, 2);
        int[][] dues = {{NONE, NONE, NONE}, {2, 1, NONE}, {2, 1, NONE}, {2, NONE, NONE}, {2, 4, 3}};
        for (int[] due : dues) {
            for (int act = 0; act < 3; act++) {
                Check.due("beat " + x.count(0) + ", act " + act, x.act(act, 5), due[act]);
            }
            x.pass(1);
        }
        x.pass(9);
        Rows.hows(x, "333");
        Check.due("of one that is retired", x.act(1, 5), 4);
    }

    private static void actTimes() {
        Check.says("6 for how often it was issued so far, 7 for how often it had to be done again so far, "
            + "8 for how many beats it waited so far in step 4 (0 for a store)");
        OvertakingLoads x = Rows.wide("s4:1=7/2;s5:1=8/4;l4:2@1;l9:1@2");
        int[] issued = {0, 1, 1, 1, 2, 2, 3};
        int[] again = {0, 0, 0, 1, 1, 2, 2};
        for (int i = 0; i < issued.length; i++) {
            Check.due("issued, beat " + i, x.act(2, 6), issued[i]);
            Check.due("again, beat " + i, x.act(2, 7), again[i]);
            Check.due("the one behind it: issued, beat " + i, x.act(3, 6), issued[i]);
            Check.due("the one behind it: again, beat " + i, x.act(3, 7), 0);
            Check.due("a store", x.act(1, 6), Math.min(1, i));
            Check.due("a store", x.act(1, 7) + x.act(1, 8), 0);
            x.pass(1);
        }
        x.pass(9);
        Check.due("none waited", x.count(10), 0);
        OvertakingLoads y = Rows.wide("s4:1=7/3,5;l4:1/1@1;s8:1=8/0,9;l9:1/4@1");
        y.set(4, 1);
        y.pass(20);
        Check.due("by the guess and for the data", y.act(1, 8), 4);
        Check.due("known when all addresses are", y.act(3, 8), 0);
        Check.due("stores wait in no beat", y.act(0, 8) + y.act(2, 8), 0);
    }

    private static void actPlace() {
        Check.says("9 for its place (NONE for a store)");
        OvertakingLoads x = Rows.machine("s4:1=7;l4:1;l4:1@7");
        Check.due("a store", x.act(0, 9), NONE);
        Check.due("place 0", x.act(1, 9), 0);
        Check.due("place 7", x.act(2, 9), 7);
    }

    private static void sourceAnswers() {
        Check.says("- `byteAt`: 0 to 2: which of its bytes");
        Check.says("Returns the number of the store, 99 for the memory; UNKNOWN if there is no such act; "
            + "BAD_VALUE, also if it has not so many bytes;");
        OvertakingLoads x = Rows.merging("s4:1=7;s6:1=8;l4:3;l5:1;l6:2");
        x.pass(2);
        int[][] dues = {{0, 99, 1}, {99, BAD_VALUE, BAD_VALUE}, {99, 99, BAD_VALUE}};
        for (int load = 2; load <= 4; load++) {
            for (int byteAt = 0; byteAt < 3; byteAt++) {
                Check.due("byte " + byteAt + " of " + load, x.source(load, byteAt), dues[load - 2][byteAt]);
            }
            int[] noBytes = {-1, 3, 4, LOWEST, HIGHEST};
            for (int byteAt : noBytes) {
                Check.due("byte " + byteAt, x.source(load, byteAt), BAD_VALUE);
            }
        }
        int[] noActs = {-1, 5, 48, LOWEST, HIGHEST};
        for (int act : noActs) {
            Check.due("act " + act, x.source(act, 0), UNKNOWN);
            Check.due("act " + act + ", byte out of range", x.source(act, 3), UNKNOWN);
        }
        Check.due("the empty row", new OvertakingLoads().source(0, 0), UNKNOWN);
        x.pass(9);
        Check.due("when all are retired", x.source(2, 2), 1);
        OvertakingLoads last = new OvertakingLoads();
        last.set(1, 4);
        for (int i = 0; i < 47; i++) {
            last.store(i, 1, 1, 0, 0);
        }
        last.load(46, 1, 0, 0);
        last.pass(30);
        Check.due("the last store there can be", last.source(47, 0), 46);
    }

    private static void sourceOfAStoreOrWithoutValue() {
        Check.says("NONE if it is a store, or a load that has no value yet.");
        OvertakingLoads x = Rows.wide("s4:1=7/2;l4:1/1");
        int[] dues = {NONE, NONE, 99, NONE, NONE, 99, 99};
        for (int due : dues) {
            Check.due("beat " + x.count(0), x.source(1, 0), due);
            Check.due("a store", x.source(0, 0), NONE);
            Check.due("not so many bytes", x.source(1, 1), BAD_VALUE);
            x.pass(1);
        }
    }

    private static void memoryAnswers() {
        Check.says("Returns the byte of the memory; UNKNOWN.");
        OvertakingLoads x = Rows.machine("s0:1=1;s61:3=16711935");
        x.pass(3);
        Check.due("0", x.memory(0), 1);
        Check.due("61", x.memory(61), 255);
        Check.due("62", x.memory(62), 0);
        Check.due("63", x.memory(63), 255);
        int[] noAddresses = {-1, 64, 65, LOWEST, HIGHEST};
        for (int address : noAddresses) {
            Check.due("memory " + address, x.memory(address), UNKNOWN);
        }
    }

    private static void counterAnswers() {
        Check.says("Returns the counter; UNKNOWN.");
        OvertakingLoads x = new OvertakingLoads();
        x.setCounter(0, 3);
        x.setCounter(7, 2);
        Check.due("0", x.counter(0), 3);
        Check.due("7", x.counter(7), 2);
        int[] noPlaces = {-1, 8, 9, LOWEST, HIGHEST};
        for (int place : noPlaces) {
            Check.due("counter " + place, x.counter(place), UNKNOWN);
        }
    }

    private static void plainAnswers() {
        Check.says("Returns the value; UNKNOWN; NONE if it is a store.");
        OvertakingLoads x = Rows.machine("l61:3;s61:3=16777215;l61:3;l60:2");
        Check.due("ahead of all stores", x.plain(0), 0);
        Check.due("a store", x.plain(1), NONE);
        Check.due("the greatest value", x.plain(2), 16777215);
        Check.due("one byte of it", x.plain(3), 65280);
        int[] noActs = {-1, 4, 48, LOWEST, HIGHEST};
        for (int act : noActs) {
            Check.due("plain " + act, x.plain(act), UNKNOWN);
        }
        Check.due("the empty row", new OvertakingLoads().plain(0), UNKNOWN);
    }

    private static void countAnswers() {
        Check.says("Returns the number; BAD_VALUE.");
        OvertakingLoads x = new OvertakingLoads();
        int[] wrong = {-1, 20, 21, LOWEST, HIGHEST};
        for (int what : wrong) {
            Check.due("count " + what, x.count(what), BAD_VALUE);
        }
        int[] first = {0, 0, 0, 0, 0, 0, 0, 0, 0, 0, 0, 0, 0, 0, 0, 8, 2, 1, 0, 0};
        for (int what = 0; what < first.length; what++) {
            Check.due("count " + what, x.count(what), first[what]);
        }
    }

    private static void countsOfTheRow() {
        Check.says("1 for the acts of the row, 2 to 5 for those that wait, are issued, done, retired, "
            + "6 for loads of the row that are retired and right, 7 for loads of the row that are retired");
        OvertakingLoads x = new OvertakingLoads();
        for (int i = 0; i < 48; i++) {
            x.load(0, 1, 0, 0);
        }
        dueCounts(x, 48, 48, 0, 0, 0, 0, 0);
        x.pass(1);
        dueCounts(x, 48, 46, 1, 1, 0, 0, 0);
        x.pass(2);
        dueCounts(x, 48, 42, 3, 1, 2, 2, 2);
        x.pass(500);
        dueCounts(x, 48, 0, 0, 0, 48, 48, 48);
        x.wipe();
        dueCounts(x, 0, 0, 0, 0, 0, 0, 0);
        x.store(0, 1, 1, 0, 0);
        x.pass(2);
        dueCounts(x, 1, 0, 0, 0, 1, 0, 0);
        OvertakingLoads y = Rows.wide("s0:1=1/9;l9:1;l9:1;l9:1;l9:1/1;l9:1");
        y.pass(2);
        dueCounts(y, 6, 0, 2, 4, 0, 0, 0);
    }

    private static void dueCounts(OvertakingLoads x, int... due) {
        for (int i = 0; i < due.length; i++) {
            Check.due("beat " + x.count(0) + ", count " + (i + 1), x.count(i + 1), due[i]);
        }
    }

    private static void countsSoFar() {
        Check.says("11 for bytes that were forwarded from stores to loads that were done so far, "
            + "12 for loads that went ahead of a store with an unknown address so far (as they were done)");
        OvertakingLoads x = Rows.merging("s4:2=513/0,9;s5:1=9;s8:1=1/2;l5:1;l6:1/2;l4:2");
        x.set(0, 16);
        Rows.hasByBeats(x, "121200");
        Check.due("one byte", x.count(11), 1);
        Check.due("ahead", x.count(12), 1);
        Rows.hasByBeats(x, "121211");
        Check.due("none more of one that waits", x.count(11), 1);
        Check.due("nor ahead", x.count(12), 1);
        x.pass(7);
        Rows.hows(x, "122221");
        Check.due("not ahead: the address was known by then", x.count(12), 1);
        Rows.hasByBeats(x, "222222");
        Check.due("two bytes more, from two stores", x.count(11), 3);
        Check.due("ahead of none", x.count(12), 1);
        // A load that is done again is counted each time that it is done.
        OvertakingLoads y = Rows.wide("s4:1=6;s4:1=7/1,2;l4:1");
        Rows.hasByBeats(y, "212", "310", "322");
        Check.due("a byte each time", y.count(11), 2);
        Check.due("ahead but once", y.count(12), 1);
        OvertakingLoads z = Rows.wide("s4:1=6;s4:1=7/1;s9:1=9/5;l4:1");
        Rows.hasByBeats(z, "2112", "3210", "3312");
        Check.due("ahead each time", z.count(12), 2);
        Check.due("from the memory the second time", z.count(11), 1);
    }

    private static void countsOfRedoing() {
        Check.says("8 for how often loads had to be done again so far, 9 for acts that left the queue by that so far, "
            + "10 for beats that loads waited so far, all together");
        OvertakingLoads x = Rows.wide("s4:1=7/2;s5:1=8/4;l4:2@1;l9:1@2");
        int[] again = {0, 0, 0, 1, 1, 2, 2};
        int[] left = {0, 0, 0, 2, 2, 4, 4};
        for (int i = 0; i < again.length; i++) {
            Check.due("again, beat " + i, x.count(8), again[i]);
            Check.due("left, beat " + i, x.count(9), left[i]);
            Check.due("waited, beat " + i, x.count(10), 0);
            x.pass(1);
        }
        Check.due("all are retired", x.wipe(), 4);
        Check.due("wiped: again", x.count(8), 2);
        Check.due("wiped: left", x.count(9), 4);
        OvertakingLoads y = Rows.wide("s4:1=7/3;l9:1;l9:1/1;l4:1/3");
        y.set(4, 1);
        int[] waited = {0, 1, 3, 5, 5, 5};
        for (int due : waited) {
            Check.due("waited, beat " + y.count(0), y.count(10), due);
            y.pass(1);
        }
        y.undo();
        y.undo();
        y.undo();
        Check.due("undone", y.count(10), 5);
        y.undo();
        Check.due("undone", y.count(10), 3);
    }

    private static void countsOfTheRest() {
        Check.says("13 for the states in the history, 14 for the length of the text, 15 to 19 for the settings 0 to 4");
        OvertakingLoads x = new OvertakingLoads();
        for (int states = 0; states <= 6; states++) {
            Check.due("states", x.count(13), Math.min(4, states));
            x.pass(1);
        }
        for (int length = 0; length <= 60; length++) {
            Check.due("length", x.count(14), length);
            x.type('l');
        }
        Check.due("length", x.count(14), 60);
        int[] most = {16, 4, 4, 1, 2};
        int[] first = {8, 2, 1, 0, 0};
        for (int which = 0; which < 5; which++) {
            Check.due("at first", x.count(15 + which), first[which]);
            x.set(which, most[which]);
            Check.due("the most", x.count(15 + which), most[which]);
        }
    }

    // ---- promises 21 to 24

    private static void doneInAnswers() {
        Check.says("Returns how many, 0 if they are; NONE if they are not within 2000.");
        OvertakingLoads x = new OvertakingLoads();
        Check.due("none", x.doneIn(), 0);
        x.load(0, 1, 0, 0);
        Check.due("two beats", x.doneIn(), 2);
        x.pass(1);
        Check.due("one beat", x.doneIn(), 1);
        x.pass(1);
        Check.due("they are", x.doneIn(), 0);
        x.pass(500);
        Check.due("they are still", x.doneIn(), 0);
        x.wipe();
        for (int i = 0; i < 48; i++) {
            x.store(0, 1, 0, 20, 20);
        }
        x.set(0, 1);
        Check.due("the longest row", x.doneIn(), 48 * 21 + 1);
        for (int passed = 0; passed < 1000; passed += 500) {
            Check.due("on its way", x.doneIn(), 1009 - passed);
            x.pass(500);
        }
        Check.due("near its end", x.doneIn(), 9);
        x.pass(9);
        Check.due("at its end", x.count(5), 48);
    }

    private static void ifGuessedAnswers() {
        Check.says("- `guess`: 0 to 2");
        Check.says("- `what`: 0 for the beats, 1 for how often loads would have to be done again, "
            + "2 for the beats that loads would wait");
        Check.says("Returns the number; BAD_VALUE; NONE if not all are retired within 2000 beats.");
        OvertakingLoads x = Rows.machine("s4:1=7/5;l4:1");
        int[] wrong = {-1, 3, 4, LOWEST, HIGHEST};
        for (int bad : wrong) {
            Check.due("guess " + bad, x.ifGuessed(bad, 0), BAD_VALUE);
            Check.due("what " + bad, x.ifGuessed(0, bad), BAD_VALUE);
        }
        int[][] dues = {{8, 1, 0}, {7, 0, 5}, {8, 1, 0}};
        for (int guess = 0; guess <= 2; guess++) {
            for (int what = 0; what <= 2; what++) {
                Check.due("guess " + guess + ", what " + what, x.ifGuessed(guess, what), dues[guess][what]);
            }
        }
        OvertakingLoads apart = Rows.machine("s4:1=7/5;l9:1");
        Check.due("ahead, but not too early", apart.ifGuessed(2, 1), 0);
        Check.due("no waiting", apart.ifGuessed(2, 2), 0);
        Check.due("none again", apart.ifGuessed(1, 1), 0);
        Check.due("waiting", apart.ifGuessed(1, 2), 5);
        x.pass(20);
        for (int guess = 0; guess <= 2; guess++) {
            for (int what = 0; what <= 2; what++) {
                Check.due("all are retired", x.ifGuessed(guess, what), 0);
            }
        }
    }

    private static void bestGuessAnswers() {
        Check.says("Finds the guess with which all acts are retired the soonest, of several the lowest one.");
        Check.due("no acts: all the same", new OvertakingLoads().bestGuess(), 0);
        OvertakingLoads done = Rows.machine("s4:1=7/5;l4:1");
        Check.due("1 is sooner than 0 and 2", done.bestGuess(), 1);
        done.pass(20);
        Check.due("all are retired: all the same", done.bestGuess(), 0);
        OvertakingLoads x = Rows.machine("s0:1=1/5;l1:1;l2:1;l3:1;l4:1;l5:1");
        Check.due("0 and 2 the same, and sooner than 1", x.bestGuess(), 0);
        x.setCounter(0, 2);
        Check.due("0 and 1 the same, 2 sooner", x.bestGuess(), 2);
        OvertakingLoads y = Rows.machine("s4:1=7/5;l4:1");
        y.setCounter(0, 2);
        Check.due("0 and 1 the same, and sooner than 2", y.bestGuess(), 0);
        OvertakingLoads z = Rows.machine("l0:1;l0:1");
        z.set(4, 2);
        Check.due("all the same, whatever is set", z.bestGuess(), 0);
    }

    private static void leastQueueAnswers() {
        Check.says("Finds the least queue with which all acts are retired as soon as with a queue of 16");
        Check.due("no acts", new OvertakingLoads().leastQueue(), 1);
        Check.due("one act", Rows.machine("l0:1").leastQueue(), 1);
        OvertakingLoads x = new OvertakingLoads();
        x.set(1, 4);
        for (int acts = 1; acts <= 16; acts++) {
            x.store(acts, 1, 0, 20, 0);
            Check.due("so many acts", x.leastQueue(), acts);
        }
        Check.due("16 itself, if no other is as soon", longRow().leastQueue(), 16);
        // A queue of 2 is sooner than 16, which is not as soon.
        Check.due("not what is sooner", Rows.machine("l2:1/2;s2:1=1/3;l2:1").leastQueue(), 3);
    }

    /** Stores behind one another, so many that no queue but the longest is as soon as it. */
    private static OvertakingLoads longRow() {
        OvertakingLoads x = new OvertakingLoads();
        x.set(1, 4);
        for (int acts = 0; acts < 32; acts++) {
            x.store(acts, 1, 0, 20, 0);
        }
        return x;
    }

    private static void queuesAtLeastAsLong() {
        Check.says("(queues at least as long as the acts that are in it now).");
        OvertakingLoads x = Rows.machine("s0:1=1/9;l9:1;l9:1;l9:1;l9:1;l9:1");
        x.set(0, 6);
        for (int beats = 0; beats < 3; beats++) {
            x.pass(1);
            Check.holds("not less than " + (x.count(3) + x.count(4)), x.leastQueue() >= x.count(3) + x.count(4));
        }
        Check.due("six are in it", x.count(3) + x.count(4), 6);
        Check.due("six", x.leastQueue(), 6);
        x.pass(20);
        Check.due("none is in it", x.leastQueue(), 1);
        OvertakingLoads full = longRow();
        full.set(0, 16);
        full.pass(4);
        Check.due("16 are in it", full.count(3) + full.count(4), 16);
        Check.due("16", full.leastQueue(), 16);
    }
}
