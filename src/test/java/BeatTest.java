/** Promise 5: what happens in a beat, one rule after the other. */
public final class BeatTest {
    public static void main(String[] args) {
        retiresInOrder();
        width();
        queueRoom();
        roomComesInTheSameBeat();
        storeNeedsBoth();
        ports();
        waitingTakesNoPort();
        behindUsedPortsNoneWaits();
        allOfOneStore();
        notMerged();
        merged();
        dataNotKnown();
        latestKnownStore();
        alwaysWaits();
        neverWaits();
        tooEarly();
        notTooEarlyFromALaterStore();
        tooEarlyFromAStoreAhead();
        oldestTooEarlyOne();
        onlyStoresInTheQueueAreLookedAt();
        counterRises();
        tableMakesWait();
        counterFalls();
        counterStaysWhenTheStoreGives();
        counterFallsWhenTheStoreIsRetired();
        settingChangedWhileItWaits();
        waitingOfAnEarlierIssueIsForgotten();
        counterCountsWithinABeat();
        Check.end("BeatTest");
    }

    private static void retiresInOrder() {
        Rows.hasByBeats(Rows.machine("s0:1=1/1;l9:1"), "12", "22", "33");
        Rows.hasByBeats(Rows.machine("l9:1/2;l9:1"), "12", "12", "22", "33");
    }

    private static void width() {
        OvertakingLoads x = Rows.machine("s0:1=1;s1:1=1;s2:1=1;s3:1=1;s4:1=1");
        x.set(1, 1);
        Rows.hasByBeats(x, "20000", "32000", "33200");
        x.set(1, 4);
        Rows.hasByBeats(x, "33322");
        OvertakingLoads y = Rows.machine("s0:1=1/3;s1:1=1;s2:1=1;s3:1=1;s4:1=1");
        y.pass(4);
        Rows.hows(y, "22222");
        y.set(1, 3);
        Rows.hasByBeats(y, "33322", "33333");
    }

    private static void queueRoom() {
        OvertakingLoads x = Rows.machine("s0:1=1/2;s1:1=1;s2:1=1;s3:1=1");
        x.set(0, 3);
        Rows.hasByBeats(x, "1200", "1220", "2220", "3322", "3333");
    }

    private static void roomComesInTheSameBeat() {
        OvertakingLoads x = Rows.machine("s0:1=1;s1:1=1");
        x.set(0, 1);
        Rows.hasByBeats(x, "20", "32", "33");
        Check.due("issued in beat 1", x.act(1, 5), 1);
    }

    private static void storeNeedsBoth() {
        Rows.hasByBeats(Rows.machine("s0:1=1/1,2"), "1", "1", "2", "3");
        Rows.hasByBeats(Rows.machine("s0:1=1/2,1"), "1", "1", "2", "3");
        Rows.hasByBeats(Rows.machine("s0:1=1/0,1"), "1", "2", "3");
    }

    private static void ports() {
        OvertakingLoads x = Rows.machine("l0:1;l1:1;l2:1;l3:1");
        x.set(1, 4);
        Rows.hasByBeats(x, "2111", "3211", "3321", "3332", "3333");
        OvertakingLoads y = Rows.machine("l0:1;l1:1;l2:1;l3:1");
        y.set(1, 4);
        y.set(2, 3);
        Rows.hasByBeats(y, "2221", "3332");
    }

    private static void waitingTakesNoPort() {
        OvertakingLoads x = Rows.machine("s0:1=1/0,3;l0:1;l1:1");
        x.set(1, 4);
        Rows.hasByBeats(x, "112");
        Check.due("it waited", x.act(1, 8), 1);
        Check.due("the other did not", x.act(2, 8), 0);
    }

    private static void behindUsedPortsNoneWaits() {
        OvertakingLoads x = Rows.machine("s0:1=1/0,5;l9:1;l0:1");
        x.set(1, 4);
        x.pass(1);
        Rows.hows(x, "121");
        Check.due("not looked at", x.act(2, 8), 0);
        x.pass(1);
        Check.due("looked at", x.act(2, 8), 1);
        Check.due("all waiting", x.count(10), 1);
    }

    private static void allOfOneStore() {
        OvertakingLoads x = Rows.machine("s4:3=197121/0,3;l5:2");
        Rows.hasByBeats(x, "11", "11", "11", "22");
        Check.due("value", x.act(1, 3), 3 * 256 + 2);
        Check.due("source", x.source(1, 0), 0);
        Check.due("source", x.source(1, 1), 0);
        Check.due("forwarded", x.count(11), 2);
        Check.due("waited", x.count(10), 3);
        Check.due("not ahead of any", x.count(12), 0);
    }

    private static void notMerged() {
        OvertakingLoads x = Rows.wide("s4:1=7;s5:1=8/0,2;l4:2;l3:2;s3:1=9;l3:1");
        Rows.hasByBeats(x, "211100", "311222", "321222", "332222", "333333");
        Check.due("waited while it came from two", x.act(2, 8), 3);
        Check.due("waited while it came from one and the memory", x.act(3, 8), 1);
        Check.due("value", x.act(2, 3), 8 * 256 + 7);
        Check.due("value", x.act(3, 3), 7 * 256);
        Check.due("from the memory", x.source(2, 0), 99);
        Check.due("from the memory", x.source(3, 1), 99);
        Check.due("from the store", x.source(5, 0), 4);
        Check.due("forwarded", x.count(11), 1);
    }

    private static void merged() {
        OvertakingLoads x = Rows.wide("s4:1=7;s5:1=8/0,2;l4:2;l3:2");
        x.set(3, 1);
        Rows.hasByBeats(x, "2112", "3112", "3222", "3333");
        Check.due("the memory and a store", x.act(3, 3), 7 * 256);
        Check.due("the memory", x.source(3, 0), 99);
        Check.due("a store", x.source(3, 1), 0);
        Check.due("waits for the data of one", x.act(2, 8), 2);
        Check.due("the first was written", x.source(2, 0), 99);
        Check.due("the second was not", x.source(2, 1), 1);
        Check.due("forwarded", x.count(11), 2);
        OvertakingLoads y = Rows.wide("s4:1=7;s5:1=8;l4:2");
        y.set(3, 1);
        y.pass(1);
        Check.due("two stores", y.act(2, 3), 8 * 256 + 7);
        Check.due("one", y.source(2, 0), 0);
        Check.due("two", y.source(2, 1), 1);
    }

    private static void dataNotKnown() {
        OvertakingLoads x = Rows.wide("s4:1=7/0,2;s5:1=8;l4:1;l5:1;l6:1");
        x.set(4, 2);
        Rows.hasByBeats(x, "12120", "12122", "22222");
    }

    private static void latestKnownStore() {
        OvertakingLoads x = Rows.wide("s4:1=7;s4:1=8;s4:1=9/3;l4:1");
        x.pass(1);
        Rows.hows(x, "2212");
        Check.due("the latest known one", x.source(3, 0), 1);
        Check.due("its value", x.act(3, 3), 8);
        Check.due("ahead of one", x.count(12), 1);
        x.pass(3);
        Rows.hows(x, "3320");
        x.pass(1);
        Check.due("the memory by now", x.source(3, 0), 99);
        Check.due("the value", x.act(3, 3), 9);
        OvertakingLoads y = Rows.wide("l4:1;s4:1=7");
        y.pass(1);
        Check.due("no store behind", y.source(0, 0), 99);
        Check.due("no value from behind", y.act(0, 3), 0);
    }

    private static void alwaysWaits() {
        OvertakingLoads x = Rows.wide("s4:1=7/2,5;l9:1;s5:1=1;l9:1/1");
        x.set(4, 1);
        Rows.hasByBeats(x, "1121", "1121", "1222");
        Check.due("waited", x.act(1, 8), 2);
        Check.due("waited since its address was known", x.act(3, 8), 1);
        Check.due("went ahead of none", x.count(12), 0);
        Check.due("no counter falls", x.counter(0), 0);
        OvertakingLoads y = Rows.wide("l9:1;s4:1=7/9");
        y.set(4, 1);
        y.pass(1);
        Rows.hows(y, "21");
    }

    private static void neverWaits() {
        OvertakingLoads x = Rows.wide("s4:1=7/2,5;l9:1@3");
        x.setCounter(3, 3);
        x.set(4, 2);
        Rows.hasByBeats(x, "12");
        Check.due("went ahead", x.count(12), 1);
        Check.due("the counter stays", x.counter(3), 3);
    }

    private static void tooEarly() {
        OvertakingLoads x = Rows.wide("s4:2=513/2;l5:1@6;l9:1@2;s9:1=3");
        Rows.hasByBeats(x, "1222", "1222", "2000", "3222", "3333");
        Check.due("done again", x.act(1, 7), 1);
        Check.due("not for its own sake", x.act(2, 7), 0);
        Check.due("issued twice", x.act(1, 6), 2);
        Check.due("issued twice, too", x.act(2, 6), 2);
        Check.due("the store once", x.act(0, 6), 1);
        Check.due("in all", x.count(8), 1);
        Check.due("left", x.count(9), 3);
        Check.due("ahead, three times", x.count(12), 2);
        Check.due("counter", x.counter(6), 1);
        Check.due("no other", x.counter(2), 0);
        Check.due("value", x.act(1, 3), 2);
        Check.due("right", x.count(6), 2);
        Check.due("address known", x.act(1, 5), 3);
    }

    private static void notTooEarlyFromALaterStore() {
        OvertakingLoads x = Rows.wide("s4:1=7/2;s4:1=8;l4:1;l3:1");
        Rows.hasByBeats(x, "1222", "1222", "2222");
        Check.due("the value of the later one", x.act(2, 3), 8);
        Check.due("none again", x.count(8), 0);
    }

    private static void tooEarlyFromAStoreAhead() {
        OvertakingLoads x = Rows.wide("s4:1=6/0,3;s4:1=7/4;s3:1=9;l4:1");
        Rows.hasByBeats(x, "1121", "1121", "1121", "2122", "3220");
        Check.due("from the store ahead of it", x.count(8), 1);
    }

    private static void oldestTooEarlyOne() {
        OvertakingLoads x = Rows.wide("s4:1=7/1;l8:1;l4:1@1;l4:1@2");
        Rows.hasByBeats(x, "1222", "2200");
        Check.due("once", x.count(8), 1);
        Check.due("two left", x.count(9), 2);
        Check.due("the oldest one's", x.counter(1), 1);
        Check.due("not the other's", x.counter(2), 0);
        Check.due("the oldest one", x.act(2, 7), 1);
        Check.due("not the other", x.act(3, 7), 0);
    }

    private static void onlyStoresInTheQueueAreLookedAt() {
        // Both stores are known in beat 1; the second one leaves with the load that the first one makes early.
        OvertakingLoads x = Rows.wide("s4:1=7/1;l4:1@1;s5:1=8/1;l5:1@2");
        Rows.hasByBeats(x, "1212", "2000");
        Check.due("once", x.count(8), 1);
        Check.due("three left", x.count(9), 3);
        Check.due("the second store was not looked at", x.counter(2), 0);
        Rows.hasByBeats(x, "3212", "3320");
        Check.due("it is known anew", x.act(2, 5), 3);
        Check.due("then it was", x.counter(2), 1);
        // Here the second one stays: it is ahead of the load that the first one makes early.
        OvertakingLoads y = Rows.wide("s4:1=7/1;s5:1=8/1;l5:1@2;l4:1@1");
        Rows.hasByBeats(y, "1122", "2200");
        Check.due("the first store takes the later load", y.counter(1), 1);
        Check.due("the second store takes the earlier one", y.counter(2), 1);
        Check.due("twice", y.count(8), 2);
        Check.due("one and then one more", y.count(9), 2);
    }

    private static void counterRises() {
        OvertakingLoads x = Rows.wide("s4:1=7/1;l4:1@7");
        for (int guess = 0; guess <= 2; guess += 2) {
            x.set(4, guess);
            for (int counter = guess == 0 ? 0 : 2; counter <= 3; counter++) {
                x.setCounter(7, counter);
                x.keep();
                x.pass(2);
                boolean goes = guess == 2 || counter < 2;
                Check.due("counter of " + counter, x.counter(7), goes ? Math.min(3, counter + 1) : counter);
                x.restore();
            }
        }
    }

    private static void tableMakesWait() {
        for (int counter = 0; counter <= 3; counter++) {
            OvertakingLoads x = Rows.wide("s4:1=7/2;l9:1@4;l9:1@5");
            x.setCounter(4, counter);
            x.pass(1);
            Rows.hows(x, counter < 2 ? "122" : "112");
            Check.due("waited", x.act(1, 8), counter < 2 ? 0 : 1);
            Check.due("ahead", x.count(12), counter < 2 ? 2 : 1);
        }
        OvertakingLoads y = Rows.wide("s4:1=7/0,9;l9:1@4");
        y.setCounter(4, 3);
        y.pass(1);
        Rows.hows(y, "12");
        Check.due("no store with an unknown address: the counter stays", y.counter(4), 3);
    }

    private static void counterFalls() {
        OvertakingLoads x = Rows.wide("s4:1=7/2;l9:1@4");
        x.setCounter(4, 3);
        x.pass(2);
        Check.due("not yet", x.counter(4), 3);
        x.pass(1);
        Check.due("when it is done", x.counter(4), 2);
        x.pass(5);
        Check.due("only then", x.counter(4), 2);
        // The user sets the counter to 0 while it waits.
        OvertakingLoads y = Rows.wide("s4:1=7/2;l9:1@4");
        y.setCounter(4, 2);
        y.pass(1);
        y.setCounter(4, 0);
        y.pass(1);
        Rows.hows(y, "12");
        Check.due("0 at least", y.counter(4), 0);
        // Its bytes come from a store, but from one whose address was known.
        OvertakingLoads z = Rows.wide("s9:1=1;s4:1=7/2;l9:1@4");
        z.setCounter(4, 3);
        z.pass(1);
        Rows.hows(z, "211");
        z.pass(2);
        Check.due("from no store for which it waited", z.counter(4), 2);
        OvertakingLoads w = Rows.wide("s9:1=1/0,9;s4:1=7/2;l9:1@4");
        w.setCounter(4, 3);
        w.pass(10);
        Check.due("from the known store", w.source(2, 0), 0);
        Check.due("that falls, too", w.counter(4), 2);
    }

    private static void counterStaysWhenTheStoreGives() {
        OvertakingLoads x = Rows.wide("s4:1=7/2;l4:1@4");
        x.setCounter(4, 3);
        x.pass(3);
        Rows.hows(x, "22");
        Check.due("from the store", x.source(1, 0), 0);
        Check.due("stays", x.counter(4), 3);
        OvertakingLoads y = Rows.wide("s9:1=1/1;s4:1=7/2;l3:2@4");
        y.setCounter(4, 3);
        y.set(3, 1);
        y.pass(3);
        Rows.hows(y, "322");
        Check.due("one byte from a store for which it waited", y.counter(4), 3);
        // It waited for that store in its first beat alone.
        OvertakingLoads z = Rows.wide("s3:1=9/1,8;s5:1=7/4;l3:1@4");
        z.setCounter(4, 3);
        z.pass(9);
        Rows.hows(z, "222");
        Check.due("from the first", z.source(2, 0), 0);
        Check.due("stays, too", z.counter(4), 3);
    }

    private static void counterFallsWhenTheStoreIsRetired() {
        OvertakingLoads x = Rows.wide("s4:1=7/1;s5:1=1/5;l4:1@4");
        x.setCounter(4, 3);
        x.pass(6);
        Rows.hows(x, "322");
        Check.due("from the memory", x.source(2, 0), 99);
        Check.due("the value of the store", x.act(2, 3), 7);
        Check.due("falls", x.counter(4), 2);
    }

    private static void settingChangedWhileItWaits() {
        OvertakingLoads x = Rows.wide("s4:1=7/5;l9:1@4");
        x.setCounter(4, 3);
        x.pass(1);
        x.set(4, 2);
        x.pass(1);
        Rows.hows(x, "12");
        Check.due("it had to wait by the table", x.counter(4), 2);
        OvertakingLoads y = Rows.wide("s4:1=7/5;l9:1@4");
        y.setCounter(4, 3);
        y.set(4, 1);
        y.pass(2);
        y.set(4, 2);
        y.pass(1);
        Rows.hows(y, "12");
        Check.due("it had to wait, but not by the table", y.counter(4), 3);
    }

    private static void waitingOfAnEarlierIssueIsForgotten() {
        // Load 3 waits by the table, then leaves with load 2; when it is issued again, no address is unknown.
        OvertakingLoads x = Rows.wide("s4:1=7/3;s8:1=1;l4:1@1;l9:1@2");
        x.setCounter(2, 3);
        x.pass(3);
        Rows.hows(x, "1221");
        x.pass(3);
        Rows.hows(x, "3333");
        Check.due("it waited", x.act(3, 8), 3);
        Check.due("issued twice", x.act(3, 6), 2);
        Check.due("the counter stays", x.counter(2), 3);
    }

    private static void counterCountsWithinABeat() {
        // The first load lowers the counter; the second one goes ahead by it in the same beat.
        OvertakingLoads x = Rows.wide("s4:1=7/1;l9:1@4;s5:1=7/9;l9:1@4");
        x.setCounter(4, 2);
        Rows.hasByBeats(x, "1111", "2212");
        Check.due("lowered once by each", x.counter(4), 0);
        Check.due("ahead", x.count(12), 1);
    }
}
