/** Promises 21 to 24: what would be. */
public final class AheadTest {
    private static final int BAD_VALUE = OvertakingLoads.BAD_VALUE;

    public static void main(String[] args) {
        nothingToDo();
        doneIn();
        doneInOnTheWay();
        longest();
        ifGuessedErrors();
        ifGuessed();
        ifGuessedCountsFromNow();
        bestGuess();
        leastQueue();
        leastQueueHoldsWhatIsInIt();
        shorterAndSooner();
        soonerInTheMiddle();
        Check.end("AheadTest");
    }

    private static void nothingToDo() {
        OvertakingLoads x = new OvertakingLoads();
        for (int i = 0; i < 2; i++) {
            Check.due("doneIn", x.doneIn(), 0);
            Check.due("bestGuess", x.bestGuess(), 0);
            Check.due("leastQueue", x.leastQueue(), 1);
            for (int guess = 0; guess <= 2; guess++) {
                for (int what = 0; what <= 2; what++) {
                    Check.due("ifGuessed", x.ifGuessed(guess, what), 0);
                }
            }
            x.store(0, 1, 1, 2, 0);
            x.load(0, 1, 0, 0);
            x.pass(20);
        }
    }

    private static void doneIn() {
        Check.due("one act", Rows.machine("l0:1").doneIn(), 2);
        Check.due("two", Rows.machine("l0:1;s0:1=1").doneIn(), 2);
        Check.due("two loads", Rows.machine("l0:1;l0:1").doneIn(), 3);
        Check.due("a delay", Rows.machine("s0:1=1/20").doneIn(), 22);
        Check.due("one again", Rows.machine("s0:1=1/5;l0:1").doneIn(), 8);
    }

    private static void doneInOnTheWay() {
        OvertakingLoads x = Rows.machine("s0:1=1/5;l0:1;s1:1=1/5,9;l1:1");
        int due = x.doneIn();
        while (due > 0) {
            Check.due("beats so far", x.count(5) == 4 ? 1 : 0, 0);
            x.pass(1);
            due--;
            Check.due("doneIn", x.doneIn(), due);
        }
        Check.due("all are retired", x.count(5), 4);
    }

    private static void longest() {
        OvertakingLoads x = new OvertakingLoads();
        for (int i = 0; i < 48; i++) {
            x.store(0, 1, i, 20, 20);
        }
        x.set(0, 1);
        x.set(1, 1);
        int due = 48 * 21 + 1;
        Check.due("doneIn", x.doneIn(), due);
        Check.due("ifGuessed", x.ifGuessed(1, 0), due);
        Check.due("leastQueue", x.leastQueue(), 16);
        x.pass(500);
        Check.due("doneIn", x.doneIn(), due - 500);
    }

    private static void ifGuessedErrors() {
        OvertakingLoads x = Rows.machine("s0:1=1/5;l0:1");
        Check.due("guess -1", x.ifGuessed(-1, 0), BAD_VALUE);
        Check.due("guess 3", x.ifGuessed(3, 0), BAD_VALUE);
        Check.due("what -1", x.ifGuessed(0, -1), BAD_VALUE);
        Check.due("what 3", x.ifGuessed(2, 3), BAD_VALUE);
        Check.due("lowest", x.ifGuessed(Integer.MIN_VALUE, Integer.MIN_VALUE), BAD_VALUE);
        Check.due("highest", x.ifGuessed(0, Integer.MAX_VALUE), BAD_VALUE);
    }

    private static void dueGuess(OvertakingLoads x, int guess, int... due) {
        for (int what = 0; what < due.length; what++) {
            Check.due("guess " + guess + ", " + what, x.ifGuessed(guess, what), due[what]);
        }
    }

    private static void ifGuessed() {
        OvertakingLoads x = Rows.machine("s0:1=1/5;l0:1");
        dueGuess(x, 0, 8, 1, 0);
        dueGuess(x, 1, 7, 0, 5);
        dueGuess(x, 2, 8, 1, 0);
        x.setCounter(0, 2);
        dueGuess(x, 0, 7, 0, 5);
        dueGuess(x, 2, 8, 1, 0);
        x.set(4, 1);
        dueGuess(x, 0, 7, 0, 5);
        dueGuess(x, 2, 8, 1, 0);
        Check.due("the setting stays", x.count(19), 1);
        Check.due("the counter stays", x.counter(0), 2);
    }

    private static void ifGuessedCountsFromNow() {
        OvertakingLoads x = Rows.machine("s0:1=1/5;l0:1;s1:1=1/0,9;l1:1");
        x.pass(4);
        Check.due("waited so far", x.count(10), 3);
        dueGuess(x, 1, 13, 1, 9);
        x.pass(2);
        Check.due("once so far", x.count(8), 1);
        dueGuess(x, 1, 11, 0, 8);
        dueGuess(x, 2, 11, 0, 8);
    }

    private static void bestGuess() {
        Check.due("all the same", Rows.machine("l0:1").bestGuess(), 0);
        OvertakingLoads waits = Rows.machine("s0:1=1/5;l0:1");
        Check.due("waiting is better", waits.bestGuess(), 1);
        waits.setCounter(0, 3);
        Check.due("the table does as well", waits.bestGuess(), 0);
        OvertakingLoads goes = Rows.machine("s0:1=1/5;l1:1;l2:1;l3:1;l4:1;l5:1");
        Check.due("the table goes, too", goes.bestGuess(), 0);
        goes.setCounter(0, 3);
        Check.due("going is better", goes.bestGuess(), 2);
        goes.set(4, 1);
        Check.due("whatever is set", goes.bestGuess(), 2);
    }

    private static void leastQueue() {
        Check.due("one act", Rows.machine("l0:1").leastQueue(), 1);
        Check.due("two acts", Rows.machine("s0:1=1;s1:1=1").leastQueue(), 2);
        OvertakingLoads x = Rows.machine("s0:1=1/5;s1:1=1/4;s2:1=1/3");
        Check.due("three acts", x.leastQueue(), 3);
        x.set(0, 2);
        Check.due("whatever is set", x.leastQueue(), 3);
        Check.due("the setting stays", x.count(15), 2);
    }

    private static void leastQueueHoldsWhatIsInIt() {
        OvertakingLoads x = Rows.machine("s0:1=1/9;s0:1=2;s0:1=3;s0:1=4;l0:1");
        x.pass(2);
        Check.due("four are in it", x.count(3) + x.count(4), 4);
        Check.due("not less than that", x.leastQueue(), 4);
        x.pass(8);
        Check.due("in the queue", x.count(3) + x.count(4), 5);
        Check.due("not less than five", x.leastQueue(), 5);
    }

    private static void shorterAndSooner() {
        // With a queue of 2 the second load is issued when the store's address is known, and is not too early.
        OvertakingLoads x = Rows.machine("l2:1/2;s2:1=1/3;l2:1");
        dueBeats(x, new int[] {1, 2, 3, 4, 16}, new int[] {9, 5, 6, 6, 6});
        Check.due("sooner is another thing than as soon", x.leastQueue(), 3);
    }

    /** Queues that are as soon as 16 lie on both sides of one that is sooner: the least of all of them is due. */
    private static void soonerInTheMiddle() {
        OvertakingLoads x = Rows.machine("l1:1/3;s0:1=2/5;l1:1;l0:1/1");
        dueBeats(x, new int[] {1, 2, 3, 4, 5, 16}, new int[] {14, 9, 8, 9, 9, 9});
        Check.due("the least that is as soon", x.leastQueue(), 2);
        x.set(0, 3);
        x.pass(2);
        Check.due("acts in the queue", x.count(3) + x.count(4), 3);
        Check.due("3 is sooner, 2 is too short", x.leastQueue(), 4);
    }

    private static void dueBeats(OvertakingLoads x, int[] queues, int[] beats) {
        for (int i = 0; i < queues.length; i++) {
            x.set(0, queues[i]);
            Check.due("a queue of " + queues[i], x.doneIn(), beats[i]);
        }
    }
}
