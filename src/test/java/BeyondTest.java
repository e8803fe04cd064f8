import java.lang.reflect.Array;
import java.lang.reflect.Field;

/**
 * The edges that no 512 calls reach: the bound of beats of promise 5, and that of 2000 beats of promises 21 to 24.
 * The object's inside is set to be near them: its beats, and delays that are longer than any that can be asked for.
 */
public final class BeyondTest {
    private static final int BAD_VALUE = OvertakingLoads.BAD_VALUE;
    private static final int FULL = OvertakingLoads.FULL;
    private static final int NONE = OvertakingLoads.NONE;

    public static void main(String[] args) throws ReflectiveOperationException {
        noMoreBeats();
        boundOfBeatsDoesNotMatter();
        doneInWithin2000();
        ifGuessedWithin2000();
        bestGuessWithin2000();
        leastQueueWithin2000();
        rightOrNot();
        Check.end("BeyondTest");
    }

    // ---- the inside

    private static Object inside(Object of, String name) throws ReflectiveOperationException {
        return field(of, name).get(of);
    }

    private static Field field(Object of, String name) throws ReflectiveOperationException {
        Field field = of.getClass().getDeclaredField(name);
        field.setAccessible(true);
        return field;
    }

    private static void setBeats(OvertakingLoads x, int beats) throws ReflectiveOperationException {
        Object now = inside(x, "now");
        field(now, "beats").setInt(now, beats);
    }

    private static void setInAct(OvertakingLoads x, int act, String name, int value) throws ReflectiveOperationException {
        Object asked = Array.get(inside(inside(x, "now"), "acts"), act);
        field(asked, name).setInt(asked, value);
    }

    /** A store of 0 of which the address is known that many beats late, and a load of the same byte. */
    private static OvertakingLoads late(int delay) throws ReflectiveOperationException {
        OvertakingLoads x = Rows.machine("s0:1=1;l0:1");
        setInAct(x, 0, "addressDelay", delay);
        return x;
    }

    // ---- promise 5

    private static void noMoreBeats() throws ReflectiveOperationException {
        Check.says("BAD_VALUE; FULL if there would be more than 1000000 beats.");
        OvertakingLoads x = new OvertakingLoads();
        setBeats(x, 999499);
        Check.due("up to 999999", x.pass(500), 0);
        Check.due("one too many", x.pass(2), FULL);
        Check.due("many too many", x.pass(500), FULL);
        Check.due("BAD_VALUE is ahead of it", x.pass(501), BAD_VALUE);
        Check.due("nothing has changed", x.count(0), 999999);
        Check.due("nor is it recorded", x.count(13), 1);
        Check.due("up to 1000000", x.pass(1), 0);
        Check.due("beats", x.count(0), 1000000);
        Check.due("no more", x.pass(1), FULL);
        Check.due("recorded", x.undo(), 1);
        Check.due("up to 1000000 again", x.pass(1), 0);
        OvertakingLoads y = new OvertakingLoads();
        setBeats(y, 999500);
        Check.due("the most at once", y.pass(500), 0);
        Check.due("beats", y.count(0), 1000000);
    }

    private static void boundOfBeatsDoesNotMatter() throws ReflectiveOperationException {
        Check.says("(the bound of beats does not matter in this and the others)");
        OvertakingLoads x = Rows.machine("s0:1=1/5;l0:1");
        int[] beats = {999990, 999995, 999999, 1000000};
        for (int now : beats) {
            setBeats(x, now);
            Check.due("doneIn", x.doneIn(), 8);
            Check.due("ifGuessed", x.ifGuessed(1, 0), 7);
            Check.due("ifGuessed", x.ifGuessed(2, 1), 1);
            Check.due("ifGuessed", x.ifGuessed(1, 2), 5);
            Check.due("bestGuess", x.bestGuess(), 1);
            Check.due("leastQueue", x.leastQueue(), 1);
            Check.due("beats", x.count(0), now);
        }
        Check.due("pass", x.pass(1), FULL);
    }

    // ---- promises 21 to 24

    private static void doneInWithin2000() throws ReflectiveOperationException {
        Check.says("NONE if they are not within 2000.");
        OvertakingLoads alone = Rows.machine("s0:1=1");
        int[] delays = {1997, 1998, 1999, 2000, 1000000};
        int[] dues = {1999, 2000, NONE, NONE, NONE};
        for (int i = 0; i < delays.length; i++) {
            setInAct(alone, 0, "addressDelay", delays[i]);
            Check.due("a delay of " + delays[i], alone.doneIn(), dues[i]);
        }
        alone.pass(1);
        setInAct(alone, 0, "addressBeat", 1999);
        Check.due("counted from now", alone.doneIn(), 2000);
        setInAct(alone, 0, "addressBeat", 2000);
        Check.due("one too many from now", alone.doneIn(), NONE);
    }

    private static void ifGuessedWithin2000() throws ReflectiveOperationException {
        Check.says("NONE if not all are retired within 2000 beats.");
        // The load that goes is done again and retired a beat later than the store; the one that waits is not.
        for (int what = 0; what <= 2; what++) {
            int[] waits = {2000, 0, 1998};
            Check.due("waiting", late(1998).ifGuessed(1, what), waits[what]);
            int[] goes = {2000, 1, 0};
            Check.due("going", late(1997).ifGuessed(2, what), goes[what]);
            Check.due("going, by the table", late(1997).ifGuessed(0, what), goes[what]);
            Check.due("going, one too many", late(1998).ifGuessed(2, what), NONE);
            Check.due("by the table, one too many", late(1998).ifGuessed(0, what), NONE);
            Check.due("waiting, one too many", late(1999).ifGuessed(1, what), NONE);
        }
        Check.due("BAD_VALUE is ahead of it", late(5000).ifGuessed(3, 0), BAD_VALUE);
    }

    private static void bestGuessWithin2000() throws ReflectiveOperationException {
        Check.says("Returns the guess; NONE if they are not within 2000 beats with any.");
        Check.due("with all of them", late(1997).bestGuess(), 1);
        Check.due("with one alone", late(1998).bestGuess(), 1);
        Check.due("with none", late(1999).bestGuess(), NONE);
        OvertakingLoads x = Rows.machine("s0:1=1");
        setInAct(x, 0, "addressDelay", 1998);
        Check.due("2000 beats with all of them", x.bestGuess(), 0);
        setInAct(x, 0, "addressDelay", 1999);
        Check.due("2001 beats with all of them", x.bestGuess(), NONE);
    }

    private static void leastQueueWithin2000() throws ReflectiveOperationException {
        Check.says("Returns the setting 0; NONE if they are not within 2000 beats with 16.");
        Check.due("1999 beats", late(1996).leastQueue(), 1);
        Check.due("2000 beats", late(1997).leastQueue(), 1);
        Check.due("2001 beats", late(1998).leastQueue(), NONE);
        // With a queue of 2 it is a beat sooner than with 16: the second load is not too early.
        OvertakingLoads sooner = Rows.machine("l2:1;s2:1=1;l2:1");
        setInAct(sooner, 0, "addressDelay", 1996);
        setInAct(sooner, 1, "addressDelay", 1997);
        Check.due("2000 beats with 16", sooner.leastQueue(), 3);
        setInAct(sooner, 0, "addressDelay", 1997);
        setInAct(sooner, 1, "addressDelay", 1998);
        Check.due("2001 beats with 16, though 2000 with 2", sooner.leastQueue(), NONE);
        OvertakingLoads x = Rows.machine("s0:1=1;s0:1=1");
        setInAct(x, 0, "addressDelay", 1998);
        Check.due("2000 beats with 2, one more with 1", x.leastQueue(), 2);
        setInAct(x, 0, "addressDelay", 1999);
        Check.due("2001 beats", x.leastQueue(), NONE);
    }

    // ---- promise 20

    /** No load retires with another value than the plain one; so a value is set that is not. */
    private static void rightOrNot() throws ReflectiveOperationException {
        Check.says("6 for loads of the row that are retired and right");
        OvertakingLoads x = Rows.machine("s0:2=513;l0:2;l0:1");
        x.pass(9);
        Check.due("both are right", x.count(6), 2);
        setInAct(x, 1, "value", 512);
        Check.due("one is not", x.count(6), 1);
        setInAct(x, 1, "value", 1);
        Check.due("nor in its upper byte", x.count(6), 1);
        Check.due("retired", x.count(7), 2);
    }
}
