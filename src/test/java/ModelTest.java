/**
 * Long rows of calls, the same for every run of this test, on the program and on the model. About half of the
 * calls are questions, as the document promises no more than 512 answers of an object.
 */
public final class ModelTest {
    private static final int RUNS = 1500;
    private static final int CALLS = 512;
    private static final int CALLS_OF_A_TEXT = 64;

    private long seed;
    private int calls;
    private final OvertakingLoads x = new OvertakingLoads();
    private final Model model = new Model();
    private final String name;
    private final int addresses;
    private final int delays;

    private ModelTest(int run) {
        seed = run * 7919L + 17;
        name = "run " + run;
        addresses = run % 3 == 0 ? 4 : run % 3 == 1 ? 9 : 63;
        delays = run % 4 == 0 ? 3 : run % 4 == 1 ? 20 : 8;
    }

    public static void main(String[] args) {
        for (int run = 0; run < RUNS; run++) {
            ModelTest test = new ModelTest(run);
            while (test.calls < CALLS) {
                test.callOrAsk();
            }
        }
        Check.end("ModelTest");
    }

    /** A number from 0 to below the bound. */
    private int below(int bound) {
        seed = seed * 6364136223846793005L + 1442695040888963407L;
        return (int) ((seed >>> 33) % bound);
    }

    private boolean rarely() {
        return below(25) == 0;
    }

    /** A number from least to most, and rarely one outside. */
    private int about(int least, int most) {
        if (rarely()) {
            int[] outside = {least - 1, most + 1, -1, Integer.MIN_VALUE, Integer.MAX_VALUE};
            return outside[below(5)];
        }
        return least + below(most - least + 1);
    }

    /** The text is made for a wrong answer alone, as most of the many answers are right. */
    private void due(String call, int first, int second, int got, int want) {
        calls++;
        if (got == want) {
            Check.due(call, got, want);
        } else {
            Check.due(name + ", call " + calls + ", " + call + " " + first + " " + second, got, want);
        }
    }

    private void callOrAsk() {
        int kind = below(100);
        if (kind < 12) {
            callStore();
        } else if (kind < 24) {
            callLoad();
        } else if (kind < 42) {
            int beats = below(12) == 0 ? about(1, 500) : below(6) + 1;
            due("pass", beats, 0, x.pass(beats), model.pass(beats));
        } else if (kind < 50) {
            callRarely();
        } else {
            ask();
        }
    }

    private void callStore() {
        int address = about(0, addresses);
        int bytes = about(1, 3);
        int value = below(4) == 0 ? about(0, 16777215) : below(256);
        int known = about(0, delays);
        int data = below(2) == 0 ? 0 : about(0, delays);
        due("store", address, bytes, x.store(address, bytes, value, known, data),
            model.store(address, bytes, value, known, data));
    }

    private void callLoad() {
        int address = about(0, addresses);
        int bytes = about(1, 3);
        int known = below(2) == 0 ? 0 : about(0, delays);
        int place = below(3) == 0 ? about(0, 7) : 1;
        due("load", address, bytes, x.load(address, bytes, known, place), model.load(address, bytes, known, place));
    }

    private void callRarely() {
        int kind = below(40);
        if (kind < 8) {
            due("wipe", 0, 0, x.wipe(), model.wipe());
        } else if (kind < 18) {
            int which = about(0, 4);
            int value = below(17);
            due("set", which, value, x.set(which, value), model.set(which, value));
        } else if (kind < 25) {
            int place = below(2) == 0 ? 1 : about(0, 7);
            int value = about(0, 3);
            due("setCounter", place, value, x.setCounter(place, value), model.setCounter(place, value));
        } else if (kind < 28 && calls + CALLS_OF_A_TEXT <= CALLS) {
            typeSome();
            due("addAll", 0, 0, x.addAll(), model.addAll());
        } else if (kind < 34) {
            due("undo", 0, 0, x.undo(), model.undo());
        } else if (kind < 36) {
            due("keep", 0, 0, x.keep(), model.keep());
        } else if (kind < 38) {
            due("restore", 0, 0, x.restore(), model.restore());
        } else {
            askWhatWouldBe();
        }
    }

    private void ask() {
        int kind = below(40);
        int act = about(0, Math.max(0, model.count(1) - 1));
        if (kind < 18) {
            int what = about(0, 9);
            due("act", act, what, x.act(act, what), model.act(act, what));
        } else if (kind < 24) {
            int byteAt = about(0, 2);
            due("source", act, byteAt, x.source(act, byteAt), model.source(act, byteAt));
        } else if (kind < 27) {
            due("plain", act, 0, x.plain(act), model.plain(act));
        } else if (kind < 30) {
            int address = below(2) == 0 ? below(addresses + 1) : about(0, 63);
            due("memory", address, 0, x.memory(address), model.memory(address));
        } else if (kind < 33) {
            int place = below(2) == 0 ? 1 : about(0, 7);
            due("counter", place, 0, x.counter(place), model.counter(place));
        } else {
            int what = about(0, 19);
            due("count", what, 0, x.count(what), model.count(what));
        }
    }

    private void askWhatWouldBe() {
        int guess = about(0, 2);
        int what = about(0, 2);
        switch (below(5)) {
            case 0:
                due("doneIn", 0, 0, x.doneIn(), model.doneIn());
                break;
            case 1:
                due("bestGuess", 0, 0, x.bestGuess(), model.bestGuess());
                break;
            case 2:
                due("leastQueue", 0, 0, x.leastQueue(), model.leastQueue());
                break;
            default:
                due("ifGuessed", guess, what, x.ifGuessed(guess, what), model.ifGuessed(guess, what));
        }
    }

    private void typeSome() {
        due("clearText", 0, 0, x.clearText(), model.clearText());
        StringBuilder text = new StringBuilder();
        for (int acts = below(5); acts >= 0; acts--) {
            text.append(below(2) == 0 ? storeText() : loadText()).append(acts == 0 ? "" : ";");
        }
        if (below(3) == 0) {
            String signs = "sl0123456789:=/,@;";
            int at = below(text.length());
            switch (below(3)) {
                case 0:
                    text.setCharAt(at, signs.charAt(below(signs.length())));
                    break;
                case 1:
                    text.insert(at, signs.charAt(below(signs.length())));
                    break;
                default:
                    text.deleteCharAt(at);
            }
        }
        for (int i = 0; i < text.length() && i <= 60; i++) {
            due("type", text.charAt(i), i, x.type(text.charAt(i)), model.type(text.charAt(i)));
        }
        due("fault of " + text, 0, 0, x.fault(), model.fault());
    }

    private String storeText() {
        String act = "s" + about(0, addresses) + ":" + about(1, 3) + "=" + about(0, below(3) == 0 ? 16777215 : 255);
        if (below(2) == 0) {
            act += "/" + about(0, delays);
            act += below(2) == 0 ? "," + about(0, delays) : "";
        }
        return act;
    }

    private String loadText() {
        String act = "l" + about(0, addresses) + ":" + about(1, 3);
        act += below(2) == 0 ? "/" + about(0, delays) : "";
        return act + (below(2) == 0 ? "@" + about(0, 7) : "");
    }
}
