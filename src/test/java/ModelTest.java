/** Long rows of calls, the same for every run of this test, on the program and on the model. */
public final class ModelTest {
    private static final int RUNS = 60;
    private static final int CALLS = 500;

    private long seed;
    private final OvertakingLoads x = new OvertakingLoads();
    private final Model model = new Model();
    private final String name;
    private final int addresses;
    private final int delays;

    private ModelTest(int run) {
        seed = run * 7919L + 17;
        name = "run " + run;
        addresses = run % 3 == 0 ? 4 : run % 3 == 1 ? 9 : 63;
        delays = run % 4 == 0 ? 3 : run % 4 == 1 ? 20 : 8;
    }

    public static void main(String[] args) {
        for (int run = 0; run < RUNS; run++) {
            ModelTest test = new ModelTest(run);
            for (int call = 0; call < CALLS; call++) {
                test.call(call);
            }
        }
        Check.end("ModelTest");
    }

    /** A number from 0 to below the bound. */
    private int below(int bound) {
        seed = seed * 6364136223846793005L + 1442695040888963407L;
        return (int) ((seed >>> 33) % bound);
    }

    private boolean rarely() {
        return below(25) == 0;
    }

    /** A number from least to most, and rarely one outside. */
    private int about(int least, int most) {
        if (rarely()) {
            int[] outside = {least - 1, most + 1, -1, Integer.MIN_VALUE, Integer.MAX_VALUE};
            return outside[below(5)];
        }
        return least + below(most - least + 1);
    }

    private void due(String call, int got, int want) {
        Check.due(name + ", " + call, got, want);
    }

    private void call(int number) {
        int kind = below(100);
        if (kind < 22) {
            int address = about(0, addresses);
            int bytes = about(1, 3);
            int value = below(4) == 0 ? about(0, 16777215) : below(256);
            int known = about(0, delays);
            int data = below(2) == 0 ? 0 : about(0, delays);
            due(number + " store", x.store(address, bytes, value, known, data),
                model.store(address, bytes, value, known, data));
        } else if (kind < 44) {
            int address = about(0, addresses);
            int bytes = about(1, 3);
            int known = below(2) == 0 ? 0 : about(0, delays);
            int place = below(3) == 0 ? about(0, 7) : 1;
            due(number + " load", x.load(address, bytes, known, place), model.load(address, bytes, known, place));
        } else if (kind < 74) {
            int beats = below(12) == 0 ? about(1, 500) : below(6) + 1;
            due(number + " pass " + beats, x.pass(beats), model.pass(beats));
        } else {
            rarerCall(number, kind);
        }
        compare(number);
    }

    private void rarerCall(int number, int kind) {
        if (kind < 78) {
            due(number + " wipe", x.wipe(), model.wipe());
        } else if (kind < 84) {
            int which = about(0, 4);
            int value = below(17);
            due(number + " set", x.set(which, value), model.set(which, value));
        } else if (kind < 87) {
            int place = below(2) == 0 ? 1 : about(0, 7);
            int value = about(0, 3);
            due(number + " setCounter", x.setCounter(place, value), model.setCounter(place, value));
        } else if (kind < 93) {
            typeSome(number);
            due(number + " addAll", x.addAll(), model.addAll());
        } else if (kind < 96) {
            due(number + " undo", x.undo(), model.undo());
        } else if (kind < 97) {
            due(number + " keep", x.keep(), model.keep());
        } else if (kind < 98) {
            due(number + " restore", x.restore(), model.restore());
        } else {
            int guess = about(0, 2);
            int what = about(0, 2);
            due(number + " ifGuessed", x.ifGuessed(guess, what), model.ifGuessed(guess, what));
            due(number + " bestGuess", x.bestGuess(), model.bestGuess());
            due(number + " leastQueue", x.leastQueue(), model.leastQueue());
            due(number + " doneIn", x.doneIn(), model.doneIn());
        }
    }

    private void typeSome(int number) {
        due(number + " clearText", x.clearText(), model.clearText());
        StringBuilder text = new StringBuilder();
        for (int acts = below(5); acts >= 0; acts--) {
            text.append(below(2) == 0 ? storeText() : loadText()).append(acts == 0 ? "" : ";");
        }
        if (below(3) == 0) {
            String signs = "sl0123456789:=/,@;";
            int at = below(text.length());
            switch (below(3)) {
                case 0:
                    text.setCharAt(at, signs.charAt(below(signs.length())));
                    break;
                case 1:
                    text.insert(at, signs.charAt(below(signs.length())));
                    break;
                default:
                    text.deleteCharAt(at);
            }
        }
        for (int i = 0; i < text.length(); i++) {
            due(number + " type", x.type(text.charAt(i)), model.type(text.charAt(i)));
        }
        due(number + " fault of " + text, x.fault(), model.fault());
    }

    private String storeText() {
        String act = "s" + about(0, addresses) + ":" + about(1, 3) + "=" + about(0, below(3) == 0 ? 16777215 : 255);
        if (below(2) == 0) {
            act += "/" + about(0, delays);
            act += below(2) == 0 ? "," + about(0, delays) : "";
        }
        return act;
    }

    private String loadText() {
        String act = "l" + about(0, addresses) + ":" + about(1, 3);
        act += below(2) == 0 ? "/" + about(0, delays) : "";
        return act + (below(2) == 0 ? "@" + about(0, 7) : "");
    }

    private void compare(int number) {
        for (int what = -1; what <= 20; what++) {
            same(number, "count", what, -1, x.count(what), model.count(what));
        }
        for (int i = -1; i <= model.count(1); i++) {
            for (int what = -1; what <= 10; what++) {
                same(number, "act", i, what, x.act(i, what), model.act(i, what));
            }
            for (int k = -1; k <= 3; k++) {
                same(number, "source", i, k, x.source(i, k), model.source(i, k));
            }
            same(number, "plain", i, -1, x.plain(i), model.plain(i));
        }
        for (int i = -1; i <= 64; i++) {
            same(number, "memory", i, -1, x.memory(i), model.memory(i));
        }
        for (int i = -1; i <= 8; i++) {
            same(number, "counter", i, -1, x.counter(i), model.counter(i));
        }
    }

    /** The text is made for a wrong answer alone, as most of the millions of answers are right. */
    private void same(int number, String call, int first, int second, int got, int want) {
        if (got != want) {
            due("after " + number + ", " + call + " " + first + " " + second, got, want);
        }
    }
}
