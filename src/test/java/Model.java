import java.util.ArrayDeque;
import java.util.ArrayList;
import java.util.Deque;
import java.util.List;
import java.util.TreeSet;
import java.util.regex.Matcher;
import java.util.regex.Pattern;

/**
 * The document once more, written as naively as can be and with another plan than the program: nothing is
 * kept that can be reckoned anew, states are copied whole, texts are read by patterns.
 */
final class Model {
    static final int UNKNOWN = -1;
    static final int BAD_VALUE = -2;
    static final int FULL = -3;
    static final int NOT_POSSIBLE = -4;
    static final int NONE = -5;

    enum How { WAITS, ISSUED, DONE, RETIRED }

    static final class Op {
        boolean store;
        int address;
        int bytes;
        int given;
        int delay;
        int dataDelay;
        int place;
        How how = How.WAITS;
        int issuedIn = -1;
        int issues;
        int again;
        int waits;
        int taken;
        List<Integer> from = new ArrayList<>();
        TreeSet<Integer> awaited = new TreeSet<>();

        Op copy() {
            Op op = new Op();
            op.store = store;
            op.address = address;
            op.bytes = bytes;
            op.given = given;
            op.delay = delay;
            op.dataDelay = dataDelay;
            op.place = place;
            op.how = how;
            op.issuedIn = issuedIn;
            op.issues = issues;
            op.again = again;
            op.waits = waits;
            op.taken = taken;
            op.from = new ArrayList<>(from);
            op.awaited = new TreeSet<>(awaited);
            return op;
        }

        boolean inQueue() {
            return how == How.ISSUED || how == How.DONE;
        }

        boolean has(int at) {
            return address <= at && at <= address + bytes - 1;
        }

        int byteAt(int at) {
            int shifted = given;
            for (int i = address; i < at; i++) {
                shifted = shifted / 256;
            }
            return shifted % 256;
        }

        boolean valued() {
            return how == How.DONE || how == How.RETIRED;
        }
    }

    static final class State {
        List<Op> row = new ArrayList<>();
        int[] memory = new int[64];
        int[] first = new int[64];
        int[] table = new int[8];
        int[] settings = {8, 2, 1, 0, 0};
        int beats;
        int again;
        int left;
        int forwarded;
        int ahead;
        int waits;

        State copy() {
            State state = new State();
            for (Op op : row) {
                state.row.add(op.copy());
            }
            state.memory = memory.clone();
            state.first = first.clone();
            state.table = table.clone();
            state.settings = settings.clone();
            state.beats = beats;
            state.again = again;
            state.left = left;
            state.forwarded = forwarded;
            state.ahead = ahead;
            state.waits = waits;
            return state;
        }

        List<Integer> queue() {
            List<Integer> queue = new ArrayList<>();
            for (int i = 0; i < row.size(); i++) {
                if (row.get(i).inQueue()) {
                    queue.add(i);
                }
            }
            return queue;
        }

        int how(How how) {
            int found = 0;
            for (Op op : row) {
                found += op.how == how ? 1 : 0;
            }
            return found;
        }

        boolean addressKnown(Op op) {
            return op.inQueue() && beats >= op.issuedIn + op.delay;
        }

        boolean dataKnown(Op op) {
            return op.inQueue() && beats >= op.issuedIn + op.dataDelay;
        }

        void beat() {
            for (int n = 0; n < settings[1]; n++) {
                List<Integer> queue = queue();
                if (queue.isEmpty() || row.get(queue.get(0)).how != How.DONE) {
                    break;
                }
                Op op = row.get(queue.get(0));
                op.how = How.RETIRED;
                for (int at = 0; at < 64; at++) {
                    if (op.store && op.has(at)) {
                        memory[at] = op.byteAt(at);
                    }
                }
            }
            for (int n = 0; n < settings[1]; n++) {
                if (how(How.WAITS) > 0 && queue().size() < settings[0]) {
                    Op op = row.get(row.size() - how(How.WAITS));
                    op.how = How.ISSUED;
                    op.issuedIn = beats;
                    op.issues++;
                    op.awaited.clear();
                }
            }
            for (int store : queue()) {
                Op op = row.get(store);
                if (op.store && op.inQueue() && beats == op.issuedIn + op.delay) {
                    look(store);
                }
            }
            for (int store : queue()) {
                Op op = row.get(store);
                if (op.store && addressKnown(op) && dataKnown(op)) {
                    op.how = How.DONE;
                }
            }
            int ports = settings[2];
            for (int load : queue()) {
                Op op = row.get(load);
                if (ports > 0 && !op.store && op.how == How.ISSUED && addressKnown(op)) {
                    if (goes(load)) {
                        ports--;
                    } else {
                        op.waits++;
                        waits++;
                    }
                }
            }
            beats++;
        }

        void look(int store) {
            for (int load : queue()) {
                Op op = row.get(load);
                if (load <= store || op.store || op.how != How.DONE) {
                    continue;
                }
                boolean early = false;
                for (int k = 0; k < op.bytes; k++) {
                    int from = op.from.get(k);
                    if (row.get(store).has(op.address + k) && (from == 99 || from < store)) {
                        early = true;
                    }
                }
                if (early) {
                    op.again++;
                    again++;
                    table[op.place] += table[op.place] < 3 ? 1 : 0;
                    for (int behind : queue()) {
                        if (behind >= load) {
                            row.get(behind).how = How.WAITS;
                            left++;
                        }
                    }
                    return;
                }
            }
        }

        boolean goes(int load) {
            Op op = row.get(load);
            TreeSet<Integer> unknown = new TreeSet<>();
            for (int i : queue()) {
                if (i < load && row.get(i).store && !addressKnown(row.get(i))) {
                    unknown.add(i);
                }
            }
            boolean shy = settings[4] == 1 || settings[4] == 0 && table[op.place] > 1;
            if (shy && !unknown.isEmpty()) {
                if (settings[4] == 0) {
                    op.awaited.addAll(unknown);
                }
                return false;
            }
            List<Integer> from = new ArrayList<>();
            for (int k = 0; k < op.bytes; k++) {
                int latest = 99;
                for (int i : queue()) {
                    if (i < load && row.get(i).store && addressKnown(row.get(i)) && row.get(i).has(op.address + k)) {
                        latest = i;
                    }
                }
                from.add(latest);
            }
            for (int i : from) {
                if (i != 99 && !dataKnown(row.get(i))) {
                    return false;
                }
            }
            if (settings[3] == 0 && new TreeSet<>(from).size() > 1) {
                return false;
            }
            op.from = from;
            op.how = How.DONE;
            op.taken = 0;
            for (int k = op.bytes - 1; k >= 0; k--) {
                int i = from.get(k);
                int at = op.address + k;
                op.taken = op.taken * 256 + (i == 99 ? memory[at] : row.get(i).byteAt(at));
                forwarded += i == 99 ? 0 : 1;
            }
            ahead += unknown.isEmpty() ? 0 : 1;
            TreeSet<Integer> both = new TreeSet<>(op.awaited);
            both.retainAll(from);
            if (!op.awaited.isEmpty() && both.isEmpty() && table[op.place] > 0) {
                table[op.place]--;
            }
            return true;
        }

        int plain(int load) {
            int[] bytes = first.clone();
            for (int i = 0; i < load; i++) {
                for (int at = 0; at < 64; at++) {
                    if (row.get(i).store && row.get(i).has(at)) {
                        bytes[at] = row.get(i).byteAt(at);
                    }
                }
            }
            int value = 0;
            for (int k = row.get(load).bytes - 1; k >= 0; k--) {
                value = value * 256 + bytes[row.get(load).address + k];
            }
            return value;
        }

        int runOut() {
            int start = beats;
            while (how(How.RETIRED) < row.size()) {
                if (beats - start == 2000) {
                    return NONE;
                }
                beat();
            }
            return beats - start;
        }
    }

    private State now = new State();
    private State snapshot = null;
    private final Deque<State> history = new ArrayDeque<>();
    private final StringBuilder text = new StringBuilder();

    private void record() {
        history.addLast(now.copy());
        if (history.size() > 4) {
            history.removeFirst();
        }
    }

    private static int error(Op op, int length) {
        boolean sized = op.bytes == 1 || op.bytes == 2 || op.bytes == 3;
        if (op.address < 0 || op.address > 63 || sized && op.address + op.bytes - 1 > 63) {
            return UNKNOWN;
        }
        if (!op.store && (op.place < 0 || op.place > 7)) {
            return UNKNOWN;
        }
        if (!sized || op.delay < 0 || op.delay > 20) {
            return BAD_VALUE;
        }
        if (op.store && (op.given < 0 || op.given >= Math.pow(256, op.bytes) || op.dataDelay < 0 || op.dataDelay > 20)) {
            return BAD_VALUE;
        }
        return length == 48 ? FULL : 0;
    }

    private int add(Op op) {
        int error = error(op, now.row.size());
        if (error != 0) {
            return error;
        }
        record();
        now.row.add(op);
        return now.row.size() - 1;
    }

    int store(int address, int bytes, int value, int known, int data) {
        Op op = new Op();
        op.store = true;
        op.address = address;
        op.bytes = bytes;
        op.given = value;
        op.delay = known;
        op.dataDelay = data;
        return add(op);
    }

    int load(int address, int bytes, int known, int place) {
        Op op = new Op();
        op.address = address;
        op.bytes = bytes;
        op.delay = known;
        op.place = place;
        return add(op);
    }

    private static final String ADDRESS = "(?:6[0-3]|[1-5][0-9]|[0-9])";
    private static final String DELAY = "(?:20|1[0-9]|[0-9])";
    private static final String VALUE = "(?:0|[1-9][0-9]{0,6}|1[0-5][0-9]{6}|16[0-6][0-9]{5}|167[0-6][0-9]{4}"
        + "|1677[0-6][0-9]{3}|16777[01][0-9]{2}|1677720[0-9]|1677721[0-5])";
    private static final Pattern STORE = Pattern.compile(
        "s(" + ADDRESS + "):([1-3])=(" + VALUE + ")(?:/(" + DELAY + ")(?:,(" + DELAY + "))?)?");
    private static final Pattern LOAD = Pattern.compile(
        "l(" + ADDRESS + "):([1-3])(?:/(" + DELAY + "))?(?:@([0-7]))?");
    private static final String ACT = "(?:" + STORE.pattern() + "|" + LOAD.pattern() + ")";
    private static final Pattern TEXT = Pattern.compile(ACT + "(?:;" + ACT + ")*");

    int fault() {
        if (TEXT.matcher(text).matches()) {
            return NONE;
        }
        int good = 0;
        for (int length = 1; length <= text.length(); length++) {
            Matcher matcher = TEXT.matcher(text.substring(0, length));
            if (!matcher.matches() && !matcher.hitEnd()) {
                break;
            }
            good = length;
        }
        return good;
    }

    private static int number(String digits) {
        return digits == null ? 0 : Integer.parseInt(digits);
    }

    int addAll() {
        int fault = fault();
        if (fault != NONE) {
            return -100 - fault;
        }
        List<Op> added = new ArrayList<>();
        for (String act : text.toString().split(";")) {
            Op op = new Op();
            op.store = act.startsWith("s");
            Matcher matcher = (op.store ? STORE : LOAD).matcher(act);
            matcher.matches();
            op.address = number(matcher.group(1));
            op.bytes = number(matcher.group(2));
            if (op.store) {
                op.given = number(matcher.group(3));
                op.delay = number(matcher.group(4));
                op.dataDelay = number(matcher.group(5));
            } else {
                op.delay = number(matcher.group(3));
                op.place = number(matcher.group(4));
            }
            int error = error(op, now.row.size() + added.size());
            if (error != 0) {
                return error;
            }
            added.add(op);
        }
        record();
        now.row.addAll(added);
        return added.size();
    }

    int pass(int beats) {
        if (beats < 1 || beats > 500) {
            return BAD_VALUE;
        }
        if (now.beats + beats > 1000000) {
            return FULL;
        }
        record();
        int before = now.how(How.RETIRED);
        for (int i = 0; i < beats; i++) {
            now.beat();
        }
        return now.how(How.RETIRED) - before;
    }

    int wipe() {
        if (!now.queue().isEmpty()) {
            return NOT_POSSIBLE;
        }
        if (now.row.isEmpty()) {
            return NONE;
        }
        record();
        int before = now.row.size();
        now.row.clear();
        now.first = now.memory.clone();
        return before;
    }

    int set(int which, int value) {
        int[] least = {1, 1, 1, 0, 0};
        int[] most = {16, 4, 4, 1, 2};
        if (which < 0 || which > 4 || value < least[which] || value > most[which]) {
            return BAD_VALUE;
        }
        if (which == 0 && now.queue().size() > value) {
            return NOT_POSSIBLE;
        }
        int previous = now.settings[which];
        if (previous == value) {
            return NONE;
        }
        record();
        now.settings[which] = value;
        return previous;
    }

    int setCounter(int place, int value) {
        if (place < 0 || place > 7) {
            return UNKNOWN;
        }
        if (value < 0 || value > 3) {
            return BAD_VALUE;
        }
        int previous = now.table[place];
        if (previous == value) {
            return NONE;
        }
        record();
        now.table[place] = value;
        return previous;
    }

    int type(char character) {
        if (text.length() == 60) {
            return FULL;
        }
        return text.append(character).length();
    }

    int clearText() {
        int before = text.length();
        text.setLength(0);
        return before;
    }

    int undo() {
        if (history.isEmpty()) {
            return NONE;
        }
        now = history.removeLast();
        return history.size();
    }

    int keep() {
        snapshot = now.copy();
        return now.beats;
    }

    int restore() {
        if (snapshot == null) {
            return NONE;
        }
        record();
        now = snapshot.copy();
        return now.beats;
    }

    private boolean knows(int act) {
        return act >= 0 && act < now.row.size();
    }

    int act(int act, int what) {
        if (!knows(act)) {
            return UNKNOWN;
        }
        if (what < 0 || what > 9) {
            return BAD_VALUE;
        }
        Op op = now.row.get(act);
        int value = op.store ? op.given : op.valued() ? op.taken : NONE;
        int known = op.how == How.WAITS ? NONE : op.issuedIn + op.delay;
        int[] told = {op.store ? 1 : 0, op.address, op.bytes, value, op.how.ordinal(), known, op.issues, op.again,
            op.waits, op.store ? NONE : op.place};
        return told[what];
    }

    int source(int load, int byteAt) {
        if (!knows(load)) {
            return UNKNOWN;
        }
        Op op = now.row.get(load);
        if (byteAt < 0 || byteAt > 2 || byteAt >= op.bytes) {
            return BAD_VALUE;
        }
        return op.store || !op.valued() ? NONE : op.from.get(byteAt);
    }

    int memory(int address) {
        return address < 0 || address > 63 ? UNKNOWN : now.memory[address];
    }

    int counter(int place) {
        return place < 0 || place > 7 ? UNKNOWN : now.table[place];
    }

    int plain(int act) {
        if (!knows(act)) {
            return UNKNOWN;
        }
        return now.row.get(act).store ? NONE : now.plain(act);
    }

    int count(int what) {
        if (what < 0 || what > 19) {
            return BAD_VALUE;
        }
        int loads = 0;
        int right = 0;
        for (int i = 0; i < now.row.size(); i++) {
            Op op = now.row.get(i);
            if (!op.store && op.how == How.RETIRED) {
                loads++;
                right += op.taken == now.plain(i) ? 1 : 0;
            }
        }
        int[] told = {now.beats, now.row.size(), now.how(How.WAITS), now.how(How.ISSUED), now.how(How.DONE),
            now.how(How.RETIRED), right, loads, now.again, now.left, now.waits, now.forwarded, now.ahead,
            history.size(), text.length(), now.settings[0], now.settings[1], now.settings[2], now.settings[3],
            now.settings[4]};
        return told[what];
    }

    int doneIn() {
        return now.copy().runOut();
    }

    private int beatsWith(int which, int value) {
        State state = now.copy();
        state.settings[which] = value;
        return state.runOut();
    }

    int ifGuessed(int guess, int what) {
        if (guess < 0 || guess > 2 || what < 0 || what > 2) {
            return BAD_VALUE;
        }
        State state = now.copy();
        state.settings[4] = guess;
        int beats = state.runOut();
        int[] told = {beats, state.again - now.again, state.waits - now.waits};
        return beats == NONE ? NONE : told[what];
    }

    int bestGuess() {
        int best = NONE;
        for (int guess = 2; guess >= 0; guess--) {
            int beats = beatsWith(4, guess);
            if (beats != NONE && (best == NONE || beats <= beatsWith(4, best))) {
                best = guess;
            }
        }
        return best;
    }

    int leastQueue() {
        int goal = beatsWith(0, 16);
        if (goal == NONE) {
            return NONE;
        }
        int least = 16;
        for (int queue = 15; queue >= Math.max(1, now.queue().size()); queue--) {
            int beats = beatsWith(0, queue);
            least = beats == goal ? queue : least;
        }
        return least;
    }
}
