import java.util.Arrays;

/**
 * A machine whose loads overtake stores, as ../shared/DOC.md tells it.
 *
 * All states are made by the constructor and used again, so that no later call makes an object.
 */
public final class OvertakingLoads {
    public static final int UNKNOWN = -1;
    public static final int BAD_VALUE = -2;
    public static final int FULL = -3;
    public static final int NOT_POSSIBLE = -4;
    public static final int NONE = -5;

    private static final int FAULT_BASE = -100;

    private static final int MEMORY_ROOM = 64;
    private static final int ROW_ROOM = 48;
    private static final int TEXT_ROOM = 60;
    private static final int HISTORY_ROOM = 4;
    private static final int PLACES = 8;
    private static final int MOST_BYTES = 3;
    private static final int MOST_VALUE = 16777215;
    private static final int MOST_DELAY = 20;
    private static final int MOST_COUNTER = 3;
    private static final int CAUTIOUS_COUNTER = 2;
    private static final int MOST_BEATS_A_PASS = 500;
    private static final int MOST_BEATS = 1000000;
    private static final int MOST_BEATS_AHEAD = 2000;

    private static final int WAITS = 0;
    private static final int ISSUED = 1;
    private static final int DONE = 2;
    private static final int RETIRED = 3;

    private static final int FROM_MEMORY = 99;

    private static final int QUEUE = 0;
    private static final int WIDTH = 1;
    private static final int PORTS = 2;
    private static final int MERGING = 3;
    private static final int GUESS = 4;
    private static final int SETTINGS = 5;
    private static final int[] LEAST_SETTING = {1, 1, 1, 0, 0};
    private static final int[] MOST_SETTING = {16, 4, 4, 1, 2};
    private static final int[] FIRST_SETTING = {8, 2, 1, 0, 0};

    private static final int BY_THE_TABLE = 0;
    private static final int ALWAYS_WAIT = 1;

    private static final int FIRST_SETTING_COUNT = 15;

    private final Machine now;
    private final Machine trial;
    private final Machine snapshot;
    private boolean kept;
    private final History history;
    private final Text text;
    private final Act draft;

    public OvertakingLoads() {
        now = new Machine();
        trial = new Machine();
        snapshot = new Machine();
        kept = false;
        history = new History();
        text = new Text();
        draft = new Act();
    }

    // ---- acts

    public int store(int address, int bytes, int value, int known, int data) {
        draft.describeStore(address, bytes, value, known, data);
        return addDraft();
    }

    public int load(int address, int bytes, int known, int place) {
        draft.describeLoad(address, bytes, known, place);
        return addDraft();
    }

    public int addAll() {
        int fault = text.findFault(draft);
        if (fault != NONE) {
            return FAULT_BASE - fault;
        }
        // The acts go to the trial first: if one is refused, the machine is as it was.
        trial.copyFrom(now);
        int answer = addTextToTrial();
        if (answer < 0) {
            return answer;
        }
        history.recordState(now);
        now.copyFrom(trial);
        return answer;
    }

    public int pass(int beats) {
        if (beats < 1 || beats > MOST_BEATS_A_PASS) {
            return BAD_VALUE;
        }
        if (now.beats > MOST_BEATS - beats) {
            return FULL;
        }
        history.recordState(now);
        int retiredBefore = now.head;
        for (int passed = 0; passed < beats; passed++) {
            now.passBeat();
        }
        return now.head - retiredBefore;
    }

    public int wipe() {
        if (now.inQueue() > 0) {
            return NOT_POSSIBLE;
        }
        if (now.size == 0) {
            return NONE;
        }
        history.recordState(now);
        return now.wipeRow();
    }

    public int set(int which, int value) {
        if (which < 0 || which >= SETTINGS) {
            return BAD_VALUE;
        }
        if (value < LEAST_SETTING[which] || value > MOST_SETTING[which]) {
            return BAD_VALUE;
        }
        int previous = now.settings[which];
        if (which == QUEUE && now.inQueue() > value) {
            return NOT_POSSIBLE;
        }
        if (previous == value) {
            return NONE;
        }
        history.recordState(now);
        now.settings[which] = value;
        return previous;
    }

    public int setCounter(int place, int value) {
        if (place < 0 || place >= PLACES) {
            return UNKNOWN;
        }
        if (value < 0 || value > MOST_COUNTER) {
            return BAD_VALUE;
        }
        int previous = now.table[place];
        if (previous == value) {
            return NONE;
        }
        history.recordState(now);
        now.table[place] = value;
        return previous;
    }

    // ---- texts

    public int type(char character) {
        return text.append(character);
    }

    public int clearText() {
        int before = text.length;
        text.length = 0;
        return before;
    }

    public int fault() {
        return text.findFault(draft);
    }

    // ---- history

    public int undo() {
        return history.takeBack(now);
    }

    public int keep() {
        snapshot.copyFrom(now);
        kept = true;
        return now.beats;
    }

    public int restore() {
        if (!kept) {
            return NONE;
        }
        history.recordState(now);
        now.copyFrom(snapshot);
        return now.beats;
    }

    // ---- what is told

    public int act(int act, int what) {
        if (!now.hasAct(act)) {
            return UNKNOWN;
        }
        return now.acts[act].tell(what);
    }

    public int source(int load, int byteAt) {
        if (!now.hasAct(load)) {
            return UNKNOWN;
        }
        Act asked = now.acts[load];
        if (byteAt < 0 || byteAt >= MOST_BYTES || byteAt >= asked.bytes) {
            return BAD_VALUE;
        }
        if (asked.isStore || !asked.hasValue()) {
            return NONE;
        }
        return asked.sources[byteAt];
    }

    public int memory(int address) {
        if (address < 0 || address >= MEMORY_ROOM) {
            return UNKNOWN;
        }
        return now.memory[address];
    }

    public int counter(int place) {
        if (place < 0 || place >= PLACES) {
            return UNKNOWN;
        }
        return now.table[place];
    }

    public int plain(int act) {
        if (!now.hasAct(act)) {
            return UNKNOWN;
        }
        if (now.acts[act].isStore) {
            return NONE;
        }
        return now.plainValue(act);
    }

    public int count(int what) {
        if (what >= FIRST_SETTING_COUNT && what < FIRST_SETTING_COUNT + SETTINGS) {
            return now.settings[what - FIRST_SETTING_COUNT];
        }
        switch (what) {
            case 13:
                return history.length;
            case 14:
                return text.length;
            default:
                return now.tellCount(what);
        }
    }

    // ---- what would be

    public int doneIn() {
        trial.copyFrom(now);
        return trial.runOut();
    }

    public int ifGuessed(int guess, int what) {
        if (guess < LEAST_SETTING[GUESS] || guess > MOST_SETTING[GUESS]) {
            return BAD_VALUE;
        }
        if (what < 0 || what > 2) {
            return BAD_VALUE;
        }
        prepareTrial(GUESS, guess);
        int beats = trial.runOut();
        if (beats == NONE) {
            return NONE;
        }
        switch (what) {
            case 1:
                return trial.redone - now.redone;
            case 2:
                return trial.waited - now.waited;
            default:
                return beats;
        }
    }

    public int bestGuess() {
        int best = NONE;
        int bestBeats = MOST_BEATS_AHEAD + 1;
        for (int guess = LEAST_SETTING[GUESS]; guess <= MOST_SETTING[GUESS]; guess++) {
            prepareTrial(GUESS, guess);
            int beats = trial.runOut();
            if (beats != NONE && beats < bestBeats) {
                best = guess;
                bestBeats = beats;
            }
        }
        return best;
    }

    public int leastQueue() {
        int longest = MOST_SETTING[QUEUE];
        prepareTrial(QUEUE, longest);
        int goal = trial.runOut();
        if (goal == NONE) {
            return NONE;
        }
        int shortest = Math.max(LEAST_SETTING[QUEUE], now.inQueue());
        for (int queue = shortest; queue < longest; queue++) {
            prepareTrial(QUEUE, queue);
            int beats = trial.runOut();
            // A shorter queue can be sooner, as it keeps loads from being too early: that is not as soon.
            if (beats == goal) {
                return queue;
            }
        }
        return longest;
    }

    // ---- helpers of the face

    private int addDraft() {
        int error = now.errorOf(draft);
        if (error < 0) {
            return error;
        }
        history.recordState(now);
        return now.append(draft);
    }

    /** Answers how many acts were added, or the error of the first one that has one. */
    private int addTextToTrial() {
        text.begin();
        int added = 0;
        for (int read = 0; read < TEXT_ROOM; read++) {
            if (!text.readAct(draft)) {
                return added;
            }
            int error = trial.errorOf(draft);
            if (error < 0) {
                return error;
            }
            trial.append(draft);
            added++;
            if (!text.take(';')) {
                return added;
            }
        }
        return added;
    }

    private void prepareTrial(int which, int value) {
        trial.copyFrom(now);
        trial.settings[which] = value;
    }

    /** One store or load: what was asked for, and how far it has come. */
    private static final class Act {
        boolean isStore;
        int address;
        int bytes;
        /** Of a store what it writes, of a load what it took when it was last done. */
        int value;
        int addressDelay;
        int dataDelay;
        int place;

        int how;
        int addressBeat;
        int dataBeat;
        int timesIssued;
        int timesRedone;
        int beatsWaited;
        /** A bit for each store for which it waited by the table since it was last issued. */
        long tableWaits;
        final int[] sources;

        Act() {
            sources = new int[MOST_BYTES];
        }

        void describeStore(int newAddress, int newBytes, int newValue, int known, int data) {
            isStore = true;
            address = newAddress;
            bytes = newBytes;
            value = newValue;
            addressDelay = known;
            dataDelay = data;
            place = 0;
        }

        void describeLoad(int newAddress, int newBytes, int known, int newPlace) {
            isStore = false;
            address = newAddress;
            bytes = newBytes;
            value = 0;
            addressDelay = known;
            dataDelay = 0;
            place = newPlace;
        }

        void becomeCopyOf(Act other) {
            isStore = other.isStore;
            address = other.address;
            bytes = other.bytes;
            value = other.value;
            addressDelay = other.addressDelay;
            dataDelay = other.dataDelay;
            place = other.place;
            how = other.how;
            addressBeat = other.addressBeat;
            dataBeat = other.dataBeat;
            timesIssued = other.timesIssued;
            timesRedone = other.timesRedone;
            beatsWaited = other.beatsWaited;
            tableWaits = other.tableWaits;
            System.arraycopy(other.sources, 0, sources, 0, MOST_BYTES);
        }

        boolean hasByte(int at) {
            return at >= address && at < address + bytes;
        }

        int byteOf(int at) {
            return (value >> 8 * (at - address)) & 255;
        }

        boolean hasValue() {
            return isStore || how == DONE || how == RETIRED;
        }

        void becomeIssued(int beat) {
            how = ISSUED;
            addressBeat = beat + addressDelay;
            dataBeat = beat + dataDelay;
            timesIssued++;
            tableWaits = 0;
        }

        int tell(int what) {
            switch (what) {
                case 0:
                    return isStore ? 1 : 0;
                case 1:
                    return address;
                case 2:
                    return bytes;
                case 3:
                    return hasValue() ? value : NONE;
                case 4:
                    return how;
                case 5:
                    return how == WAITS ? NONE : addressBeat;
                case 6:
                    return timesIssued;
                case 7:
                    return timesRedone;
                case 8:
                    return beatsWaited;
                case 9:
                    return isStore ? NONE : place;
                default:
                    return BAD_VALUE;
            }
        }
    }

    /**
     * A state. Acts are issued and retired in the order of the row, so three stretches tell where each
     * one is: those before head are retired, those from head to before tail are in the queue, and
     * those from tail on wait.
     */
    private static final class Machine {
        final Act[] acts;
        int size;
        int head;
        int tail;
        final int[] memory;
        /** The memory with which plain values begin. */
        final int[] firstMemory;
        final int[] table;
        final int[] settings;
        int beats;
        int redone;
        int left;
        int waited;
        int forwarded;
        int wentAhead;

        Machine() {
            acts = new Act[ROW_ROOM];
            for (int i = 0; i < ROW_ROOM; i++) {
                acts[i] = new Act();
            }
            memory = new int[MEMORY_ROOM];
            firstMemory = new int[MEMORY_ROOM];
            table = new int[PLACES];
            settings = Arrays.copyOf(FIRST_SETTING, SETTINGS);
        }

        void copyFrom(Machine other) {
            for (int i = 0; i < other.size; i++) {
                acts[i].becomeCopyOf(other.acts[i]);
            }
            size = other.size;
            head = other.head;
            tail = other.tail;
            System.arraycopy(other.memory, 0, memory, 0, MEMORY_ROOM);
            System.arraycopy(other.firstMemory, 0, firstMemory, 0, MEMORY_ROOM);
            System.arraycopy(other.table, 0, table, 0, PLACES);
            System.arraycopy(other.settings, 0, settings, 0, SETTINGS);
            beats = other.beats;
            redone = other.redone;
            left = other.left;
            waited = other.waited;
            forwarded = other.forwarded;
            wentAhead = other.wentAhead;
        }

        boolean hasAct(int number) {
            return number >= 0 && number < size;
        }

        int inQueue() {
            return tail - head;
        }

        /** The error that adding the draft would have, or 0. */
        int errorOf(Act draft) {
            if (draft.address < 0 || draft.address >= MEMORY_ROOM) {
                return UNKNOWN;
            }
            boolean bytesFit = draft.bytes >= 1 && draft.bytes <= MOST_BYTES;
            if (bytesFit && draft.address + draft.bytes > MEMORY_ROOM) {
                return UNKNOWN;
            }
            if (draft.place < 0 || draft.place >= PLACES) {
                return UNKNOWN;
            }
            if (!bytesFit) {
                return BAD_VALUE;
            }
            if (draft.value < 0 || draft.value >= 1 << 8 * draft.bytes) {
                return BAD_VALUE;
            }
            if (draft.addressDelay < 0 || draft.addressDelay > MOST_DELAY) {
                return BAD_VALUE;
            }
            if (draft.dataDelay < 0 || draft.dataDelay > MOST_DELAY) {
                return BAD_VALUE;
            }
            return size >= ROW_ROOM ? FULL : 0;
        }

        int append(Act draft) {
            int number = size;
            if (number >= ROW_ROOM) {
                return FULL;
            }
            acts[number].becomeCopyOf(draft);
            size = number + 1;
            return number;
        }

        int wipeRow() {
            int before = size;
            size = 0;
            head = 0;
            tail = 0;
            System.arraycopy(memory, 0, firstMemory, 0, MEMORY_ROOM);
            return before;
        }

        // ---- a beat

        void passBeat() {
            retireActs();
            issueActs();
            lookAtKnownStores();
            finishStores();
            runLoads();
            beats++;
        }

        private void retireActs() {
            for (int n = 0; n < settings[WIDTH] && head < tail; n++) {
                Act oldest = acts[head];
                if (oldest.how != DONE) {
                    return;
                }
                oldest.how = RETIRED;
                if (oldest.isStore) {
                    writeStore(oldest);
                }
                head++;
            }
        }

        private void writeStore(Act store) {
            for (int k = 0; k < store.bytes; k++) {
                int at = store.address + k;
                memory[at] = store.byteOf(at);
            }
        }

        private void issueActs() {
            for (int n = 0; n < settings[WIDTH] && tail < size && inQueue() < settings[QUEUE]; n++) {
                acts[tail].becomeIssued(beats);
                tail++;
            }
        }

        private void lookAtKnownStores() {
            // The tail comes nearer when acts leave the queue: those are not looked at any more.
            for (int i = head; i < tail; i++) {
                if (acts[i].isStore && acts[i].addressBeat == beats) {
                    int early = oldestTooEarly(i);
                    if (early != NONE) {
                        redoFrom(early);
                    }
                }
            }
        }

        private int oldestTooEarly(int store) {
            for (int i = store + 1; i < tail; i++) {
                if (!acts[i].isStore && acts[i].how == DONE && wasTooEarly(acts[i], store)) {
                    return i;
                }
            }
            return NONE;
        }

        private boolean wasTooEarly(Act load, int store) {
            for (int k = 0; k < load.bytes; k++) {
                int from = load.sources[k];
                boolean fromBefore = from == FROM_MEMORY || from < store;
                if (fromBefore && acts[store].hasByte(load.address + k)) {
                    return true;
                }
            }
            return false;
        }

        private void redoFrom(int load) {
            Act early = acts[load];
            early.timesRedone++;
            redone++;
            table[early.place] = Math.min(MOST_COUNTER, table[early.place] + 1);
            left += tail - load;
            for (int i = load; i < tail; i++) {
                acts[i].how = WAITS;
            }
            tail = load;
        }

        private void finishStores() {
            for (int i = head; i < tail; i++) {
                Act act = acts[i];
                if (act.isStore && act.addressBeat <= beats && act.dataBeat <= beats) {
                    act.how = DONE;
                }
            }
        }

        private void runLoads() {
            long unknownStores = 0;
            int portsUsed = 0;
            for (int i = head; i < tail && portsUsed < settings[PORTS]; i++) {
                Act act = acts[i];
                boolean addressKnown = act.addressBeat <= beats;
                if (act.isStore) {
                    if (!addressKnown) {
                        unknownStores |= 1L << i;
                    }
                } else if (act.how == ISSUED && addressKnown) {
                    if (runLoad(i, unknownStores)) {
                        portsUsed++;
                    } else {
                        act.beatsWaited++;
                        waited++;
                    }
                }
            }
        }

        /** Answers if the load is done now; otherwise it waits. */
        private boolean runLoad(int number, long unknownStores) {
            Act load = acts[number];
            if (unknownStores != 0 && isCautious(load)) {
                if (settings[GUESS] == BY_THE_TABLE) {
                    load.tableWaits |= unknownStores;
                }
                return false;
            }
            for (int k = 0; k < load.bytes; k++) {
                load.sources[k] = sourceOf(number, load.address + k);
            }
            if (!sourcesAreReady(load)) {
                return false;
            }
            finishLoad(load);
            if (unknownStores != 0) {
                wentAhead++;
            }
            return true;
        }

        private boolean isCautious(Act load) {
            if (settings[GUESS] == BY_THE_TABLE) {
                return table[load.place] >= CAUTIOUS_COUNTER;
            }
            return settings[GUESS] == ALWAYS_WAIT;
        }

        /** The latest store ahead in the queue that is known to have the byte, or the memory. */
        private int sourceOf(int load, int address) {
            for (int i = load - 1; i >= head; i--) {
                Act act = acts[i];
                if (act.isStore && act.addressBeat <= beats && act.hasByte(address)) {
                    return i;
                }
            }
            return FROM_MEMORY;
        }

        private boolean sourcesAreReady(Act load) {
            for (int k = 0; k < load.bytes; k++) {
                int from = load.sources[k];
                if (from != FROM_MEMORY && acts[from].dataBeat > beats) {
                    return false;
                }
                if (settings[MERGING] == 0 && from != load.sources[0]) {
                    return false;
                }
            }
            return true;
        }

        private void finishLoad(Act load) {
            int value = 0;
            boolean fromAwaited = false;
            for (int k = 0; k < load.bytes; k++) {
                int at = load.address + k;
                int from = load.sources[k];
                if (from == FROM_MEMORY) {
                    value |= memory[at] << 8 * k;
                } else {
                    value |= acts[from].byteOf(at) << 8 * k;
                    forwarded++;
                    if ((load.tableWaits >> from & 1) != 0) {
                        fromAwaited = true;
                    }
                }
            }
            load.value = value;
            load.how = DONE;
            if (load.tableWaits != 0 && !fromAwaited) {
                // It waited in vain, so the next one of its place may be bolder.
                table[load.place] = Math.max(0, table[load.place] - 1);
            }
        }

        // ---- what is told

        int plainValue(int load) {
            int value = 0;
            for (int k = 0; k < acts[load].bytes; k++) {
                value |= plainByte(load, acts[load].address + k) << 8 * k;
            }
            return value;
        }

        private int plainByte(int load, int address) {
            for (int i = load - 1; i >= 0; i--) {
                if (acts[i].isStore && acts[i].hasByte(address)) {
                    return acts[i].byteOf(address);
                }
            }
            return firstMemory[address];
        }

        int tellCount(int what) {
            switch (what) {
                case 0:
                    return beats;
                case 1:
                    return size;
                case 2:
                    return size - tail;
                case 3:
                    return inQueue() - doneInQueue();
                case 4:
                    return doneInQueue();
                case 5:
                    return head;
                case 6:
                    return retiredLoads(true);
                case 7:
                    return retiredLoads(false);
                case 8:
                    return redone;
                case 9:
                    return left;
                case 10:
                    return waited;
                case 11:
                    return forwarded;
                case 12:
                    return wentAhead;
                default:
                    return BAD_VALUE;
            }
        }

        private int doneInQueue() {
            int found = 0;
            for (int i = head; i < tail; i++) {
                if (acts[i].how == DONE) {
                    found++;
                }
            }
            return found;
        }

        private int retiredLoads(boolean rightOnly) {
            int found = 0;
            for (int i = 0; i < head; i++) {
                Act act = acts[i];
                if (!act.isStore && (!rightOnly || act.value == plainValue(i))) {
                    found++;
                }
            }
            return found;
        }

        /** Lets beats pass until all acts are retired; answers how many, or NONE if they are too many. */
        int runOut() {
            for (int passed = 0; passed < MOST_BEATS_AHEAD; passed++) {
                if (head == size) {
                    return passed;
                }
                passBeat();
            }
            return head == size ? MOST_BEATS_AHEAD : NONE;
        }
    }

    /** The states that undo() can restore, the oldest first. */
    private static final class History {
        final Machine[] states;
        int length;

        History() {
            states = new Machine[HISTORY_ROOM];
            for (int i = 0; i < HISTORY_ROOM; i++) {
                states[i] = new Machine();
            }
        }

        void recordState(Machine machine) {
            if (length == HISTORY_ROOM) {
                dropOldest();
            }
            states[length].copyFrom(machine);
            length++;
        }

        private void dropOldest() {
            Machine oldest = states[0];
            for (int i = 1; i < HISTORY_ROOM; i++) {
                states[i - 1] = states[i];
            }
            states[HISTORY_ROOM - 1] = oldest;
            length--;
        }

        /** Answers how many states are left, or NONE. */
        int takeBack(Machine machine) {
            if (length == 0) {
                return NONE;
            }
            length--;
            machine.copyFrom(states[length]);
            return length;
        }
    }

    /** The text, and a reader that stops on the first character that is not allowed at its place. */
    private static final class Text {
        private static final int MISSING = -1;

        final char[] characters;
        int length;
        private int at;

        Text() {
            characters = new char[TEXT_ROOM];
        }

        int append(char character) {
            if (length >= TEXT_ROOM) {
                return FULL;
            }
            characters[length] = character;
            length++;
            return length;
        }

        void begin() {
            at = 0;
        }

        /** Answers the index of the fault, or NONE; the draft is only room to read into. */
        int findFault(Act draft) {
            begin();
            for (int read = 0; read < TEXT_ROOM; read++) {
                if (!readAct(draft)) {
                    return at;
                }
                if (!take(';')) {
                    return at == length ? NONE : at;
                }
            }
            return at;
        }

        boolean readAct(Act into) {
            if (take('s')) {
                return readStore(into);
            }
            return take('l') && readLoad(into);
        }

        boolean take(char wanted) {
            if (at >= length || characters[at] != wanted) {
                return false;
            }
            at++;
            return true;
        }

        private boolean readStore(Act into) {
            int address = readNumber(0, MEMORY_ROOM - 1);
            if (address == MISSING || !take(':')) {
                return false;
            }
            int bytes = readNumber(1, MOST_BYTES);
            if (bytes == MISSING || !take('=')) {
                return false;
            }
            int value = readNumber(0, MOST_VALUE);
            if (value == MISSING) {
                return false;
            }
            int known = 0;
            int data = 0;
            if (take('/')) {
                known = readNumber(0, MOST_DELAY);
                data = known == MISSING ? MISSING : readBehind(',', MOST_DELAY);
            }
            into.describeStore(address, bytes, value, known, data);
            return known != MISSING && data != MISSING;
        }

        private boolean readLoad(Act into) {
            int address = readNumber(0, MEMORY_ROOM - 1);
            if (address == MISSING || !take(':')) {
                return false;
            }
            int bytes = readNumber(1, MOST_BYTES);
            if (bytes == MISSING) {
                return false;
            }
            int known = readBehind('/', MOST_DELAY);
            if (known == MISSING) {
                return false;
            }
            int place = readBehind('@', PLACES - 1);
            into.describeLoad(address, bytes, known, place);
            return place != MISSING;
        }

        /** The number behind a mark that may be left out, and then stands for 0. */
        private int readBehind(char mark, int most) {
            return take(mark) ? readNumber(0, most) : 0;
        }

        /** A digit that is too much is left standing: nothing that may follow a number begins with one. */
        private int readNumber(int least, int most) {
            int number = digitHere();
            if (number < least || number > most) {
                return MISSING;
            }
            at++;
            for (int i = at; i < length && number > 0; i++) {
                int digit = digitHere();
                if (digit == MISSING || number * 10 + digit > most) {
                    return number;
                }
                number = number * 10 + digit;
                at++;
            }
            return number;
        }

        private int digitHere() {
            if (at >= length || characters[at] < '0' || characters[at] > '9') {
                return MISSING;
            }
            return characters[at] - '0';
        }
    }
}
