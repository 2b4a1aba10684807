/**
 * A line of stages that talk in four steps, without a clock: request up, answer up, request down, answer down.
 *
 * <p>All rows are made with the object and used again, because every call of a run shares one room of memory.
 */
public final class FourPhases {
    public static final int UNKNOWN = -1;
    public static final int OUT_OF_RANGE = -2;
    public static final int FULL = -3;
    public static final int NONE = -5;

    private static final int FIRST_STAGES = 3;
    private static final int MOST_STAGES = 6;
    private static final int MOST_LINKS = MOST_STAGES + 1;
    private static final int SENDERS = 2;
    private static final int GREATEST_WORD = 15;
    private static final int MOST_WAITING = 20;
    private static final int MOST_TICKS = 1000;
    private static final int GREATEST_TIME = 1000000;

    private static final int WIRES = 3;
    private static final int REQUEST = 0;
    private static final int ANSWER = 1;
    private static final int DATA = 2;
    private static final int FIRST_DELAY = 2;
    private static final int GREATEST_DELAY = 20;

    private static final int SETTINGS = 3;
    private static final int LEAD = 0;
    private static final int THINK = 1;
    private static final int RULE = 2;
    private static final int FIRST_LEAD = 1;
    private static final int GREATEST_EXTRA = 20;

    /** Stands where a word could stand, and no word is. */
    private static final int EMPTY = -1;
    private static final int MOST_NOTES = 50;
    private static final int NOTE_WORD = 0;
    private static final int NOTE_TIME = 1;
    private static final int NOTE_RIGHT = 2;

    /** At most 7 offered words are not noted yet: one on the link 0 and one in each of 6 stages. */
    private static final int OFFERED_ROOM = 8;

    /**
     * A link offers once in 4 ticks at most and a change of data takes 20 at most: so there are at most 6 changes
     * of data and one of the request or the answer under way on each of 7 links, 49 in all.
     */
    private static final int CHANGES_ROOM = 64;

    /** Later than any change can arrive. */
    private static final int FOREVER = 2000000000;
    /** Far above the changes that any line can have until it is quiet. */
    private static final int MOST_ARRIVALS = 1000000;

    private static final int MOST_STATES = 4;
    private static final int MOST_CHARACTERS = 60;
    /** The shortest order and its comma have 3 characters. */
    private static final int MOST_ORDERS = 20;
    private static final int GREATEST_PAUSE = 99;
    private static final int NO_FAULT = -1;
    private static final int FAULT_BASE = -100;

    private final Line now;
    /** Every change is made here first, so that one that ends in an error has changed nothing. */
    private final Line trial;
    private final Line snapshot;
    private boolean hasSnapshot;
    private final History history;
    private final Text text;

    public FourPhases() {
        now = new Line();
        trial = new Line();
        snapshot = new Line();
        hasSnapshot = false;
        history = new History();
        text = new Text();
    }

    // ---- changes

    public int build(int stages) {
        if (stages < 1 || stages > MOST_STAGES) {
            return OUT_OF_RANGE;
        }
        trial.copyFrom(now);
        trial.clearTo(stages);
        return accept(now.fullStages() + now.waitingWords());
    }

    public int add(int sender, int word) {
        trial.copyFrom(now);
        return accept(trial.addWord(sender, word));
    }

    public int run(int ticks) {
        trial.copyFrom(now);
        return accept(trial.passTicks(ticks));
    }

    public int finish() {
        if (now.isQuiet()) {
            return NONE;
        }
        trial.copyFrom(now);
        trial.letArriveUpTo(FOREVER);
        if (trial.time > GREATEST_TIME) {
            return FULL;
        }
        return accept(trial.time - now.time);
    }

    public int setDelay(int link, int wire, int delay) {
        trial.copyFrom(now);
        return accept(trial.changeDelay(link, wire, delay));
    }

    public int set(int setting, int value) {
        if (setting < 0 || setting >= SETTINGS) {
            return UNKNOWN;
        }
        int greatest = setting == RULE ? 1 : GREATEST_EXTRA;
        if (value < 0 || value > greatest) {
            return OUT_OF_RANGE;
        }
        int previous = now.settings[setting];
        if (previous == value) {
            return NONE;
        }
        trial.copyFrom(now);
        trial.settings[setting] = value;
        return accept(previous);
    }

    // ---- texts

    public int type(char character) {
        return text.append(character);
    }

    public int clearText() {
        int length = text.length;
        text.length = 0;
        return length;
    }

    public int perform() {
        int fault = text.readOrders();
        if (fault != NO_FAULT) {
            return FAULT_BASE - fault;
        }
        trial.copyFrom(now);
        for (int i = 0; i < text.orders; i++) {
            int answer;
            switch (text.letters[i]) {
                case 'a': answer = trial.addWord(0, text.values[i]); break;
                case 'b': answer = trial.addWord(1, text.values[i]); break;
                case '.': answer = trial.passTicks(text.values[i]); break;
                case 'r': answer = trial.changeDelay(text.targets[i], REQUEST, text.values[i]); break;
                case 'k': answer = trial.changeDelay(text.targets[i], ANSWER, text.values[i]); break;
                default: answer = trial.changeDelay(text.targets[i], DATA, text.values[i]); break;
            }
            if (answer < 0 && answer != NONE) {
                return answer;
            }
        }
        return accept(text.orders);
    }

    // ---- history

    public int undo() {
        return history.giveBack(now);
    }

    public int keep() {
        snapshot.copyFrom(now);
        hasSnapshot = true;
        return now.time;
    }

    public int restore() {
        if (!hasSnapshot) {
            return NONE;
        }
        trial.copyFrom(snapshot);
        return accept(snapshot.time);
    }

    // ---- what there is

    public int link(int link, int what) {
        if (!now.hasLink(link)) {
            return UNKNOWN;
        }
        return now.links[link].tell(what, now.settings[LEAD]);
    }

    public int stage(int stage) {
        if (stage < 0 || stage >= now.stages) {
            return UNKNOWN;
        }
        int word = now.held[stage];
        return word == EMPTY ? NONE : word;
    }

    public int waiting(int sender, int place) {
        if (sender < 0 || sender >= SENDERS) {
            return UNKNOWN;
        }
        if (place < 0) {
            return OUT_OF_RANGE;
        }
        int word = now.rows[sender].wordAt(place);
        return word == EMPTY ? NONE : word;
    }

    public int noted(int rank, int what) {
        if (rank < 0 || what < NOTE_WORD || what > NOTE_RIGHT) {
            return OUT_OF_RANGE;
        }
        return now.notes.tell(rank, what);
    }

    public int total(int what) {
        switch (what) {
            case 0: return now.stages;
            case 1: return now.time;
            case 2: return now.waitingWords();
            case 3: return now.fullStages();
            case 4: return now.underWay.count;
            case 5: return now.offeredWords;
            case 6: return now.notes.count;
            case 7: return now.notes.rightCount;
            case 8: return now.arrivedChanges;
            case 9: return now.latestSender;
            case 10: return now.settings[LEAD];
            case 11: return now.settings[THINK];
            case 12: return now.settings[RULE];
            case 13: return history.count;
            case 14: return text.length;
            default: return OUT_OF_RANGE;
        }
    }

    public int next() {
        return now.isQuiet() ? NONE : now.underWay.firstTime();
    }

    // ---- what would be; nothing changes, and the greatest time does not matter

    public int quietIn() {
        trial.copyFrom(now);
        trial.letArriveUpTo(FOREVER);
        return trial.time - now.time;
    }

    public int ifLead(int lead, int what) {
        if (lead < 0 || lead > GREATEST_EXTRA || what < 0 || what > 2) {
            return OUT_OF_RANGE;
        }
        settleTrialWithLead(lead);
        switch (what) {
            case 0: return trial.time - now.time;
            case 1: return trial.notes.count - now.notes.count;
            default: return wrongInTrial();
        }
    }

    public int leastLead() {
        for (int lead = 0; lead <= GREATEST_EXTRA; lead++) {
            settleTrialWithLead(lead);
            if (wrongInTrial() == 0) {
                return lead;
            }
        }
        return NONE;
    }

    public int dearest() {
        int best = NONE;
        int earliest = 0;
        for (int link = 0; link <= now.stages; link++) {
            for (int wire = 0; wire < WIRES; wire++) {
                if (now.links[link].delays[wire] > 1) {
                    int quiet = quietTimeWithLess(link, wire);
                    if (best == NONE || quiet < earliest) {
                        best = 10 * link + wire;
                        earliest = quiet;
                    }
                }
            }
        }
        return best;
    }

    /** The one place where a change counts: here the state before it goes to the history. */
    private int accept(int answer) {
        if (answer < 0) {
            return answer;
        }
        history.record(now);
        now.copyFrom(trial);
        return answer;
    }

    private void settleTrialWithLead(int lead) {
        trial.copyFrom(now);
        trial.settings[LEAD] = lead;
        trial.letArriveUpTo(FOREVER);
    }

    private int wrongInTrial() {
        return trial.notes.wrongWords() - now.notes.wrongWords();
    }

    private int quietTimeWithLess(int link, int wire) {
        trial.copyFrom(now);
        trial.links[link].delays[wire]--;
        trial.letArriveUpTo(FOREVER);
        return trial.time;
    }

    /** The whole state: everything except the text, the history and the snapshot. */
    private static final class Line {
        int stages;
        int time;
        int latestSender;
        int offeredWords;
        int arrivedChanges;
        final int[] settings = new int[SETTINGS];
        final Link[] links = new Link[MOST_LINKS];
        final int[] held = new int[MOST_STAGES];
        final Row[] rows = new Row[SENDERS];
        final Changes underWay = new Changes();
        final Notes notes = new Notes();
        /** The words that the waiter offered, by their number modulo the room: a word noted is compared with them. */
        final int[] offered = new int[OFFERED_ROOM];

        Line() {
            for (int i = 0; i < MOST_LINKS; i++) {
                links[i] = new Link();
            }
            for (int i = 0; i < SENDERS; i++) {
                rows[i] = new Row();
            }
            settings[LEAD] = FIRST_LEAD;
            clearTo(FIRST_STAGES);
        }

        /** Leaves the settings as they are, because a line that is built keeps them. */
        void clearTo(int newStages) {
            stages = newStages;
            time = 0;
            latestSender = NONE;
            offeredWords = 0;
            arrivedChanges = 0;
            for (int i = 0; i < MOST_LINKS; i++) {
                links[i].clear();
            }
            for (int i = 0; i < MOST_STAGES; i++) {
                held[i] = EMPTY;
            }
            for (int i = 0; i < SENDERS; i++) {
                rows[i].count = 0;
            }
            underWay.count = 0;
            notes.clear();
        }

        void copyFrom(Line other) {
            stages = other.stages;
            time = other.time;
            latestSender = other.latestSender;
            offeredWords = other.offeredWords;
            arrivedChanges = other.arrivedChanges;
            System.arraycopy(other.settings, 0, settings, 0, SETTINGS);
            for (int i = 0; i < MOST_LINKS; i++) {
                links[i].copyFrom(other.links[i]);
            }
            System.arraycopy(other.held, 0, held, 0, MOST_STAGES);
            for (int i = 0; i < SENDERS; i++) {
                rows[i].copyFrom(other.rows[i]);
            }
            underWay.copyFrom(other.underWay);
            notes.copyFrom(other.notes);
            System.arraycopy(other.offered, 0, offered, 0, OFFERED_ROOM);
        }

        boolean hasLink(int link) {
            return link >= 0 && link <= stages;
        }

        boolean isQuiet() {
            return underWay.count == 0;
        }

        int fullStages() {
            int full = 0;
            for (int i = 0; i < stages; i++) {
                if (held[i] != EMPTY) {
                    full++;
                }
            }
            return full;
        }

        int waitingWords() {
            return rows[0].count + rows[1].count;
        }

        int addWord(int sender, int word) {
            if (sender < 0 || sender >= SENDERS) {
                return UNKNOWN;
            }
            if (word < 0 || word > GREATEST_WORD) {
                return OUT_OF_RANGE;
            }
            Row row = rows[sender];
            if (row.count >= MOST_WAITING) {
                return FULL;
            }
            row.append(word);
            if (links[0].atRest) {
                offer(0, letOneGo());
            }
            return row.count;
        }

        int changeDelay(int link, int wire, int delay) {
            if (!hasLink(link) || wire < 0 || wire >= WIRES) {
                return UNKNOWN;
            }
            if (delay < 1 || delay > GREATEST_DELAY) {
                return OUT_OF_RANGE;
            }
            int previous = links[link].delays[wire];
            if (previous == delay) {
                return NONE;
            }
            links[link].delays[wire] = delay;
            return previous;
        }

        int passTicks(int ticks) {
            if (ticks < 1 || ticks > MOST_TICKS) {
                return OUT_OF_RANGE;
            }
            int end = time + ticks;
            if (end > GREATEST_TIME) {
                return FULL;
            }
            int notedBefore = notes.count;
            letArriveUpTo(end);
            time = end;
            return notes.count - notedBefore;
        }

        /** Leaves the time at that of the last change that arrived. */
        void letArriveUpTo(int end) {
            for (int i = 0; i < MOST_ARRIVALS && !isQuiet() && underWay.firstTime() <= end; i++) {
                time = underWay.firstTime();
                int link = underWay.firstLink();
                int wire = underWay.firstWire();
                int value = underWay.firstValue();
                underWay.removeFirst();
                arrivedChanges++;
                if (!hasLink(link)) {
                    continue;
                }
                if (wire == REQUEST) {
                    letRequestArrive(link, value);
                } else if (wire == ANSWER) {
                    letAnswerArrive(link, value);
                } else {
                    links[link].dataAtEnd = value;
                }
            }
        }

        private void letRequestArrive(int link, int value) {
            links[link].requestAtEnd = value;
            if (value == 0) {
                makeAnswer(link, 0, 0);
            } else if (link == stages) {
                noteWord(links[link].dataAtEnd);
                makeAnswer(link, 1, settings[THINK]);
            } else if (held[link] != EMPTY) {
                links[link].requestWaits = true;
            } else {
                takeWord(link);
                if (links[link + 1].atRest) {
                    offer(link + 1, held[link]);
                }
            }
        }

        private void letAnswerArrive(int link, int value) {
            links[link].answerAtBeginning = value;
            if (value == 0) {
                links[link].atRest = true;
                int word = link == 0 ? letOneGo() : held[link - 1];
                if (word != EMPTY) {
                    offer(link, word);
                }
                return;
            }
            makeRequest(link, 0, 0);
            if (link > 0) {
                held[link - 1] = EMPTY;
                // The word that is taken here isn't offered yet, because this link isn't at rest ahead of the answer 0.
                if (links[link - 1].requestWaits) {
                    takeWord(link - 1);
                }
            }
        }

        private void takeWord(int stage) {
            links[stage].requestWaits = false;
            held[stage] = links[stage].dataAtEnd;
            makeAnswer(stage, 1, 0);
        }

        /** Returns the word that the waiter lets go, as it is on data wires, or EMPTY if none waits. */
        private int letOneGo() {
            int sender = chosenSender();
            int word = rows[sender].removeFirst();
            if (word == EMPTY) {
                return EMPTY;
            }
            int shown = sender * (GREATEST_WORD + 1) + word;
            latestSender = sender;
            offered[offeredWords % OFFERED_ROOM] = shown;
            offeredWords++;
            return shown;
        }

        private int chosenSender() {
            if (rows[1].count == 0) {
                return 0;
            }
            if (rows[0].count == 0) {
                return 1;
            }
            return settings[RULE] == 0 && latestSender == 0 ? 1 : 0;
        }

        private void noteWord(int word) {
            boolean right = word == offered[notes.count % OFFERED_ROOM];
            notes.append(word, time, right ? 1 : 0);
        }

        private void offer(int link, int word) {
            Link way = links[link];
            way.dataAtBeginning = word;
            underWay.insert(time + way.delays[DATA], link, DATA, word);
            makeRequest(link, 1, settings[LEAD]);
            way.atRest = false;
            way.offeredWords++;
        }

        private void makeRequest(int link, int value, int extra) {
            links[link].requestAtBeginning = value;
            underWay.insert(time + links[link].delays[REQUEST] + extra, link, REQUEST, value);
        }

        private void makeAnswer(int link, int value, int extra) {
            links[link].answerAtEnd = value;
            underWay.insert(time + links[link].delays[ANSWER] + extra, link, ANSWER, value);
        }
    }

    /** One link, with both ends of its three wires. */
    private static final class Link {
        final int[] delays = new int[WIRES];
        int requestAtBeginning;
        int requestAtEnd;
        int answerAtEnd;
        int answerAtBeginning;
        int dataAtBeginning;
        int dataAtEnd;
        boolean atRest;
        boolean requestWaits;
        int offeredWords;

        void clear() {
            for (int i = 0; i < WIRES; i++) {
                delays[i] = FIRST_DELAY;
            }
            requestAtBeginning = 0;
            requestAtEnd = 0;
            answerAtEnd = 0;
            answerAtBeginning = 0;
            dataAtBeginning = 0;
            dataAtEnd = 0;
            atRest = true;
            requestWaits = false;
            offeredWords = 0;
        }

        void copyFrom(Link other) {
            System.arraycopy(other.delays, 0, delays, 0, WIRES);
            requestAtBeginning = other.requestAtBeginning;
            requestAtEnd = other.requestAtEnd;
            answerAtEnd = other.answerAtEnd;
            answerAtBeginning = other.answerAtBeginning;
            dataAtBeginning = other.dataAtBeginning;
            dataAtEnd = other.dataAtEnd;
            atRest = other.atRest;
            requestWaits = other.requestWaits;
            offeredWords = other.offeredWords;
        }

        int tell(int what, int lead) {
            switch (what) {
                case 0: return delays[REQUEST];
                case 1: return delays[ANSWER];
                case 2: return delays[DATA];
                case 3: return requestAtBeginning;
                case 4: return requestAtEnd;
                case 5: return answerAtEnd;
                case 6: return answerAtBeginning;
                case 7: return dataAtBeginning;
                case 8: return dataAtEnd;
                case 9: return atRest ? 1 : 0;
                case 10: return requestWaits ? 1 : 0;
                case 11: return offeredWords;
                case 12: return delays[DATA] <= delays[REQUEST] + lead ? 1 : 0;
                default: return OUT_OF_RANGE;
            }
        }
    }

    /** The words of one sender that wait, the first one ahead. */
    private static final class Row {
        final int[] words = new int[MOST_WAITING];
        int count;

        void copyFrom(Row other) {
            count = other.count;
            System.arraycopy(other.words, 0, words, 0, MOST_WAITING);
        }

        void append(int word) {
            if (count < MOST_WAITING) {
                words[count] = word;
                count++;
            }
        }

        int wordAt(int place) {
            return place >= 0 && place < count ? words[place] : EMPTY;
        }

        int removeFirst() {
            if (count <= 0) {
                return EMPTY;
            }
            int first = words[0];
            count--;
            for (int i = 0; i < count; i++) {
                words[i] = words[i + 1];
            }
            return first;
        }
    }

    /**
     * The changes under way, by the time of their arrival; those of one time stay in the order in which they were
     * made. They stand in a ring, so that the first one leaves without moving the others.
     */
    private static final class Changes {
        private static final int VALUES = 32;
        final int[] times = new int[CHANGES_ROOM];
        /** Link, wire and value in one number, so that fewer numbers move when a change is inserted. */
        final int[] signals = new int[CHANGES_ROOM];
        int head;
        int count;

        void copyFrom(Changes other) {
            head = other.head;
            count = other.count;
            System.arraycopy(other.times, 0, times, 0, CHANGES_ROOM);
            System.arraycopy(other.signals, 0, signals, 0, CHANGES_ROOM);
        }

        void insert(int time, int link, int wire, int value) {
            if (count >= CHANGES_ROOM) {
                return;
            }
            int place = count;
            while (place > 0 && times[(head + place - 1) % CHANGES_ROOM] > time) {
                int from = (head + place - 1) % CHANGES_ROOM;
                int to = (head + place) % CHANGES_ROOM;
                times[to] = times[from];
                signals[to] = signals[from];
                place--;
            }
            int free = (head + place) % CHANGES_ROOM;
            times[free] = time;
            signals[free] = (link * WIRES + wire) * VALUES + value;
            count++;
        }

        int firstTime() {
            return times[head];
        }

        int firstLink() {
            return signals[head] / VALUES / WIRES;
        }

        int firstWire() {
            return signals[head] / VALUES % WIRES;
        }

        int firstValue() {
            return signals[head] % VALUES;
        }

        void removeFirst() {
            if (count > 0) {
                head = (head + 1) % CHANGES_ROOM;
                count--;
            }
        }
    }

    /** The words that the receiver noted: all are counted, the latest ones are kept in a ring. */
    private static final class Notes {
        final int[] words = new int[MOST_NOTES];
        final int[] times = new int[MOST_NOTES];
        final int[] rights = new int[MOST_NOTES];
        int count;
        int rightCount;

        void clear() {
            count = 0;
            rightCount = 0;
        }

        void copyFrom(Notes other) {
            System.arraycopy(other.words, 0, words, 0, MOST_NOTES);
            System.arraycopy(other.times, 0, times, 0, MOST_NOTES);
            System.arraycopy(other.rights, 0, rights, 0, MOST_NOTES);
            count = other.count;
            rightCount = other.rightCount;
        }

        void append(int word, int time, int right) {
            int place = count % MOST_NOTES;
            words[place] = word;
            times[place] = time;
            rights[place] = right;
            count++;
            rightCount += right;
        }

        int wrongWords() {
            return count - rightCount;
        }

        int tell(int rank, int what) {
            if (rank < 0 || rank >= count || rank >= MOST_NOTES) {
                return NONE;
            }
            int place = (count - 1 - rank) % MOST_NOTES;
            switch (what) {
                case NOTE_WORD: return words[place];
                case NOTE_TIME: return times[place];
                default: return rights[place];
            }
        }
    }

    /** The latest states, the oldest one first. */
    private static final class History {
        final Line[] states = new Line[MOST_STATES];
        int count;

        History() {
            for (int i = 0; i < MOST_STATES; i++) {
                states[i] = new Line();
            }
        }

        void record(Line line) {
            if (count >= MOST_STATES) {
                dropOldest();
            }
            states[count].copyFrom(line);
            count++;
        }

        /** The dropped object goes to the end, to be used again. */
        private void dropOldest() {
            Line oldest = states[0];
            for (int i = 1; i < MOST_STATES; i++) {
                states[i - 1] = states[i];
            }
            states[MOST_STATES - 1] = oldest;
            count = MOST_STATES - 1;
        }

        int giveBack(Line line) {
            if (count <= 0) {
                return NONE;
            }
            count--;
            line.copyFrom(states[count]);
            return count;
        }
    }

    /** The text, and the orders that were read from it: a letter, a target (of r, k and d alone) and a value each. */
    private static final class Text {
        /** Stands for what is behind the end: it is allowed nowhere, so that the end is a fault like a wrong sign. */
        private static final int END = -1;
        private static final int NO_DIGIT = -1;
        /** By their numbers, because any character may be typed, also one above 255. */
        final int[] characters = new int[MOST_CHARACTERS];
        int length;
        final int[] letters = new int[MOST_ORDERS];
        final int[] targets = new int[MOST_ORDERS];
        final int[] values = new int[MOST_ORDERS];
        int orders;
        /** The place of the next character to read: the fault, when reading stops. */
        private int place;

        int append(char character) {
            if (length >= MOST_CHARACTERS) {
                return FULL;
            }
            characters[length] = character;
            length++;
            return length;
        }

        /** Returns the fault of the text, or NO_FAULT. */
        int readOrders() {
            place = 0;
            orders = 0;
            for (int i = 0; i <= MOST_ORDERS; i++) {
                if (!readOrder()) {
                    return place;
                }
                if (place >= length) {
                    return NO_FAULT;
                }
                if (!readSign(',')) {
                    return place;
                }
            }
            return place;
        }

        private boolean readOrder() {
            int letter = current();
            switch (letter) {
                case 'a':
                case 'b':
                    place++;
                    return store(letter, 0, readDigit(GREATEST_WORD), 0);
                case '.':
                    place++;
                    return store(letter, 0, readNumber(GREATEST_PAUSE), 1);
                case 'r':
                case 'k':
                case 'd':
                    place++;
                    return readDelay(letter);
                default:
                    return false;
            }
        }

        private boolean readDelay(int letter) {
            int link = readDigit(MOST_LINKS - 1);
            if (link == NO_DIGIT || !readSign('=')) {
                return false;
            }
            return store(letter, link, readNumber(GREATEST_DELAY), 1);
        }

        /** Refuses a value that is less than the least one: nothing was read then. */
        private boolean store(int letter, int target, int value, int least) {
            if (value < least || orders >= MOST_ORDERS) {
                return false;
            }
            letters[orders] = letter;
            targets[orders] = target;
            values[orders] = value;
            orders++;
            return true;
        }

        private int current() {
            return place >= 0 && place < length ? characters[place] : END;
        }

        private boolean readSign(int sign) {
            if (current() != sign) {
                return false;
            }
            place++;
            return true;
        }

        private int readDigit(int greatest) {
            int digit = digitOf(current());
            if (digit == NO_DIGIT || digit > greatest) {
                return NO_DIGIT;
            }
            place++;
            return digit;
        }

        /** Returns 0 if there is no number; a digit by which it would be too great is left unread. */
        private int readNumber(int greatest) {
            int number = 0;
            for (int i = 0; i < MOST_CHARACTERS; i++) {
                int digit = digitOf(current());
                boolean zeroAhead = number == 0 && digit == 0;
                if (digit == NO_DIGIT || digit > 9 || zeroAhead || number * 10 + digit > greatest) {
                    return number;
                }
                number = number * 10 + digit;
                place++;
            }
            return number;
        }

        private int digitOf(int sign) {
            if (sign >= '0' && sign <= '9') {
                return sign - '0';
            }
            if (sign >= 'a' && sign <= 'f') {
                return sign - 'a' + 10;
            }
            return NO_DIGIT;
        }
    }
}
