/**
 * Slots in each of which one value is agreed on by voters. The numbered promises are in the document; the methods
 * here look at the history and the text, and leave the rules of ballots, promises and votes to State.
 */
public final class AgreedSlots {
    public static final int UNKNOWN = -1;
    public static final int BAD_VALUE = -2;
    public static final int FULL = -3;
    public static final int NOT_POSSIBLE = -4;
    public static final int NONE = -5;

    private static final int ACCEPTORS = 6;
    private static final int PROPOSERS = 3;
    private static final int SLOTS = 16;
    private static final int WINDOW = 3;
    private static final int ALL_ACCEPTORS = 63;
    private static final int VOTERS_AT_FIRST = 7;
    private static final int SECOND_AT_FIRST = 2;
    private static final int GREATEST_BALLOT = 999;
    private static final int GREATEST_WORD = 99;
    /** A value above this is a change of voters: this plus the set. */
    private static final int CHANGE = 100;
    /** An acceptor that refuses answers this plus what it has promised. */
    private static final int REFUSED = 100;
    /** A fault of a text is answered as this less its place. */
    private static final int FAULT = -100;
    private static final int NO_FAULT = -1;

    private final State now;
    private final State snapshot;
    private boolean kept;
    private final History history;
    private final Text text;
    private final Orders orders;
    private boolean refusedOnce;
    private int refusedOrder;
    private int refusedError;
    private int refusedPlace;

    public AgreedSlots() {
        now = new State();
        snapshot = new State();
        history = new History();
        text = new Text();
        orders = new Orders();
    }

    // ---- acceptors and quorums

    public int setUp(int acceptor, boolean up) {
        history.draft(now);
        return settled(now.turn(acceptor, up));
    }

    public int setSecond(int k) {
        history.draft(now);
        return settled(now.resizeSecond(k));
    }

    // ---- ballots

    public int prepare(int proposer) {
        history.draft(now);
        return settled(now.startBallot(proposer));
    }

    public int promise(int proposer, int acceptor) {
        history.draft(now);
        return settled(now.askPromise(proposer, acceptor));
    }

    public int propose(int proposer, int slot, int value) {
        history.draft(now);
        return settled(now.offerValue(proposer, slot, value));
    }

    public int vote(int proposer, int slot, int acceptor) {
        history.draft(now);
        return settled(now.askVote(proposer, slot, acceptor));
    }

    public int trim(int slot) {
        history.draft(now);
        return settled(now.forgetUpTo(slot));
    }

    // ---- texts

    public int type(char character) {
        return text.append(character);
    }

    public int clearText() {
        return text.empty();
    }

    public int perform() {
        int fault = orders.read(text);
        if (fault != NO_FAULT) {
            return FAULT - fault;
        }
        history.draft(now);
        for (int order = 0; order < orders.size; order++) {
            int answer = orders.carryOut(order, now);
            if (isError(answer)) {
                noteRefusal(order, answer);
                history.bringBackDraft(now);
                return NOT_POSSIBLE;
            }
        }
        history.commit();
        return orders.size;
    }

    public int refusal(int what) {
        if (what < 0 || what > 2) {
            return BAD_VALUE;
        }
        if (!refusedOnce) {
            return NONE;
        }
        switch (what) {
            case 0:
                return refusedOrder;
            case 1:
                return refusedError;
            default:
                return refusedPlace;
        }
    }

    // ---- history

    public int undo() {
        return history.bringBackLatest(now);
    }

    public int keep() {
        snapshot.copy(now);
        kept = true;
        return now.prefix();
    }

    public int restore() {
        if (!kept) {
            return NONE;
        }
        history.draft(now);
        now.copy(snapshot);
        return settled(now.prefix());
    }

    // ---- what is told

    public int acceptor(int acceptor, int what) {
        if (!isAcceptor(acceptor)) {
            return UNKNOWN;
        }
        switch (what) {
            case 0:
                return has(now.up, acceptor) ? 1 : 0;
            case 1:
                return now.promised[acceptor];
            case 2:
                return now.votesOf(acceptor, SLOTS);
            default:
                return BAD_VALUE;
        }
    }

    public int voted(int acceptor, int slot, int what) {
        if (!isAcceptor(acceptor) || !isSlot(slot)) {
            return UNKNOWN;
        }
        if (what < 0 || what > 1) {
            return BAD_VALUE;
        }
        int at = cell(acceptor, slot);
        if (now.voteBallot[at] == 0) {
            return NONE;
        }
        return what == 0 ? now.voteBallot[at] : now.voteValue[at];
    }

    public int proposer(int proposer, int what) {
        if (!isProposer(proposer)) {
            return UNKNOWN;
        }
        switch (what) {
            case 0:
                return now.ballot[proposer];
            case 1:
                return now.heard[proposer];
            case 2:
                return now.promisers[proposer];
            case 3:
                return now.offersOf(proposer);
            default:
                return BAD_VALUE;
        }
    }

    public int proposed(int proposer, int slot, int what) {
        if (!isProposer(proposer) || !isSlot(slot)) {
            return UNKNOWN;
        }
        switch (what) {
            case 0:
                return orNone(now.offered[cell(proposer, slot)]);
            case 1:
                return now.isOpen(slot) ? now.boundValue(proposer, slot) : NONE;
            case 2:
                return now.isOpen(slot) ? now.promisesMissing(proposer, slot) : NONE;
            default:
                return BAD_VALUE;
        }
    }

    public int slot(int slot, int what) {
        if (!isSlot(slot)) {
            return UNKNOWN;
        }
        switch (what) {
            case 0:
                return orNone(now.chosenValue[slot]);
            case 1:
                return orNone(now.chosenBallot[slot]);
            case 2:
                return now.isOpen(slot) ? now.votersOf(slot) : NONE;
            case 3:
                return now.isOpen(slot) ? now.firstSize(now.votersOf(slot)) : NONE;
            case 4:
                return now.isOpen(slot) ? now.secondSize(now.votersOf(slot)) : NONE;
            case 5:
                return slot <= now.trimmed ? 1 : 0;
            default:
                return BAD_VALUE;
        }
    }

    public int could(int slot, int ballot) {
        if (!isSlot(slot)) {
            return UNKNOWN;
        }
        if (ballot < 1 || ballot > GREATEST_BALLOT) {
            return BAD_VALUE;
        }
        if (slot <= now.trimmed || !now.isOpen(slot)) {
            return NOT_POSSIBLE;
        }
        return now.couldChoose(slot, ballot) ? 1 : 0;
    }

    public int witness(int voters, int first, int second, int which) {
        boolean voterSet = voters >= 1 && voters <= ALL_ACCEPTORS;
        if (!voterSet || !isSize(first) || !isSize(second) || which < 0 || which > 1) {
            return BAD_VALUE;
        }
        if (first + second > Integer.bitCount(voters)) {
            return NONE;
        }
        int firstSet = lowest(voters, first);
        return which == 0 ? firstSet : lowest(voters & ~firstSet, second);
    }

    public int count(int what) {
        switch (what) {
            case 0:
                return now.prefix();
            case 1:
                return now.chosenAbove(0);
            case 2:
                return now.trimmed;
            case 3:
                return now.second;
            case 4:
                return now.up;
            case 5:
                return Math.min(SLOTS, now.prefix() + WINDOW);
            case 6:
                return now.refusedPromises;
            case 7:
                return now.refusedVotes;
            case 8:
                return now.chosenAbove(CHANGE);
            case 9:
                return history.size;
            case 10:
                return text.length;
            default:
                return BAD_VALUE;
        }
    }

    // ---- what the methods above share

    /** Records the drafted state if the answer is that of an act which was done. */
    private int settled(int answer) {
        if (answer >= 0) {
            history.commit();
        }
        return answer;
    }

    private void noteRefusal(int order, int error) {
        refusedOnce = true;
        refusedOrder = order;
        refusedError = error;
        refusedPlace = orders.placeOf(order);
    }

    private static boolean isError(int answer) {
        return answer < 0 && answer != NONE;
    }

    private static boolean isAcceptor(int acceptor) {
        return acceptor >= 0 && acceptor < ACCEPTORS;
    }

    private static boolean isProposer(int proposer) {
        return proposer >= 0 && proposer < PROPOSERS;
    }

    private static boolean isSlot(int slot) {
        return slot >= 1 && slot <= SLOTS;
    }

    private static boolean isSize(int size) {
        return size >= 1 && size <= ACCEPTORS;
    }

    private static boolean isValue(int value) {
        boolean word = value >= 1 && value <= GREATEST_WORD;
        boolean change = value > CHANGE && value <= CHANGE + ALL_ACCEPTORS;
        return word || change;
    }

    private static boolean has(int set, int member) {
        return (set >> member & 1) == 1;
    }

    private static int orNone(int number) {
        return number == 0 ? NONE : number;
    }

    /** The place of a slot in an array that holds a row of slots for each acceptor, or for each proposer. */
    private static int cell(int row, int slot) {
        return row * SLOTS + slot - 1;
    }

    /** The lowest members of a set; as a number, no other part of the set with so many members is less. */
    private static int lowest(int set, int members) {
        int part = 0;
        int left = members;
        for (int member = 0; member < ACCEPTORS && left > 0; member++) {
            if (has(set, member)) {
                part |= 1 << member;
                left--;
            }
        }
        return part;
    }

    /** All that undo() and restore() bring back, and the rules by which it changes. 0 stands for none throughout. */
    private static final class State {
        int up = ALL_ACCEPTORS;
        int second = SECOND_AT_FIRST;
        int trimmed;
        int refusedPromises;
        int refusedVotes;
        final int[] promised = new int[ACCEPTORS];
        final int[] voteBallot = new int[ACCEPTORS * SLOTS];
        final int[] voteValue = new int[ACCEPTORS * SLOTS];
        final int[] ballot = new int[PROPOSERS];
        final int[] heard = new int[PROPOSERS];
        final int[] promisers = new int[PROPOSERS];
        final int[] offered = new int[PROPOSERS * SLOTS];
        // a row of slots for each acceptor of each proposer; it counts only while the acceptor is in promisers
        final int[] toldBallot = new int[PROPOSERS * ACCEPTORS * SLOTS];
        final int[] toldValue = new int[PROPOSERS * ACCEPTORS * SLOTS];
        final int[] chosenValue = new int[SLOTS + 1];
        final int[] chosenBallot = new int[SLOTS + 1];

        void copy(State from) {
            up = from.up;
            second = from.second;
            trimmed = from.trimmed;
            refusedPromises = from.refusedPromises;
            refusedVotes = from.refusedVotes;
            copyAll(from.promised, promised);
            copyAll(from.voteBallot, voteBallot);
            copyAll(from.voteValue, voteValue);
            copyAll(from.ballot, ballot);
            copyAll(from.heard, heard);
            copyAll(from.promisers, promisers);
            copyAll(from.offered, offered);
            copyAll(from.toldBallot, toldBallot);
            copyAll(from.toldValue, toldValue);
            copyAll(from.chosenValue, chosenValue);
            copyAll(from.chosenBallot, chosenBallot);
        }

        private static void copyAll(int[] from, int[] to) {
            System.arraycopy(from, 0, to, 0, Math.min(from.length, to.length));
        }

        // -- acts: each answers as the method of the face does, and changes nothing when it answers below 0

        int turn(int acceptor, boolean upThen) {
            if (!isAcceptor(acceptor)) {
                return UNKNOWN;
            }
            if (has(up, acceptor) == upThen) {
                return NONE;
            }
            up ^= 1 << acceptor;
            return Integer.bitCount(up);
        }

        int resizeSecond(int k) {
            if (!isSize(k)) {
                return BAD_VALUE;
            }
            if (anyBallot()) {
                return NOT_POSSIBLE;
            }
            if (second == k) {
                return NONE;
            }
            int previous = second;
            second = k;
            return previous;
        }

        int startBallot(int proposer) {
            if (!isProposer(proposer)) {
                return UNKNOWN;
            }
            int next = nextBallot(proposer);
            if (next > GREATEST_BALLOT) {
                return FULL;
            }
            ballot[proposer] = next;
            promisers[proposer] = 0;
            for (int slot = 1; slot <= SLOTS; slot++) {
                offered[cell(proposer, slot)] = 0;
            }
            return next;
        }

        int askPromise(int proposer, int acceptor) {
            if (!isProposer(proposer) || !isAcceptor(acceptor)) {
                return UNKNOWN;
            }
            if (ballot[proposer] == 0 || !has(up, acceptor)) {
                return NOT_POSSIBLE;
            }
            if (has(promisers[proposer], acceptor)) {
                return NONE;
            }
            if (ballot[proposer] <= promised[acceptor]) {
                refusedPromises++;
                return refuse(proposer, acceptor);
            }
            promised[acceptor] = ballot[proposer];
            promisers[proposer] |= 1 << acceptor;
            tellVotes(proposer, acceptor);
            return votesOf(acceptor, SLOTS);
        }

        int offerValue(int proposer, int slot, int value) {
            if (!isProposer(proposer) || !isSlot(slot)) {
                return UNKNOWN;
            }
            if (!isValue(value)) {
                return BAD_VALUE;
            }
            if (!mayOffer(proposer, slot)) {
                return NOT_POSSIBLE;
            }
            int bound = boundValue(proposer, slot);
            int taken = bound == 0 ? value : bound;
            offered[cell(proposer, slot)] = taken;
            return taken;
        }

        int askVote(int proposer, int slot, int acceptor) {
            if (!isProposer(proposer) || !isSlot(slot) || !isAcceptor(acceptor)) {
                return UNKNOWN;
            }
            if (!mayAskVote(proposer, slot, acceptor)) {
                return NOT_POSSIBLE;
            }
            int at = cell(acceptor, slot);
            if (voteBallot[at] == ballot[proposer]) {
                return NONE;
            }
            if (ballot[proposer] < promised[acceptor]) {
                refusedVotes++;
                return refuse(proposer, acceptor);
            }
            promised[acceptor] = ballot[proposer];
            voteBallot[at] = ballot[proposer];
            voteValue[at] = offered[cell(proposer, slot)];
            int votes = Integer.bitCount(votersFor(slot, ballot[proposer]));
            if (chosenValue[slot] == 0 && votes >= secondSize(votersOf(slot))) {
                chosenValue[slot] = voteValue[at];
                chosenBallot[slot] = ballot[proposer];
            }
            return votes;
        }

        int forgetUpTo(int slot) {
            if (!isSlot(slot)) {
                return UNKNOWN;
            }
            if (slot > prefix()) {
                return NOT_POSSIBLE;
            }
            if (slot <= trimmed) {
                return NONE;
            }
            int forgotten = 0;
            for (int acceptor = 0; acceptor < ACCEPTORS; acceptor++) {
                forgotten += votesOf(acceptor, slot);
                forgetVotes(acceptor, slot);
            }
            trimmed = slot;
            return forgotten;
        }

        // -- slots and quorums

        int prefix() {
            int last = 0;
            while (last < SLOTS && chosenValue[last + 1] != 0) {
                last++;
            }
            return last;
        }

        /** How many slots have a chosen value above a bound. */
        int chosenAbove(int bound) {
            int slots = 0;
            for (int slot = 1; slot <= SLOTS; slot++) {
                if (chosenValue[slot] > bound) {
                    slots++;
                }
            }
            return slots;
        }

        boolean isOpen(int slot) {
            return slot - WINDOW <= prefix();
        }

        int votersOf(int slot) {
            int voters = VOTERS_AT_FIRST;
            for (int earlier = 1; earlier <= SLOTS && earlier <= slot - WINDOW; earlier++) {
                if (chosenValue[earlier] > CHANGE) {
                    voters = chosenValue[earlier] - CHANGE;
                }
            }
            return voters;
        }

        int secondSize(int voters) {
            return Math.min(second, Integer.bitCount(voters));
        }

        int firstSize(int voters) {
            return Integer.bitCount(voters) + 1 - secondSize(voters);
        }

        /** The voters of a slot whose latest vote there is of a ballot. */
        private int votersFor(int slot, int ofBallot) {
            int voters = votersOf(slot);
            int set = 0;
            for (int acceptor = 0; acceptor < ACCEPTORS; acceptor++) {
                if (has(voters, acceptor) && voteBallot[cell(acceptor, slot)] == ofBallot) {
                    set |= 1 << acceptor;
                }
            }
            return set;
        }

        boolean couldChoose(int slot, int ofBallot) {
            int voters = votersOf(slot);
            int set = votersFor(slot, ofBallot);
            for (int acceptor = 0; acceptor < ACCEPTORS; acceptor++) {
                if (has(voters, acceptor) && promised[acceptor] <= ofBallot) {
                    set |= 1 << acceptor;
                }
            }
            return Integer.bitCount(set) >= secondSize(voters);
        }

        // -- acceptors

        /** How many votes an acceptor has for the slots up to one. */
        int votesOf(int acceptor, int upTo) {
            int votes = 0;
            for (int slot = 1; slot <= SLOTS && slot <= upTo; slot++) {
                if (voteBallot[cell(acceptor, slot)] != 0) {
                    votes++;
                }
            }
            return votes;
        }

        private void forgetVotes(int acceptor, int upTo) {
            for (int slot = 1; slot <= SLOTS && slot <= upTo; slot++) {
                voteBallot[cell(acceptor, slot)] = 0;
                voteValue[cell(acceptor, slot)] = 0;
            }
        }

        private int refuse(int proposer, int acceptor) {
            heard[proposer] = Math.max(heard[proposer], promised[acceptor]);
            return REFUSED + promised[acceptor];
        }

        private void tellVotes(int proposer, int acceptor) {
            int row = proposer * ACCEPTORS + acceptor;
            for (int slot = 1; slot <= SLOTS; slot++) {
                toldBallot[cell(row, slot)] = voteBallot[cell(acceptor, slot)];
                toldValue[cell(row, slot)] = voteValue[cell(acceptor, slot)];
            }
        }

        // -- proposers

        private boolean anyBallot() {
            for (int proposer = 0; proposer < PROPOSERS; proposer++) {
                if (ballot[proposer] != 0) {
                    return true;
                }
            }
            return false;
        }

        private int nextBallot(int proposer) {
            int above = Math.max(ballot[proposer], heard[proposer]);
            // the rounds whose ballots of this proposer are not above it
            int rounds = (above + PROPOSERS - 1 - proposer) / PROPOSERS;
            return PROPOSERS * rounds + proposer + 1;
        }

        int offersOf(int proposer) {
            int offers = 0;
            for (int slot = 1; slot <= SLOTS; slot++) {
                if (offered[cell(proposer, slot)] != 0) {
                    offers++;
                }
            }
            return offers;
        }

        int promisesMissing(int proposer, int slot) {
            int voters = votersOf(slot);
            return Math.max(0, firstSize(voters) - Integer.bitCount(promisers[proposer] & voters));
        }

        /** The value of the greatest vote that voters of the slot told to the proposer; 0 if none told one. */
        int boundValue(int proposer, int slot) {
            int tellers = promisers[proposer] & votersOf(slot);
            int greatest = 0;
            int value = 0;
            for (int acceptor = 0; acceptor < ACCEPTORS; acceptor++) {
                int at = cell(proposer * ACCEPTORS + acceptor, slot);
                if (has(tellers, acceptor) && toldBallot[at] > greatest) {
                    greatest = toldBallot[at];
                    value = toldValue[at];
                }
            }
            return value;
        }

        private boolean mayOffer(int proposer, int slot) {
            return ballot[proposer] != 0
                && slot > trimmed
                && isOpen(slot)
                && promisesMissing(proposer, slot) == 0
                && offered[cell(proposer, slot)] == 0;
        }

        private boolean mayAskVote(int proposer, int slot, int acceptor) {
            return offered[cell(proposer, slot)] != 0
                && slot > trimmed
                && has(up, acceptor)
                && has(votersOf(slot), acceptor);
        }
    }

    /** The latest states, in a ring with one row more than is kept: that of the state which may be recorded next. */
    private static final class History {
        private static final int MOST = 4;
        private static final int ROWS = MOST + 1;

        private final State[] rows = new State[ROWS];
        private int next;
        int size;

        History() {
            for (int row = 0; row < ROWS; row++) {
                rows[row] = new State();
            }
        }

        void draft(State state) {
            rows[next].copy(state);
        }

        void bringBackDraft(State state) {
            state.copy(rows[next]);
        }

        void commit() {
            next = (next + 1) % ROWS;
            size = Math.min(MOST, size + 1);
        }

        int bringBackLatest(State state) {
            if (size == 0) {
                return NONE;
            }
            next = (next + ROWS - 1) % ROWS;
            size--;
            state.copy(rows[next]);
            return size;
        }
    }

    /** The characters that were typed. */
    private static final class Text {
        private static final int MOST = 60;

        private final char[] signs = new char[MOST];
        int length;

        int append(char sign) {
            if (length >= MOST) {
                return FULL;
            }
            signs[length] = sign;
            length++;
            return length;
        }

        int empty() {
            int before = length;
            length = 0;
            return before;
        }

        /** The character at a place; behind the end one that is allowed nowhere. */
        int signAt(int place) {
            return place >= 0 && place < length ? signs[place] : 0;
        }
    }

    /** The orders of a text that has no fault, or the place of its first fault. */
    private static final class Orders {
        /** An order has two characters or more, and a ";" ahead of the next one: 60 characters hold no more. */
        private static final int MOST = 20;
        private static final int NUMBERS = 3;
        private static final int MOST_DIGITS = 3;

        private final int[] letters = new int[MOST];
        private final int[] places = new int[MOST];
        private final int[] numbers = new int[MOST * NUMBERS];
        private int at;
        private int told;
        int size;

        /** Reads the whole text and answers its fault, or NO_FAULT. */
        int read(Text text) {
            at = 0;
            size = 0;
            for (int order = 0; order < MOST; order++) {
                if (!readOrder(text)) {
                    return at;
                }
                if (at == text.length) {
                    return NO_FAULT;
                }
                if (text.signAt(at) != ';') {
                    return at;
                }
                at++;
            }
            // behind so many orders and a ";" the text has no room for one more
            return at;
        }

        int placeOf(int order) {
            return order >= 0 && order < size ? places[order] : 0;
        }

        int carryOut(int order, State state) {
            if (order < 0 || order >= size) {
                return NONE;
            }
            int first = numbers[order * NUMBERS];
            int middle = numbers[order * NUMBERS + 1];
            int last = numbers[order * NUMBERS + 2];
            switch (letters[order]) {
                case 'n':
                    return state.startBallot(first);
                case 'y':
                    return state.askPromise(first, middle);
                case 'v':
                    return state.offerValue(first, middle, last);
                case 'a':
                    return state.askVote(first, middle, last);
                default:
                    return state.turn(first, letters[order] == 'u');
            }
        }

        /** What stands behind the letter of an order: a proposer, an acceptor, a longer number, a comma. */
        private static String partsOf(int letter) {
            switch (letter) {
                case 'n':
                    return "p";
                case 'y':
                    return "p,a";
                case 'v':
                    return "p,#,#";
                case 'a':
                    return "p,#,a";
                case 'd':
                case 'u':
                    return "a";
                default:
                    return "";
            }
        }

        /** Reads one order; where it answers false, the place is that of the fault. */
        private boolean readOrder(Text text) {
            int letter = text.signAt(at);
            String parts = partsOf(letter);
            if (parts.isEmpty() || size >= MOST) {
                return false;
            }
            letters[size] = letter;
            places[size] = at;
            at++;
            told = 0;
            for (int part = 0; part < parts.length(); part++) {
                if (!readPart(text, parts.charAt(part))) {
                    return false;
                }
            }
            size++;
            return true;
        }

        private boolean readPart(Text text, int part) {
            switch (part) {
                case 'p':
                    return readDigit(text, PROPOSERS);
                case 'a':
                    return readDigit(text, ACCEPTORS);
                case '#':
                    return readNumber(text);
                default:
                    return readComma(text);
            }
        }

        private boolean readComma(Text text) {
            if (text.signAt(at) != ',') {
                return false;
            }
            at++;
            return true;
        }

        private boolean readDigit(Text text, int below) {
            int digit = text.signAt(at) - '0';
            if (digit < 0 || digit >= below) {
                return false;
            }
            at++;
            tell(digit);
            return true;
        }

        private boolean readNumber(Text text) {
            if (text.signAt(at) == '0') {
                return false;
            }
            int number = 0;
            int digits = 0;
            while (digits < MOST_DIGITS && isDigit(text.signAt(at))) {
                number = number * 10 + (text.signAt(at) - '0');
                at++;
                digits++;
            }
            if (digits == 0) {
                return false;
            }
            tell(number);
            return true;
        }

        private static boolean isDigit(int sign) {
            return sign >= '0' && sign <= '9';
        }

        private void tell(int number) {
            if (told < NUMBERS && size < MOST) {
                numbers[size * NUMBERS + told] = number;
                told++;
            }
        }
    }
}
