/** The methods of the face, to be called by tables of arguments. */
enum Call {
    SET_UP("setUp", true, Range.ACCEPTOR, Range.FLAG),
    SET_SECOND("setSecond", true, Range.SIZE),
    PREPARE("prepare", true, Range.PROPOSER),
    PROMISE("promise", true, Range.PROPOSER, Range.ACCEPTOR),
    PROPOSE("propose", true, Range.PROPOSER, Range.SLOT, Range.VALUE),
    VOTE("vote", true, Range.PROPOSER, Range.SLOT, Range.ACCEPTOR),
    TRIM("trim", true, Range.SLOT),
    PERFORM("perform", true),
    RESTORE("restore", true),
    TYPE("type", false, Range.CHARACTER),
    CLEAR_TEXT("clearText", false),
    REFUSAL("refusal", false, Range.TO_2),
    UNDO("undo", false),
    KEEP("keep", false),
    ACCEPTOR("acceptor", false, Range.ACCEPTOR, Range.TO_2),
    VOTED("voted", false, Range.ACCEPTOR, Range.SLOT, Range.TO_1),
    PROPOSER("proposer", false, Range.PROPOSER, Range.TO_3),
    PROPOSED("proposed", false, Range.PROPOSER, Range.SLOT, Range.TO_2),
    SLOT("slot", false, Range.SLOT, Range.TO_5),
    COULD("could", false, Range.SLOT, Range.BALLOT),
    WITNESS("witness", false, Range.VOTERS, Range.SIZE, Range.SIZE, Range.TO_1),
    COUNT("count", false, Range.TO_10);

    final String name;
    final boolean act;
    final Range[] ranges;

    Call(String name, boolean act, Range... ranges) {
        this.name = name;
        this.act = act;
        this.ranges = ranges;
    }

    /** Whether the document tells of no change by this call, whatever it answers. */
    boolean tells() {
        return !act && this != TYPE && this != CLEAR_TEXT && this != UNDO && this != KEEP;
    }

    /** Whether it returned an error or NONE. */
    static boolean refused(int answer) {
        return answer < 0;
    }

    int on(AgreedSlots x, int... n) {
        return switch (this) {
            case SET_UP -> x.setUp(n[0], n[1] == 1);
            case SET_SECOND -> x.setSecond(n[0]);
            case PREPARE -> x.prepare(n[0]);
            case PROMISE -> x.promise(n[0], n[1]);
            case PROPOSE -> x.propose(n[0], n[1], n[2]);
            case VOTE -> x.vote(n[0], n[1], n[2]);
            case TRIM -> x.trim(n[0]);
            case PERFORM -> x.perform();
            case RESTORE -> x.restore();
            case TYPE -> x.type((char) n[0]);
            case CLEAR_TEXT -> x.clearText();
            case REFUSAL -> x.refusal(n[0]);
            case UNDO -> x.undo();
            case KEEP -> x.keep();
            case ACCEPTOR -> x.acceptor(n[0], n[1]);
            case VOTED -> x.voted(n[0], n[1], n[2]);
            case PROPOSER -> x.proposer(n[0], n[1]);
            case PROPOSED -> x.proposed(n[0], n[1], n[2]);
            case SLOT -> x.slot(n[0], n[1]);
            case COULD -> x.could(n[0], n[1]);
            case WITNESS -> x.witness(n[0], n[1], n[2], n[3]);
            case COUNT -> x.count(n[0]);
        };
    }

    String form(int... n) {
        StringBuilder form = new StringBuilder(name).append('(');
        for (int i = 0; i < ranges.length; i++) {
            form.append(i > 0 ? ", " : "").append(n[i]);
        }
        return form.append(')').toString();
    }

    /** How many rows of arguments there are when each argument has so many numbers. */
    static int rows(int[][] numbers) {
        int rows = 1;
        for (int[] column : numbers) {
            rows *= column.length;
        }
        return rows;
    }

    static int[] row(int[][] numbers, int row) {
        int[] n = new int[numbers.length];
        int rest = row;
        for (int i = 0; i < numbers.length; i++) {
            n[i] = numbers[i][rest % numbers[i].length];
            rest /= numbers[i].length;
        }
        return n;
    }
}
