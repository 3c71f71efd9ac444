/** Runs of calls that many tests begin with. */
final class Steps {
    static final int UNKNOWN = AgreedSlots.UNKNOWN;
    static final int BAD_VALUE = AgreedSlots.BAD_VALUE;
    static final int FULL = AgreedSlots.FULL;
    static final int NOT_POSSIBLE = AgreedSlots.NOT_POSSIBLE;
    static final int NONE = AgreedSlots.NONE;
    static final int[] HOSTILE = {Integer.MIN_VALUE, Integer.MIN_VALUE + 1, -1000, -33, -1, 1000, 65536,
        Integer.MAX_VALUE - 1, Integer.MAX_VALUE};

    private Steps() {
    }

    static void write(AgreedSlots x, String text) {
        x.clearText();
        for (int i = 0; i < text.length(); i++) {
            x.type(text.charAt(i));
        }
    }

    static int perform(AgreedSlots x, String text) {
        write(x, text);
        return x.perform();
    }

    /** Lets a proposer prepare and have the promises of all acceptors that are in the set. */
    static int lead(AgreedSlots x, int proposer, int acceptors) {
        int ballot = x.prepare(proposer);
        for (int a = 0; a < 6; a++) {
            if ((acceptors >> a & 1) == 1) {
                x.promise(proposer, a);
            }
        }
        return ballot;
    }

    /** Lets a proposer that leads propose, and asks votes of the set. */
    static int choose(AgreedSlots x, int proposer, int slot, int value, int acceptors) {
        x.propose(proposer, slot, value);
        for (int a = 0; a < 6; a++) {
            if ((acceptors >> a & 1) == 1) {
                x.vote(proposer, slot, a);
            }
        }
        return x.slot(slot, 0);
    }

    /** Lets a proposer prepare until it has a ballot, by texts of twenty orders where that is far. */
    static void prepareUpTo(AgreedSlots x, int proposer, int ballot) {
        String twenty = (";n" + proposer).repeat(20).substring(1);
        write(x, twenty);
        while (x.proposer(proposer, 0) + 60 <= ballot && x.perform() == 20) {
            continue;
        }
        while (x.proposer(proposer, 0) < ballot && x.prepare(proposer) > 0) {
            continue;
        }
    }

    /** An object whose slots up to one are chosen, with values 1, 2 and so on, by the proposer 0. */
    static AgreedSlots chosenUpTo(int last) {
        AgreedSlots x = new AgreedSlots();
        lead(x, 0, 7);
        for (int slot = 1; slot <= last; slot++) {
            choose(x, 0, slot, slot, 3);
        }
        return x;
    }

    /** All that an object tells, but for the text, the history and the refusal. */
    static String picture(AgreedSlots x) {
        StringBuilder all = new StringBuilder();
        for (int what = 0; what <= 8; what++) {
            add(all, x.count(what));
        }
        for (int a = 0; a < 6; a++) {
            for (int what = 0; what <= 2; what++) {
                add(all, x.acceptor(a, what));
            }
            for (int slot = 1; slot <= 16; slot++) {
                add(all, x.voted(a, slot, 0));
                add(all, x.voted(a, slot, 1));
            }
        }
        for (int p = 0; p < 3; p++) {
            for (int what = 0; what <= 3; what++) {
                add(all, x.proposer(p, what));
            }
            for (int slot = 1; slot <= 16; slot++) {
                for (int what = 0; what <= 2; what++) {
                    add(all, x.proposed(p, slot, what));
                }
            }
        }
        for (int slot = 1; slot <= 16; slot++) {
            for (int what = 0; what <= 5; what++) {
                add(all, x.slot(slot, what));
            }
            for (int ballot = 1; ballot <= 12; ballot++) {
                add(all, x.could(slot, ballot));
            }
        }
        return all.toString();
    }

    private static void add(StringBuilder all, int number) {
        all.append(number).append(' ');
    }
}
