/** Promises 18 to 23: proposer, proposed, slot, could, witness, count. */
public final class ToldTest {
    public static void main(String[] args) {
        Due due = new Due("promises 18 to 23");
        proposer(due);
        proposed(due);
        slot(due);
        could(due);
        couldByLatestVotes(due);
        witness(due);
        witnessIsTheLowest(due);
        count(due);
        due.end();
    }

    private static void proposer(Due due) {
        AgreedSlots x = Steps.chosenUpTo(2);
        due.is("proposer(0, 0)", x.proposer(0, 0), 1);
        due.is("proposer(0, 1)", x.proposer(0, 1), 0);
        due.is("proposer(0, 2)", x.proposer(0, 2), 7);
        due.is("proposer(0, 3)", x.proposer(0, 3), 2);
        due.is("proposer(2, 4)", x.proposer(2, 4), Steps.BAD_VALUE);
        due.is("proposer(3, 4)", x.proposer(3, 4), Steps.UNKNOWN);
        for (int bad : Steps.HOSTILE) {
            due.is("proposer(" + bad + ", 0)", x.proposer(bad, 0), Steps.UNKNOWN);
            due.is("proposer(0, " + bad + ")", x.proposer(0, bad), Steps.BAD_VALUE);
        }
    }

    private static void proposed(Due due) {
        AgreedSlots x = new AgreedSlots();
        due.is("missing without a ballot", x.proposed(0, 1, 2), 2);
        due.is("free without a ballot", x.proposed(0, 1, 1), 0);
        due.is("nothing proposed", x.proposed(0, 1, 0), Steps.NONE);
        due.is("not open", x.proposed(0, 4, 0), Steps.NONE);
        due.is("not open", x.proposed(0, 4, 1), Steps.NONE);
        due.is("not open", x.proposed(0, 4, 2), Steps.NONE);
        Steps.lead(x, 0, 57);
        due.is("missing", x.proposed(0, 1, 2), 1);
        x.promise(0, 1);
        due.is("missing", x.proposed(0, 1, 2), 0);
        x.promise(0, 2);
        due.is("never below 0", x.proposed(0, 1, 2), 0);
        x.propose(0, 3, 9);
        due.is("proposed(0, 3, 0)", x.proposed(0, 3, 0), 9);
        due.is("proposed(1, 3, 0)", x.proposed(1, 3, 0), Steps.NONE);
        due.is("proposed(3, 1, 3)", x.proposed(3, 1, 3), Steps.UNKNOWN);
        due.is("proposed(0, 0, 3)", x.proposed(0, 0, 3), Steps.UNKNOWN);
        due.is("proposed(0, 17, 3)", x.proposed(0, 17, 3), Steps.UNKNOWN);
        due.is("proposed(0, 16, 3)", x.proposed(0, 16, 3), Steps.BAD_VALUE);
        for (int bad : Steps.HOSTILE) {
            due.is("proposed(" + bad + ", 1, 0)", x.proposed(bad, 1, 0), Steps.UNKNOWN);
            due.is("proposed(0, " + bad + ", 0)", x.proposed(0, bad, 0), Steps.UNKNOWN);
            due.is("proposed(0, 1, " + bad + ")", x.proposed(0, 1, bad), Steps.BAD_VALUE);
        }
    }

    private static void slot(Due due) {
        AgreedSlots x = Steps.chosenUpTo(3);
        due.is("slot(3, 0)", x.slot(3, 0), 3);
        due.is("slot(3, 1)", x.slot(3, 1), 1);
        due.is("slot(4, 0)", x.slot(4, 0), Steps.NONE);
        due.is("slot(4, 1)", x.slot(4, 1), Steps.NONE);
        due.is("slot(6, 2)", x.slot(6, 2), 7);
        due.is("slot(7, 2)", x.slot(7, 2), Steps.NONE);
        due.is("slot(7, 3)", x.slot(7, 3), Steps.NONE);
        due.is("slot(7, 4)", x.slot(7, 4), Steps.NONE);
        due.is("slot(7, 5)", x.slot(7, 5), 0);
        x.trim(1);
        due.is("slot(1, 2) of a trimmed slot", x.slot(1, 2), 7);
        due.is("slot(1, 5)", x.slot(1, 5), 1);
        due.is("slot(7, 6)", x.slot(7, 6), Steps.BAD_VALUE);
        due.is("slot(0, 6)", x.slot(0, 6), Steps.UNKNOWN);
        due.is("slot(17, 6)", x.slot(17, 6), Steps.UNKNOWN);
        for (int bad : Steps.HOSTILE) {
            due.is("slot(" + bad + ", 0)", x.slot(bad, 0), Steps.UNKNOWN);
            due.is("slot(1, " + bad + ")", x.slot(1, bad), Steps.BAD_VALUE);
        }
    }

    private static void could(Due due) {
        AgreedSlots x = new AgreedSlots();
        due.is("could(1, 1)", x.could(1, 1), 1);
        due.is("could(3, 999)", x.could(3, 999), 1);
        due.is("could(4, 1)", x.could(4, 1), Steps.NOT_POSSIBLE);
        due.is("could(4, 0)", x.could(4, 0), Steps.BAD_VALUE);
        due.is("could(4, 1000)", x.could(4, 1000), Steps.BAD_VALUE);
        due.is("could(17, 1000)", x.could(17, 1000), Steps.UNKNOWN);
        due.is("could(0, 0)", x.could(0, 0), Steps.UNKNOWN);
        for (int bad : Steps.HOSTILE) {
            due.is("could(" + bad + ", 1)", x.could(bad, 1), Steps.UNKNOWN);
            due.is("could(1, " + bad + ")", x.could(1, bad), Steps.BAD_VALUE);
        }
        Steps.lead(x, 1, 2);
        due.is("one has promised more", x.could(1, 1), 1);
        x.promise(1, 5);
        due.is("5 is no voter", x.could(1, 1), 1);
        x.promise(1, 2);
        due.is("two have promised more", x.could(1, 1), 0);
        due.is("but no more than 2", x.could(1, 2), 1);
        x.setUp(0, false);
        x.setUp(1, false);
        due.is("down ones count", x.could(1, 2), 1);
        AgreedSlots y = Steps.chosenUpTo(2);
        y.trim(1);
        due.is("trimmed", y.could(1, 1), Steps.NOT_POSSIBLE);
        due.is("not trimmed", y.could(2, 1), 1);
        due.is("open", y.could(5, 1), 1);
        due.is("not open", y.could(6, 1), Steps.NOT_POSSIBLE);
    }

    private static void couldByLatestVotes(Due due) {
        AgreedSlots x = new AgreedSlots();
        Steps.lead(x, 0, 3);
        x.propose(0, 1, 7);
        x.vote(0, 1, 0);
        x.vote(0, 1, 1);
        Steps.lead(x, 1, 7);
        due.is("two votes of ballot 1", x.could(1, 1), 1);
        due.is("none there", x.could(2, 1), 0);
        x.propose(1, 1, 9);
        x.vote(1, 1, 1);
        due.is("one latest vote of ballot 1", x.could(1, 1), 0);
        due.is("ballot 2", x.could(1, 2), 1);
        due.is("a ballot between votes and promises", x.could(1, 3), 1);
        AgreedSlots z = new AgreedSlots();
        Steps.lead(z, 0, 3);
        z.propose(0, 1, 7);
        z.vote(0, 1, 0);
        Steps.lead(z, 1, 6);
        due.is("a voter counts once, by its vote and its promise", z.could(1, 1), 0);
        AgreedSlots y = new AgreedSlots();
        Steps.lead(y, 0, 3);
        y.propose(0, 1, 7);
        y.vote(0, 1, 0);
        Steps.lead(y, 1, 3);
        due.is("one by its vote, one by its promise", y.could(1, 1), 1);
        y.promise(1, 2);
        due.is("one by its vote alone", y.could(1, 1), 0);
    }

    private static void witness(Due due) {
        AgreedSlots x = new AgreedSlots();
        due.is("witness(63, 3, 3, 0)", x.witness(63, 3, 3, 0), 7);
        due.is("witness(63, 3, 3, 1)", x.witness(63, 3, 3, 1), 56);
        due.is("witness(63, 1, 1, 1)", x.witness(63, 1, 1, 1), 2);
        due.is("witness(42, 1, 2, 0)", x.witness(42, 1, 2, 0), 2);
        due.is("witness(42, 1, 2, 1)", x.witness(42, 1, 2, 1), 40);
        due.is("witness(42, 2, 2, 0)", x.witness(42, 2, 2, 0), Steps.NONE);
        due.is("witness(1, 1, 1, 0)", x.witness(1, 1, 1, 0), Steps.NONE);
        due.is("witness(63, 6, 1, 1)", x.witness(63, 6, 1, 1), Steps.NONE);
        due.is("witness(64, 1, 1, 0)", x.witness(64, 1, 1, 0), Steps.BAD_VALUE);
        due.is("witness(0, 1, 1, 0)", x.witness(0, 1, 1, 0), Steps.BAD_VALUE);
        due.is("witness(63, 0, 1, 0)", x.witness(63, 0, 1, 0), Steps.BAD_VALUE);
        due.is("witness(63, 7, 1, 0)", x.witness(63, 7, 1, 0), Steps.BAD_VALUE);
        due.is("witness(63, 1, 0, 0)", x.witness(63, 1, 0, 0), Steps.BAD_VALUE);
        due.is("witness(63, 1, 7, 0)", x.witness(63, 1, 7, 0), Steps.BAD_VALUE);
        due.is("witness(63, 1, 1, 2)", x.witness(63, 1, 1, 2), Steps.BAD_VALUE);
        due.is("witness(63, 6, 6, 2)", x.witness(63, 6, 6, 2), Steps.BAD_VALUE);
        for (int bad : Steps.HOSTILE) {
            due.is("witness(" + bad + ", 1, 1, 0)", x.witness(bad, 1, 1, 0), Steps.BAD_VALUE);
            due.is("witness(63, " + bad + ", 1, 0)", x.witness(63, bad, 1, 0), Steps.BAD_VALUE);
            due.is("witness(63, 1, " + bad + ", 0)", x.witness(63, 1, bad, 0), Steps.BAD_VALUE);
            due.is("witness(63, 1, 1, " + bad + ")", x.witness(63, 1, 1, bad), Steps.BAD_VALUE);
        }
    }

    private static void witnessIsTheLowest(Due due) {
        AgreedSlots x = new AgreedSlots();
        for (int voters = 1; voters <= 63; voters++) {
            for (int sizes = 0; sizes < 72; sizes++) {
                int[] n = {voters, sizes / 12 + 1, sizes / 2 % 6 + 1, sizes % 2};
                due.is("lowest", Call.WITNESS, n, Call.WITNESS.on(x, n), Model.witness(n[0], n[1], n[2], n[3]));
            }
        }
    }

    private static void count(Due due) {
        AgreedSlots x = new AgreedSlots();
        x.setSecond(1);
        Steps.lead(x, 0, 7);
        Steps.choose(x, 0, 1, 107, 1);
        Steps.choose(x, 0, 3, 99, 2);
        x.prepare(1);
        x.setUp(3, false);
        x.type('n');
        x.type('n');
        int[] counts = {1, 2, 0, 1, 55, 4, 0, 0, 1, 4, 2};
        for (int what = 0; what < counts.length; what++) {
            due.is("count(" + what + ")", x.count(what), counts[what]);
        }
        x.trim(1);
        due.is("count(1) with a trimmed slot", x.count(1), 2);
        due.is("count(2)", x.count(2), 1);
        due.is("count(8) with a trimmed slot", x.count(8), 1);
        due.is("count(11)", x.count(11), Steps.BAD_VALUE);
        due.is("count(-1)", x.count(-1), Steps.BAD_VALUE);
        for (int bad : Steps.HOSTILE) {
            due.is("count(" + bad + ")", x.count(bad), Steps.BAD_VALUE);
        }
        due.is("a slot of the value 1 is chosen", Steps.chosenUpTo(1).count(1), 1);
        int[] open = {3, 4, 5, 6, 7, 8, 9, 10, 11, 12, 13, 14, 15, 16, 16, 16, 16};
        for (int last = 0; last <= 16; last++) {
            AgreedSlots y = Steps.chosenUpTo(last);
            due.is("count(0) with " + last, y.count(0), last);
            due.is("count(5) with " + last, y.count(5), open[last]);
        }
    }
}
