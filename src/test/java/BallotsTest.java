/** Promises 4 to 8: prepare, promise, propose, vote, trim. */
public final class BallotsTest {
    public static void main(String[] args) {
        Due due = new Due("promises 4 to 8");
        prepare(due);
        preparingForgets(due);
        ballotsEnd(due);
        promise(due);
        promiseAfterVoteAlone(due);
        heardIsTheGreatest(due);
        propose(due);
        proposeTakesOver(due);
        greatestIsTakenOverInAnyOrder(due);
        toldVotesStayAsTheyWere(due);
        lastSlot(due);
        onlyVotersTell(due);
        windowAndChanges(due);
        vote(due);
        voteWithoutPromise(due);
        voteAfterGreaterVote(due);
        choosing(due);
        trim(due);
        due.end();
    }

    private static void prepare(Due due) {
        AgreedSlots x = new AgreedSlots();
        due.is("prepare(0)", x.prepare(0), 1);
        due.is("prepare(1)", x.prepare(1), 2);
        due.is("prepare(2)", x.prepare(2), 3);
        due.is("prepare(0)", x.prepare(0), 4);
        due.is("prepare(0)", x.prepare(0), 7);
        due.is("acts", x.count(9), 4);
        due.is("prepare(3)", x.prepare(3), Steps.UNKNOWN);
        for (int bad : Steps.HOSTILE) {
            due.is("prepare(" + bad + ")", x.prepare(bad), Steps.UNKNOWN);
        }
        x.promise(0, 0);
        due.is("1 hears of 7", x.promise(1, 0), 107);
        due.is("2 hears of 7", x.promise(2, 0), 107);
        due.is("prepare(1)", x.prepare(1), 8);
        due.is("prepare(2)", x.prepare(2), 9);
        due.is("what was heard stays", x.proposer(1, 1), 7);
        x.promise(2, 0);
        due.is("0 hears of 9", x.vote(0, 1, 0), Steps.NOT_POSSIBLE);
        due.is("0 has not heard of 9", x.proposer(0, 1), 0);
        due.is("prepare(0)", x.prepare(0), 10);
    }

    private static void preparingForgets(Due due) {
        AgreedSlots x = Steps.chosenUpTo(1);
        due.is("promises", x.proposer(0, 2), 7);
        due.is("values", x.proposer(0, 3), 1);
        x.prepare(0);
        due.is("promises forgotten", x.proposer(0, 2), 0);
        due.is("values forgotten", x.proposer(0, 3), 0);
        due.is("the value forgotten", x.proposed(0, 1, 0), Steps.NONE);
        due.is("told votes forgotten", x.proposed(0, 1, 1), 0);
        due.is("quorum away", x.proposed(0, 1, 2), 2);
        due.is("vote not possible", x.vote(0, 1, 2), Steps.NOT_POSSIBLE);
        due.is("a promise of the new ballot", x.promise(0, 0), 1);
        due.is("told again", x.proposed(0, 1, 1), 1);
        x.prepare(0);
        x.promise(0, 2);
        due.is("only what 2 told counts", x.proposed(0, 1, 1), 0);
        due.is("the other proposers keep theirs", x.proposer(0, 2), 4);
    }

    private static void ballotsEnd(Due due) {
        AgreedSlots x = new AgreedSlots();
        String twenty = "n0;n0;n0;n0;n0;n0;n0;n0;n0;n0;n0;n0;n0;n0;n0;n0;n0;n0;n0;n0";
        Steps.write(x, twenty);
        for (int i = 0; i < 16; i++) {
            due.is("perform()", x.perform(), 20);
        }
        for (int i = 0; i < 12; i++) {
            x.prepare(0);
        }
        due.is("ballot", x.proposer(0, 0), 994);
        due.is("perform() of too many", x.perform(), Steps.NOT_POSSIBLE);
        due.is("refusal(0)", x.refusal(0), 1);
        due.is("refusal(1)", x.refusal(1), Steps.FULL);
        due.is("ballot stays", x.proposer(0, 0), 994);
        due.is("prepare(0)", x.prepare(0), 997);
        due.is("prepare(0)", x.prepare(0), Steps.FULL);
        due.is("ballot stays", x.proposer(0, 0), 997);
        x.promise(0, 0);
        x.prepare(2);
        due.is("2 hears of 997", x.promise(2, 0), 1097);
        due.is("prepare(2)", x.prepare(2), 999);
        due.is("prepare(2)", x.prepare(2), Steps.FULL);
        due.is("promise(2, 0)", x.promise(2, 0), 0);
        x.prepare(1);
        due.is("1 hears of 999", x.promise(1, 0), 1099);
        due.is("prepare(1)", x.prepare(1), Steps.FULL);
        due.is("could(1, 999)", x.could(1, 999), 1);
    }

    private static void promise(Due due) {
        AgreedSlots x = new AgreedSlots();
        due.is("without a ballot", x.promise(0, 0), Steps.NOT_POSSIBLE);
        due.is("promise(3, 0)", x.promise(3, 0), Steps.UNKNOWN);
        due.is("promise(0, 6)", x.promise(0, 6), Steps.UNKNOWN);
        for (int bad : Steps.HOSTILE) {
            due.is("promise(" + bad + ", 0)", x.promise(bad, 0), Steps.UNKNOWN);
            due.is("promise(0, " + bad + ")", x.promise(0, bad), Steps.UNKNOWN);
        }
        x.prepare(0);
        x.setUp(1, false);
        due.is("one that is down", x.promise(0, 1), Steps.NOT_POSSIBLE);
        due.is("promise(0, 0)", x.promise(0, 0), 0);
        due.is("promise(0, 0) again", x.promise(0, 0), Steps.NONE);
        due.is("promise(0, 5), no voter", x.promise(0, 5), 0);
        due.is("proposer(0, 2)", x.proposer(0, 2), 33);
        x.setUp(0, false);
        due.is("promise(0, 0), down then", x.promise(0, 0), Steps.NOT_POSSIBLE);
        x.setUp(0, true);
        x.prepare(1);
        due.is("promise(1, 0)", x.promise(1, 0), 0);
        due.is("promise(0, 0), given already", x.promise(0, 0), Steps.NONE);
        due.is("no refusal", x.count(6), 0);
        due.is("acceptor(0, 1)", x.acceptor(0, 1), 2);
        x.promise(1, 2);
        int acts = x.count(9);
        due.is("promise(0, 2)", x.promise(0, 2), 102);
        due.is("promises refused", x.count(6), 1);
        due.is("votes refused", x.count(7), 0);
        due.is("heard", x.proposer(0, 1), 2);
        due.is("refused again", x.promise(0, 2), 102);
        due.is("promises refused", x.count(6), 2);
        due.is("the mask stays", x.proposer(0, 2), 33);
        due.is("the history is full", acts, 4);
        due.is("undo()", x.undo(), 3);
        due.is("a refused promise is an act", x.count(6), 1);
    }

    private static void promiseAfterVoteAlone(Due due) {
        AgreedSlots x = new AgreedSlots();
        Steps.lead(x, 0, 3);
        x.propose(0, 1, 5);
        due.is("vote without a promise", x.vote(0, 1, 2), 1);
        due.is("it is a promise of the acceptor", x.acceptor(2, 1), 1);
        due.is("the proposer does not count it", x.proposer(0, 2), 3);
        due.is("promise(0, 2) is refused", x.promise(0, 2), 101);
        due.is("it hears of its own ballot", x.proposer(0, 1), 1);
        due.is("promises refused", x.count(6), 1);
        due.is("prepare(0)", x.prepare(0), 4);
    }

    private static void heardIsTheGreatest(Due due) {
        AgreedSlots x = new AgreedSlots();
        Steps.lead(x, 1, 1);
        Steps.lead(x, 2, 2);
        x.prepare(0);
        due.is("promise(0, 1)", x.promise(0, 1), 103);
        due.is("promise(0, 0)", x.promise(0, 0), 102);
        due.is("the greatest stays", x.proposer(0, 1), 3);
        due.is("prepare(0)", x.prepare(0), 4);
    }

    private static void propose(Due due) {
        AgreedSlots x = new AgreedSlots();
        due.is("without a ballot", x.propose(0, 1, 5), Steps.NOT_POSSIBLE);
        x.setSecond(3);
        x.prepare(0);
        due.is("without a quorum", x.propose(0, 1, 5), Steps.NOT_POSSIBLE);
        x.promise(0, 3);
        due.is("3 is no voter", x.propose(0, 1, 5), Steps.NOT_POSSIBLE);
        x.promise(0, 2);
        due.is("propose(0, 1, 163)", x.propose(0, 1, 163), 163);
        due.is("propose(0, 2, 99)", x.propose(0, 2, 99), 99);
        due.is("propose(0, 2, 99) again", x.propose(0, 2, 99), Steps.NOT_POSSIBLE);
        due.is("propose(0, 3, 101)", x.propose(0, 3, 101), 101);
        due.is("not open", x.propose(0, 4, 1), Steps.NOT_POSSIBLE);
        due.is("proposer(0, 3)", x.proposer(0, 3), 3);
        int[] badValues = {0, 100, 164, -5};
        for (int bad : badValues) {
            due.is("propose(0, 1, " + bad + ")", x.propose(0, 1, bad), Steps.BAD_VALUE);
        }
        due.is("propose(3, 1, 0)", x.propose(3, 1, 0), Steps.UNKNOWN);
        due.is("propose(0, 0, 0)", x.propose(0, 0, 0), Steps.UNKNOWN);
        due.is("propose(0, 17, 0)", x.propose(0, 17, 0), Steps.UNKNOWN);
        for (int bad : Steps.HOSTILE) {
            due.is("propose(" + bad + ", 1, 1)", x.propose(bad, 1, 1), Steps.UNKNOWN);
            due.is("propose(0, " + bad + ", 1)", x.propose(0, bad, 1), Steps.UNKNOWN);
            due.is("propose(0, 1, " + bad + ")", x.propose(0, 1, bad), Steps.BAD_VALUE);
        }
        Steps.lead(x, 1, 7);
        due.is("the first ballot may still propose where it has not", x.proposed(0, 1, 2), 0);
        AgreedSlots y = new AgreedSlots();
        Steps.lead(y, 0, 7);
        due.is("propose(0, 1, 1)", y.propose(0, 1, 1), 1);
        Steps.lead(y, 1, 7);
        due.is("an overtaken ballot proposes", y.propose(0, 2, 1), 1);
    }

    private static void proposeTakesOver(Due due) {
        AgreedSlots x = new AgreedSlots();
        Steps.lead(x, 0, 3);
        x.propose(0, 1, 11);
        x.vote(0, 1, 0);
        Steps.lead(x, 1, 6);
        due.is("nothing was told", x.propose(1, 1, 22), 22);
        x.vote(1, 1, 2);
        Steps.lead(x, 2, 5);
        due.is("two votes were told", x.proposed(2, 1, 1), 22);
        due.is("the greatest ballot counts", x.propose(2, 1, 33), 22);
        due.is("proposed(2, 1, 0)", x.proposed(2, 1, 0), 22);
        due.is("another slot is free", x.propose(2, 2, 33), 33);
        Steps.lead(x, 0, 3);
        due.is("11 of ballot 1 alone was told", x.propose(0, 1, 44), 11);
        due.is("vote(0, 1, 1)", x.vote(0, 1, 1), 1);
        due.is("value of the vote", x.voted(1, 1, 1), 11);
    }

    private static void greatestIsTakenOverInAnyOrder(Due due) {
        AgreedSlots x = new AgreedSlots();
        Steps.lead(x, 0, 6);
        x.propose(0, 1, 11);
        x.vote(0, 1, 2);
        Steps.lead(x, 1, 3);
        x.propose(1, 1, 22);
        x.vote(1, 1, 0);
        x.prepare(2);
        due.is("2 tells its vote", x.promise(2, 2), 1);
        due.is("11 is bound", x.proposed(2, 1, 1), 11);
        x.promise(2, 0);
        due.is("22 of the greater ballot is", x.proposed(2, 1, 1), 22);
        x.promise(2, 1);
        due.is("propose(2, 1, 33)", x.propose(2, 1, 33), 22);
    }

    private static void lastSlot(Due due) {
        AgreedSlots x = Steps.chosenUpTo(15);
        due.is("propose(0, 16, 163)", x.propose(0, 16, 163), 163);
        due.is("vote(0, 16, 2)", x.vote(0, 16, 2), 1);
        due.is("votes of 2", x.acceptor(2, 2), 1);
        due.is("proposer(0, 3)", x.proposer(0, 3), 16);
        x.prepare(1);
        due.is("promise(1, 2)", x.promise(1, 2), 1);
        due.is("promise(1, 1)", x.promise(1, 1), 15);
        due.is("proposed(1, 16, 1)", x.proposed(1, 16, 1), 163);
        due.is("propose(1, 16, 1)", x.propose(1, 16, 1), 163);
        x.vote(1, 16, 2);
        due.is("vote(1, 16, 1)", x.vote(1, 16, 1), 2);
        due.is("chosen", x.count(1), 16);
        due.is("a change that comes too late", x.count(8), 1);
        x.prepare(1);
        due.is("forgotten", x.proposed(1, 16, 0), Steps.NONE);
        due.is("trim(16)", x.trim(16), 32);
        due.is("no votes", x.acceptor(2, 2), 0);
        due.is("slot(16, 0)", x.slot(16, 0), 163);
        due.is("slot(16, 2)", x.slot(16, 2), 7);
    }

    private static void toldVotesStayAsTheyWere(Due due) {
        AgreedSlots x = new AgreedSlots();
        Steps.lead(x, 0, 3);
        x.propose(0, 1, 11);
        x.propose(0, 2, 12);
        x.vote(0, 1, 0);
        Steps.lead(x, 1, 7);
        due.is("1 was told 11", x.proposed(1, 1, 1), 11);
        due.is("1 was told nothing of 2", x.proposed(1, 2, 1), 0);
        due.is("vote(0, 2, 0)", x.vote(0, 2, 0), 102);
        due.is("votes refused", x.count(7), 1);
        due.is("promises refused", x.count(6), 0);
        x.propose(1, 1, 1);
        x.propose(1, 2, 50);
        due.is("a free slot", x.proposed(1, 2, 0), 50);
        x.vote(1, 2, 0);
        due.is("1 is still told nothing of 2", x.proposed(1, 2, 1), 0);
        due.is("promise(0, 0) was given already", x.promise(0, 0), Steps.NONE);
        Steps.lead(x, 0, 1);
        due.is("0 is told of both", x.proposed(0, 1, 1), 11);
        due.is("0 is told of both", x.proposed(0, 2, 1), 50);
    }

    private static void onlyVotersTell(Due due) {
        AgreedSlots x = new AgreedSlots();
        x.setSecond(1);
        Steps.lead(x, 0, 7);
        Steps.choose(x, 0, 1, 156, 1);
        due.is("voters of 4", x.slot(4, 2), 56);
        due.is("voters of 3", x.slot(3, 2), 7);
        due.is("a promise of 3 tells nothing", x.promise(0, 3), 0);
        due.is("missing at 4", x.proposed(0, 4, 2), 2);
        due.is("missing at 3", x.proposed(0, 3, 2), 0);
        Steps.lead(x, 1, 56);
        due.is("slot 1 by voters", x.proposed(1, 1, 1), 0);
        due.is("slot 1 missing", x.proposed(1, 1, 2), 3);
        due.is("slot 1", x.propose(1, 1, 5), Steps.NOT_POSSIBLE);
        due.is("slot 4", x.propose(1, 4, 5), 5);
        due.is("0 is no voter of 4", x.vote(1, 4, 0), Steps.NOT_POSSIBLE);
        due.is("3 is one", x.vote(1, 4, 3), 1);
        due.is("chosen ahead of 2 and 3", x.slot(4, 0), 5);
        due.is("the prefix", x.count(0), 1);
        due.is("chosen", x.count(1), 2);
    }

    private static void windowAndChanges(Due due) {
        AgreedSlots x = new AgreedSlots();
        x.setSecond(1);
        Steps.lead(x, 0, 63);
        due.is("slot 1", Steps.choose(x, 0, 1, 103, 1), 103);
        due.is("slot 2", Steps.choose(x, 0, 2, 112, 1), 112);
        due.is("slot 3", Steps.choose(x, 0, 3, 9, 1), 9);
        due.is("voters of 4", x.slot(4, 2), 3);
        due.is("voters of 5", x.slot(5, 2), 12);
        due.is("voters of 6", x.slot(6, 2), 12);
        due.is("voters of 7", x.slot(7, 2), Steps.NONE);
        due.is("greatest open", x.count(5), 6);
        due.is("changes", x.count(8), 2);
        due.is("slot 5 by its own voters", Steps.choose(x, 0, 5, 130, 4), 130);
        due.is("slot 8 is not open", x.propose(0, 8, 1), Steps.NOT_POSSIBLE);
        due.is("slot 4", Steps.choose(x, 0, 4, 1, 2), 1);
        due.is("the prefix", x.count(0), 5);
        due.is("voters of 7", x.slot(7, 2), 12);
        due.is("voters of 8", x.slot(8, 2), 30);
        due.is("greatest open", x.count(5), 8);
        for (int slot = 6; slot <= 16; slot++) {
            due.is("slot " + slot, Steps.choose(x, 0, slot, slot, 4), slot);
        }
        due.is("the prefix", x.count(0), 16);
        due.is("greatest open", x.count(5), 16);
        due.is("trim(16)", x.trim(16), 16);
    }

    private static void vote(Due due) {
        AgreedSlots x = new AgreedSlots();
        due.is("nothing proposed", x.vote(0, 1, 0), Steps.NOT_POSSIBLE);
        Steps.lead(x, 0, 3);
        due.is("nothing proposed", x.vote(0, 1, 0), Steps.NOT_POSSIBLE);
        x.propose(0, 1, 5);
        due.is("vote(0, 2, 0)", x.vote(0, 2, 0), Steps.NOT_POSSIBLE);
        due.is("vote(1, 1, 0)", x.vote(1, 1, 0), Steps.NOT_POSSIBLE);
        due.is("no voter", x.vote(0, 1, 3), Steps.NOT_POSSIBLE);
        x.setUp(0, false);
        due.is("down", x.vote(0, 1, 0), Steps.NOT_POSSIBLE);
        x.setUp(0, true);
        due.is("vote(0, 1, 0)", x.vote(0, 1, 0), 1);
        due.is("vote(0, 1, 0) again", x.vote(0, 1, 0), Steps.NONE);
        x.setUp(0, false);
        due.is("again, down", x.vote(0, 1, 0), Steps.NOT_POSSIBLE);
        x.setUp(0, true);
        Steps.lead(x, 1, 1);
        due.is("again, with a greater promise", x.vote(0, 1, 0), Steps.NONE);
        due.is("no refusal", x.count(7), 0);
        due.is("not heard", x.proposer(0, 1), 0);
        x.promise(1, 1);
        x.keep();
        due.is("refused", x.vote(0, 1, 1), 102);
        due.is("heard", x.proposer(0, 1), 2);
        due.is("votes refused", x.count(7), 1);
        due.is("no vote", x.voted(1, 1, 0), Steps.NONE);
        x.undo();
        due.is("a refused vote is an act", x.count(7), 0);
        due.is("nor heard then", x.proposer(0, 1), 0);
        due.is("vote(3, 1, 0)", x.vote(3, 1, 0), Steps.UNKNOWN);
        due.is("vote(0, 0, 0)", x.vote(0, 0, 0), Steps.UNKNOWN);
        due.is("vote(0, 17, 0)", x.vote(0, 17, 0), Steps.UNKNOWN);
        due.is("vote(0, 1, 6)", x.vote(0, 1, 6), Steps.UNKNOWN);
        for (int bad : Steps.HOSTILE) {
            due.is("vote(" + bad + ", 1, 0)", x.vote(bad, 1, 0), Steps.UNKNOWN);
            due.is("vote(0, " + bad + ", 0)", x.vote(0, bad, 0), Steps.UNKNOWN);
            due.is("vote(0, 1, " + bad + ")", x.vote(0, 1, bad), Steps.UNKNOWN);
        }
    }

    private static void voteWithoutPromise(Due due) {
        AgreedSlots x = new AgreedSlots();
        Steps.lead(x, 1, 3);
        x.propose(1, 1, 5);
        due.is("vote(1, 1, 2)", x.vote(1, 1, 2), 1);
        due.is("its promise", x.acceptor(2, 1), 2);
        x.prepare(0);
        due.is("promise(0, 2)", x.promise(0, 2), 102);
        due.is("vote(1, 1, 1)", x.vote(1, 1, 1), 2);
        due.is("chosen", x.slot(1, 0), 5);
        due.is("by ballot", x.slot(1, 1), 2);
    }

    private static void voteAfterGreaterVote(Due due) {
        AgreedSlots x = new AgreedSlots();
        Steps.lead(x, 0, 3);
        x.propose(0, 1, 5);
        x.vote(0, 1, 0);
        Steps.lead(x, 1, 6);
        x.propose(1, 1, 6);
        due.is("vote(1, 1, 0)", x.vote(1, 1, 0), 1);
        due.is("the vote that was is no more", x.vote(0, 1, 0), 102);
        due.is("votes refused", x.count(7), 1);
        due.is("voted(0, 1, 1)", x.voted(0, 1, 1), 6);
    }

    private static void choosing(Due due) {
        AgreedSlots x = new AgreedSlots();
        Steps.lead(x, 0, 3);
        due.is("one vote", Steps.choose(x, 0, 1, 7, 1), Steps.NONE);
        Steps.lead(x, 1, 6);
        x.propose(1, 1, 8);
        due.is("one of each ballot", x.vote(1, 1, 1), 1);
        due.is("not chosen", x.slot(1, 0), Steps.NONE);
        due.is("a second of one ballot", x.vote(1, 1, 0), 2);
        due.is("chosen", x.slot(1, 0), 8);
        due.is("by ballot", x.slot(1, 1), 2);
        Steps.lead(x, 2, 7);
        due.is("taken over", x.propose(2, 1, 9), 8);
        x.vote(2, 1, 0);
        due.is("it stays chosen", x.slot(1, 0), 8);
        x.vote(2, 1, 1);
        x.vote(2, 1, 2);
        due.is("by the first ballot", x.slot(1, 1), 2);
        due.is("chosen slots", x.count(1), 1);
    }

    private static void trim(Due due) {
        AgreedSlots x = Steps.chosenUpTo(3);
        due.is("trim(4)", x.trim(4), Steps.NOT_POSSIBLE);
        due.is("trim(16)", x.trim(16), Steps.NOT_POSSIBLE);
        due.is("trim(0)", x.trim(0), Steps.UNKNOWN);
        due.is("trim(17)", x.trim(17), Steps.UNKNOWN);
        for (int bad : Steps.HOSTILE) {
            due.is("trim(" + bad + ")", x.trim(bad), Steps.UNKNOWN);
        }
        x.vote(0, 2, 2);
        due.is("trim(2)", x.trim(2), 5);
        due.is("trim(2) again", x.trim(2), Steps.NONE);
        due.is("trim(1)", x.trim(1), Steps.NONE);
        due.is("count(2)", x.count(2), 2);
        due.is("slot(2, 5)", x.slot(2, 5), 1);
        due.is("slot(3, 5)", x.slot(3, 5), 0);
        due.is("it stays chosen", x.slot(1, 0), 1);
        due.is("the prefix stays", x.count(0), 3);
        due.is("its proposed value stays", x.proposed(0, 1, 0), 1);
        due.is("proposer(0, 3)", x.proposer(0, 3), 3);
        due.is("no vote there", x.vote(0, 2, 2), Steps.NOT_POSSIBLE);
        due.is("nor below", x.vote(0, 1, 2), Steps.NOT_POSSIBLE);
        due.is("but behind", x.vote(0, 3, 2), 3);
        Steps.lead(x, 1, 7);
        due.is("propose(1, 1, 5)", x.propose(1, 1, 5), Steps.NOT_POSSIBLE);
        due.is("propose(1, 2, 5)", x.propose(1, 2, 5), Steps.NOT_POSSIBLE);
        due.is("nothing is told of it", x.proposed(1, 2, 1), 0);
        due.is("propose(1, 3, 5)", x.propose(1, 3, 5), 3);
        due.is("trim(3)", x.trim(3), 3);
        due.is("what was told before stays", x.proposed(1, 3, 1), 3);
        x.prepare(2);
        due.is("no votes are told", x.promise(2, 0), 0);
    }
}
