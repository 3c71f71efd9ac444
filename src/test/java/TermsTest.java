/** The sentences of the document's 'Terms' that name an edge: acceptors and voters, proposers and ballots. */
public final class TermsTest {
    private static final int[] VOTERS_BY_NUMBER = {0, 1, 3, 7, 15, 31, 63};

    public static void main(String[] args) {
        Due due = new Due("terms at their edges");
        valuesAreWordsOrChanges(due);
        eachChangeIsASetOfVoters(due);
        eachBitIsAnAcceptor(due);
        windowIsThree(due);
        latestChangeCounts(due);
        changeBehindTheWindow(due);
        openSlots(due);
        openAcrossAGap(due);
        quorumSizes(due);
        firstQuorumToThePromise(due);
        secondQuorumToTheVote(due);
        quorumsOfTheSameVotersMeet(due);
        ballotsOfAProposer(due);
        leastBallotAboveWhatIsHeard(due);
        lastBallots(due);
        promiseNeedsAGreaterBallot(due);
        voteNeedsNoLesserBallot(due);
        greatestAnswersOfRefusals(due);
        votesOfOneBallot(due);
        chosenStays(due);
        prefixEndsAtAGap(due);
        trimForgetsUpToTheSlot(due);
        allVotesAreTold(due);
        due.end();
    }

    /** A value is a word (1 to 99), or a change of voters (101 to 163). */
    private static void valuesAreWordsOrChanges(Due due) {
        for (int value = -200; value <= 400; value++) {
            AgreedSlots x = new AgreedSlots();
            Steps.lead(x, 0, 3);
            boolean allowed = value >= 1 && value <= 99 || value >= 101 && value <= 163;
            due.is("propose(0, 1, " + value + ")", x.propose(0, 1, value), allowed ? value : Steps.BAD_VALUE);
            due.is("acts", x.count(9), allowed ? 4 : 3);
        }
    }

    /** 100 plus a set of acceptors, as bits; without a change, the acceptors 0, 1 and 2. */
    private static void eachChangeIsASetOfVoters(Due due) {
        for (int value = 1; value <= 163; value++) {
            AgreedSlots x = new AgreedSlots();
            Steps.lead(x, 0, 3);
            if (value != 100) {
                due.is("chosen", Steps.choose(x, 0, 1, value, 3), value);
                due.is("voters behind " + value, x.slot(4, 2), value > 100 ? value - 100 : 7);
                due.is("changes with " + value, x.count(8), value > 100 ? 1 : 0);
            }
        }
    }

    /** 1 for the acceptor 0, 2 for 1, 4 for 2, and so on: in a change of voters, and in the sets that are told. */
    private static void eachBitIsAnAcceptor(Due due) {
        int[] bits = {1, 2, 4, 8, 16, 32};
        for (int set = 1; set <= 63; set++) {
            AgreedSlots x = new AgreedSlots();
            Steps.lead(x, 0, 63);
            Steps.choose(x, 0, 1, 100 + set, 3);
            due.is("propose(0, 4, 9) with " + set, x.propose(0, 4, 9), 9);
            int votes = 0;
            for (int a = 0; a < 6; a++) {
                boolean voter = set / bits[a] % 2 == 1;
                votes += voter ? 1 : 0;
                due.is("a vote of " + a + " with " + set, x.vote(0, 4, a), voter ? votes : Steps.NOT_POSSIBLE);
            }
        }
        for (int a = 0; a < 6; a++) {
            AgreedSlots x = new AgreedSlots();
            Steps.lead(x, 1, bits[a]);
            due.is("the promise of " + a, x.proposer(1, 2), bits[a]);
            due.is("promised by " + a, x.acceptor(a, 1), 2);
            x.setUp(a, false);
            due.is("all but " + a + " are up", x.count(4), 63 - bits[a]);
            due.is("it is down", x.acceptor(a, 0), 0);
        }
    }

    /** The voters of a slot s are those of a change in slot s - 3 or less, not in s - 2. */
    private static void windowIsThree(Due due) {
        for (int slot = 1; slot <= 16; slot++) {
            AgreedSlots x = new AgreedSlots();
            Steps.lead(x, 0, 63);
            for (int earlier = 1; earlier < slot; earlier++) {
                Steps.choose(x, 0, earlier, 99, 7);
            }
            due.is("the change in " + slot, Steps.choose(x, 0, slot, 156, 7), 156);
            for (int behind = slot - 2; behind <= slot + 3; behind++) {
                if (behind >= 1 && behind <= 16) {
                    due.is("voters of " + behind + " with a change in " + slot, x.slot(behind, 2),
                        behind == slot + 3 ? 56 : 7);
                }
            }
        }
    }

    /** The latest slot counts: a change is not undone by a word, and a later change takes its place. */
    private static void latestChangeCounts(Due due) {
        AgreedSlots x = new AgreedSlots();
        Steps.lead(x, 0, 63);
        int[] values = {115, 9, 131, 9, 107, 9, 9};
        int[] voters = {7, 7, 7, 15, 15, 31, 31, 7, 7, 7};
        for (int slot = 1; slot <= values.length; slot++) {
            due.is("slot " + slot, Steps.choose(x, 0, slot, values[slot - 1], 63), values[slot - 1]);
        }
        for (int slot = 1; slot <= voters.length; slot++) {
            due.is("voters of " + slot, x.slot(slot, 2), voters[slot - 1]);
        }
        due.is("not open", x.slot(11, 2), Steps.NONE);
    }

    /** What is chosen in the slots 14 to 16 changes no voters; it is counted all the same. */
    private static void changeBehindTheWindow(Due due) {
        AgreedSlots x = Steps.chosenUpTo(13);
        for (int slot = 14; slot <= 16; slot++) {
            due.is("slot " + slot, Steps.choose(x, 0, slot, 100 + slot, 3), 100 + slot);
        }
        due.is("changes", x.count(8), 3);
        for (int slot = 1; slot <= 16; slot++) {
            due.is("voters of " + slot, x.slot(slot, 2), 7);
        }
    }

    /** A slot is open if each slot that is less by 3 or more is chosen; there are 16 slots. */
    private static void openSlots(Due due) {
        for (int last = 0; last <= 16; last++) {
            AgreedSlots x = Steps.chosenUpTo(last);
            x.prepare(0);
            Steps.lead(x, 0, 7);
            due.is("greatest open slot behind " + last, x.count(5), Math.min(16, last + 3));
            for (int slot = 1; slot <= 16; slot++) {
                boolean open = slot <= last + 3;
                String where = " of " + slot + " behind " + last;
                for (int what = 2; what <= 4; what++) {
                    due.holds("slot" + where, x.slot(slot, what) == Steps.NONE != open);
                }
                due.is("what is bound" + where, x.proposed(0, slot, 1), !open ? Steps.NONE : slot <= last ? slot : 0);
                due.is("missing promises" + where, x.proposed(0, slot, 2), open ? 0 : Steps.NONE);
                due.is("could" + where, x.could(slot, 999), open ? 1 : Steps.NOT_POSSIBLE);
                due.is("propose" + where, x.propose(0, slot, 99),
                    !open ? Steps.NOT_POSSIBLE : slot <= last ? slot : 99);
            }
        }
    }

    private static void openAcrossAGap(Due due) {
        AgreedSlots x = new AgreedSlots();
        Steps.lead(x, 0, 7);
        Steps.choose(x, 0, 2, 2, 3);
        Steps.choose(x, 0, 3, 3, 3);
        for (int slot = 4; slot <= 6; slot++) {
            due.is("slot 1 is not chosen: voters of " + slot, x.slot(slot, 2), Steps.NONE);
            due.is("propose for " + slot, x.propose(0, slot, 4), Steps.NOT_POSSIBLE);
        }
        due.is("greatest open slot", x.count(5), 3);
        due.is("slot 1", Steps.choose(x, 0, 1, 1, 3), 1);
        due.is("greatest open slot", x.count(5), 6);
        due.is("slot 5 ahead of slot 4", Steps.choose(x, 0, 5, 5, 3), 5);
        due.is("greatest open slot", x.count(5), 6);
        due.is("slot 8 needs slot 4", x.slot(8, 2), Steps.NONE);
    }

    /** An object with k, whose slot 4 has n voters. */
    private static AgreedSlots withVoters(int k, int n) {
        AgreedSlots x = new AgreedSlots();
        x.setSecond(k);
        Steps.lead(x, 0, 7);
        Steps.choose(x, 0, 1, 100 + VOTERS_BY_NUMBER[n], 7);
        return x;
    }

    /** A second quorum is the lesser one of k and n, a first quorum n + 1 less that. */
    private static void quorumSizes(Due due) {
        for (int k = 1; k <= 6; k++) {
            for (int n = 1; n <= 6; n++) {
                AgreedSlots x = withVoters(k, n);
                int second = k < n ? k : n;
                due.is("voters of 4", x.slot(4, 2), VOTERS_BY_NUMBER[n]);
                due.is("second quorum of " + n + " with " + k, x.slot(4, 4), second);
                due.is("first quorum of " + n + " with " + k, x.slot(4, 3), n + 1 - second);
            }
        }
    }

    /** To propose, a first quorum must have promised: one promise less is not enough. */
    private static void firstQuorumToThePromise(Due due) {
        for (int k = 1; k <= 6; k++) {
            for (int n = 1; n <= 6; n++) {
                AgreedSlots x = withVoters(k, n);
                int size = x.slot(4, 3);
                x.prepare(1);
                for (int a = 0; a < 6; a++) {
                    int missing = Math.max(0, size - Math.min(a, n));
                    due.is("missing of " + size + " with " + a, x.proposed(1, 4, 2), missing);
                    if (missing > 0) {
                        due.is("propose", x.propose(1, 4, 9), Steps.NOT_POSSIBLE);
                    }
                    x.promise(1, a);
                }
                due.is("propose", x.propose(1, 4, 9), 9);
                due.is("propose again", x.propose(1, 4, 9), Steps.NOT_POSSIBLE);
            }
        }
    }

    /** Chosen as soon as a second quorum has votes: by the vote that makes it up, and not by the one ahead. */
    private static void secondQuorumToTheVote(Due due) {
        for (int k = 1; k <= 6; k++) {
            for (int n = 1; n <= 6; n++) {
                AgreedSlots x = withVoters(k, n);
                int size = x.slot(4, 4);
                Steps.lead(x, 0, 63);
                x.propose(0, 4, 9);
                for (int a = 0; a < n; a++) {
                    due.is("chosen by " + a + " of " + size, x.slot(4, 0), a >= size ? 9 : Steps.NONE);
                    due.is("by ballot", x.slot(4, 1), a >= size ? 4 : Steps.NONE);
                    due.is("vote", x.vote(0, 4, a), a + 1);
                }
                due.is("chosen by all of " + n, x.slot(4, 0), 9);
            }
        }
    }

    /** Each first and each second quorum of the same voters have one in common; one less need not. */
    private static void quorumsOfTheSameVotersMeet(Due due) {
        for (int k = 1; k <= 6; k++) {
            for (int n = 1; n <= 6; n++) {
                AgreedSlots x = withVoters(k, n);
                int first = x.slot(4, 3);
                int second = x.slot(4, 4);
                due.is("the quorums", x.witness(x.slot(4, 2), first, second, 0), Steps.NONE);
                if (first > 1) {
                    due.is("one less in the first", x.witness(x.slot(4, 2), first - 1, second, 0),
                        VOTERS_BY_NUMBER[first - 1]);
                }
                if (second > 1) {
                    due.is("one less in the second", x.witness(x.slot(4, 2), first, second - 1, 1),
                        VOTERS_BY_NUMBER[n] - VOTERS_BY_NUMBER[first]);
                }
            }
        }
    }

    /** A ballot of the proposer p is 3 * r + p + 1, with a round r of 0 or more. */
    private static void ballotsOfAProposer(Due due) {
        for (int p = 0; p < 3; p++) {
            AgreedSlots x = new AgreedSlots();
            due.is("none at first", x.proposer(p, 0), 0);
            for (int r = 0; r < 100; r++) {
                due.is("round " + r + " of " + p, x.prepare(p), 3 * r + p + 1);
            }
        }
    }

    /** The least ballot of its own that is greater than its ballot and greater than what it has heard of. */
    private static void leastBallotAboveWhatIsHeard(Due due) {
        for (int p = 0; p < 3; p++) {
            for (int q = 0; q < 3; q++) {
                for (int r = 0; r < 4 && q != p; r++) {
                    AgreedSlots x = new AgreedSlots();
                    x.prepare(p);
                    Steps.prepareUpTo(x, q, 3 * r + q + 1);
                    x.promise(q, 5);
                    int heard = 3 * r + q + 1;
                    boolean refused = heard > p + 1;
                    due.is(p + " asks above " + heard, x.promise(p, 5), refused ? 100 + heard : 0);
                    due.is("heard", x.proposer(p, 1), refused ? heard : 0);
                    int least = p + 4;
                    while (refused && least < heard) {
                        least += 3;
                    }
                    due.is("prepare(" + p + ") above " + heard, x.prepare(p), least);
                }
            }
        }
    }

    /** FULL if that would be more than 999: by the ballot that it has, and by one that it has heard of. */
    private static void lastBallots(Due due) {
        for (int p = 0; p < 3; p++) {
            AgreedSlots x = new AgreedSlots();
            Steps.prepareUpTo(x, p, 994 + p);
            due.is("the last one of " + p, x.prepare(p), 997 + p);
            due.is("one more of " + p, x.prepare(p), Steps.FULL);
            due.is("it keeps the last one", x.proposer(p, 0), 997 + p);
            for (int q = 0; q < 3; q++) {
                due.is(q + " prepares still", x.prepare(q), q == p ? Steps.FULL : q + 1);
            }
            x.promise(p, 0);
            for (int q = 0; q < 3; q++) {
                if (q != p) {
                    due.is(q + " hears of it", x.promise(q, 0), 1097 + p);
                    due.is(q + " above it", x.prepare(q), q < p ? Steps.FULL : 997 + q);
                    due.is(q + " once more", x.prepare(q), Steps.FULL);
                }
            }
        }
    }

    /** If its ballot is greater than what the acceptor has promised; an equal one, by a vote alone, is refused. */
    private static void promiseNeedsAGreaterBallot(Due due) {
        AgreedSlots x = new AgreedSlots();
        x.prepare(0);
        x.prepare(2);
        Steps.lead(x, 1, 3);
        x.propose(1, 1, 9);
        x.vote(1, 1, 2);
        due.is("a lesser one", x.promise(0, 2), 102);
        due.is("an equal one", x.promise(1, 2), 102);
        due.is("two are refused", x.count(6), 2);
        due.is("heard by 0", x.proposer(0, 1), 2);
        due.is("heard by 1", x.proposer(1, 1), 2);
        due.is("a greater one", x.promise(2, 2), 1);
        due.is("its promise", x.acceptor(2, 1), 3);
        due.is("an equal one, promised to it", x.promise(2, 2), Steps.NONE);
    }

    /** If the ballot is not less than what the acceptor has promised: an equal one and a greater one are voted for. */
    private static void voteNeedsNoLesserBallot(Due due) {
        AgreedSlots x = new AgreedSlots();
        Steps.lead(x, 0, 3);
        x.propose(0, 1, 9);
        due.is("equal", x.vote(0, 1, 0), 1);
        due.is("greater", x.vote(0, 1, 2), 2);
        due.is("its promise", x.acceptor(2, 1), 1);
        due.is("no promise to the proposer", x.proposer(0, 2), 3);
        Steps.lead(x, 1, 2);
        due.is("less", x.vote(0, 1, 1), 102);
        due.is("no vote", x.voted(1, 1, 0), Steps.NONE);
        due.is("heard", x.proposer(0, 1), 2);
        due.is("one is refused", x.count(7), 1);
    }

    /** 100 plus the ballot that the acceptor has promised, up to 999. */
    private static void greatestAnswersOfRefusals(Due due) {
        AgreedSlots x = new AgreedSlots();
        Steps.lead(x, 0, 3);
        x.propose(0, 1, 9);
        Steps.prepareUpTo(x, 2, 999);
        x.promise(2, 1);
        x.promise(2, 2);
        due.is("a vote", x.vote(0, 1, 1), 1099);
        due.is("a promise", x.promise(0, 2), 1099);
        due.is("heard", x.proposer(0, 1), 999);
        due.is("acceptor(1, 1)", x.acceptor(1, 1), 999);
        due.is("could(1, 998)", x.could(1, 998), 0);
        due.is("could(1, 999)", x.could(1, 999), 1);
    }

    /** Votes of one ballot: the same value by two ballots is not chosen. */
    private static void votesOfOneBallot(Due due) {
        AgreedSlots x = new AgreedSlots();
        Steps.lead(x, 0, 3);
        x.propose(0, 1, 9);
        x.vote(0, 1, 0);
        Steps.lead(x, 1, 7);
        due.is("the value of the told vote", x.propose(1, 1, 8), 9);
        due.is("a first vote of its ballot", x.vote(1, 1, 1), 1);
        due.is("not chosen", x.slot(1, 0), Steps.NONE);
        due.is("no ballot either", x.slot(1, 1), Steps.NONE);
        due.is("a second one", x.vote(1, 1, 2), 2);
        due.is("chosen", x.slot(1, 0), 9);
        due.is("by ballot", x.slot(1, 1), 2);
        due.is("the third one's latest vote", x.voted(0, 1, 0), 1);
        due.is("a third one", x.vote(1, 1, 0), 3);
        due.is("its latest vote then", x.voted(0, 1, 0), 2);
    }

    /** It stays chosen: as the votes are of greater ballots, are forgotten, and the voters are down. */
    private static void chosenStays(Due due) {
        AgreedSlots x = Steps.chosenUpTo(1);
        Steps.lead(x, 1, 7);
        due.is("slot 1 by ballot 2", Steps.choose(x, 1, 1, 9, 1), 1);
        due.is("by the first ballot", x.slot(1, 1), 1);
        due.is("one latest vote of each", x.voted(0, 1, 0) - x.voted(1, 1, 0), 1);
        for (int a = 0; a < 3; a++) {
            x.setUp(a, false);
        }
        due.is("voters are down", x.slot(1, 0), 1);
        due.is("trim(1)", x.trim(1), 2);
        due.is("trimmed", x.slot(1, 0), 1);
        due.is("trimmed", x.slot(1, 1), 1);
        due.is("the prefix", x.count(0), 1);
    }

    /** The prefix is the greatest m such that the slots 1 to m are chosen: 0, across a gap, and 16. */
    private static void prefixEndsAtAGap(Due due) {
        AgreedSlots x = new AgreedSlots();
        Steps.lead(x, 0, 7);
        int[] order = {3, 2, 1, 6, 5, 4, 9, 8, 7, 12, 11, 10, 15, 14, 13, 16};
        int[] prefix = {0, 0, 3, 3, 3, 6, 6, 6, 9, 9, 9, 12, 12, 12, 15, 16};
        due.is("none is chosen", x.count(0), 0);
        for (int i = 0; i < 16; i++) {
            Steps.choose(x, 0, order[i], 9, 3);
            due.is("the prefix with " + order[i], x.count(0), prefix[i]);
            due.is("chosen with " + order[i], x.count(1), i + 1);
            due.is("keep() tells it", x.keep(), prefix[i]);
            due.is("trim above it", x.trim(Math.min(16, prefix[i] + 1)), prefix[i] == 16 ? 32 : Steps.NOT_POSSIBLE);
        }
    }

    /** To trim up to a slot: votes for it and the slots below are forgotten, and the next one's are not. */
    private static void trimForgetsUpToTheSlot(Due due) {
        for (int slot = 1; slot <= 16; slot++) {
            AgreedSlots x = Steps.chosenUpTo(16);
            Steps.lead(x, 1, 7);
            due.is("trim(" + slot + ")", x.trim(slot), 2 * slot);
            due.is("count(2)", x.count(2), slot);
            for (int other = 1; other <= 16; other++) {
                boolean trimmed = other <= slot;
                due.is("vote in " + other, x.voted(1, other, 1), trimmed ? Steps.NONE : other);
                due.is("slot(" + other + ", 5)", x.slot(other, 5), trimmed ? 1 : 0);
                due.is("could", x.could(other, 1), trimmed ? Steps.NOT_POSSIBLE : 1);
                due.is("propose for " + other, x.propose(1, other, 99), trimmed ? Steps.NOT_POSSIBLE : other);
                due.is("vote for " + other, x.vote(1, other, 2), trimmed ? Steps.NOT_POSSIBLE : 1);
            }
            due.is("votes left", x.acceptor(0, 2), 16 - slot);
            due.is("trim up to it again", x.trim(slot), Steps.NONE);
            due.is("trim less", x.trim(1), Steps.NONE);
        }
    }

    /** It tells all its votes: none at first, one for each of 16 slots, and none that is forgotten. */
    private static void allVotesAreTold(Due due) {
        AgreedSlots x = Steps.chosenUpTo(16);
        x.prepare(1);
        due.is("none", x.promise(1, 2), 0);
        due.is("all", x.promise(1, 0), 16);
        x.trim(15);
        due.is("one", x.promise(1, 1), 1);
        x.trim(16);
        x.prepare(2);
        due.is("none is left", x.promise(2, 1), 0);
        due.is("what was told stays", x.proposed(1, 16, 1), 16);
    }
}
