import java.util.Random;

/**
 * What the document says of every run, looked at by the face alone: no slot has two chosen values, what is chosen
 * stays so, no two proposers have the same ballot, a ballot that could not become chosen does not, and what the
 * methods tell agrees. Drawn runs without undo and restore, so that nothing may go back.
 */
public final class AgreementTest {
    private static final int RUNS = 300;
    private static final int ACTS = 500;
    private static final int BALLOTS = 1000;

    private final Due due;
    private final Random random;
    private final AgreedSlots x = new AgreedSlots();
    private final int second;
    private final int[] owners = new int[BALLOTS];
    private final int[] chosenValue = new int[17];
    private final int[] chosenBallot = new int[17];
    private final int[][] votedValue = new int[17][BALLOTS];
    private final boolean[][] couldNot = new boolean[17][BALLOTS];
    private final int[] promised = new int[6];
    private final int[] heard = new int[3];
    private int leader;
    private int greatestBallot;
    private int overwritten;

    private AgreementTest(Due due, long seed) {
        this.due = due;
        random = new Random(seed);
        second = random.nextInt(6) + 1;
        x.setSecond(second);
    }

    public static void main(String[] args) {
        Due due = new Due("agreement in every run");
        int chosen = 0;
        int changes = 0;
        int overwritten = 0;
        for (int seed = 0; seed < RUNS; seed++) {
            AgreementTest run = new AgreementTest(due, seed);
            run.run(seed % 3 == 0);
            chosen += run.x.count(1);
            changes += run.x.count(8);
            overwritten += run.overwritten;
        }
        due.holds("slots are chosen: " + chosen, chosen > 3 * RUNS);
        due.holds("voters are changed: " + changes, changes > RUNS);
        due.holds("chosen slots get votes of greater ballots: " + overwritten, overwritten > 2 * RUNS);
        due.end();
    }

    private void run(boolean quiet) {
        for (int i = 0; i < ACTS; i++) {
            act(quiet);
            chosenOnce();
            if (i % 5 == 0) {
                onlyUpwards();
                couldFalls();
            }
            if (i % 25 == 0) {
                tellingAgrees();
            }
        }
        tellingAgrees();
    }

    private void act(boolean quiet) {
        if (random.nextInt(quiet ? 40 : 20) == 0) {
            leader = random.nextInt(3);
        }
        int p = random.nextInt(quiet ? 30 : 15) == 0 ? random.nextInt(3) : leader;
        int slot = Math.max(1, Math.min(16, x.count(0) + random.nextInt(4) * random.nextInt(2) + random.nextInt(2)));
        int a = random.nextInt(6);
        while (random.nextInt(8) > 0 && (x.slot(slot, 2) >> a & 1) == 0) {
            a = random.nextInt(6);
        }
        int draw = random.nextInt(200);
        if (draw < 6) {
            x.setUp(a, random.nextInt(9) > 0);
        } else if (draw < 10 || x.proposer(p, 0) <= x.proposer(p, 1)) {
            owned(p, x.prepare(p));
        } else if (draw < 70) {
            x.promise(p, a);
        } else if (draw < 110) {
            x.propose(p, slot, random.nextInt(3) == 0 ? 101 + random.nextInt(63) : 1 + random.nextInt(99));
        } else if (draw < 199) {
            votedOnce(p, slot, a);
        } else {
            x.trim(Math.max(1, x.count(0) - 3));
        }
    }

    /** A ballot of the proposer p is 3 * r + p + 1; so no two have the same one. */
    private void owned(int p, int ballot) {
        due.is("its own round", ballot % 3, (p + 1) % 3);
        due.is("the ballot " + ballot + " is a new one", owners[ballot], 0);
        owners[ballot] = p + 1;
        greatestBallot = Math.max(greatestBallot, ballot);
    }

    /** All votes of a ballot in a slot are for one value, and the voter's promise is not less than its vote. */
    private void votedOnce(int p, int slot, int a) {
        int answer = x.vote(p, slot, a);
        if (answer < 0 || answer > 100) {
            return;
        }
        int ballot = x.voted(a, slot, 0);
        int value = x.voted(a, slot, 1);
        due.is("the vote is of the ballot", ballot, x.proposer(p, 0));
        due.is("the vote is for what was proposed", value, x.proposed(p, slot, 0));
        due.is("the vote becomes its promise", x.acceptor(a, 1), ballot);
        int before = votedValue[slot][ballot];
        due.is("one value of " + ballot + " in " + slot, value, before == 0 ? value : before);
        votedValue[slot][ballot] = value;
        due.is("votes of the ballot", answer, votes(slot, ballot));
        if (chosenBallot[slot] != 0 && ballot > chosenBallot[slot]) {
            overwritten++;
        }
    }

    private int votes(int slot, int ballot) {
        int n = 0;
        for (int a = 0; a < 6; a++) {
            if ((x.slot(slot, 2) >> a & 1) == 1 && x.voted(a, slot, 0) == ballot) {
                n++;
            }
        }
        return n;
    }

    /** A second quorum of one ballot has the chosen value; what is chosen stays, with its ballot. */
    private void chosenOnce() {
        for (int slot = 1; slot <= x.count(5); slot++) {
            int value = x.slot(slot, 0);
            for (int a = 0; a < 6; a++) {
                int ballot = x.voted(a, slot, 0);
                if (ballot > 0 && votes(slot, ballot) >= x.slot(slot, 4)) {
                    due.is("the value of a second quorum in " + slot, x.voted(a, slot, 1), value);
                }
            }
            if (chosenValue[slot] != 0) {
                due.is("the slot " + slot + " stays chosen", value, chosenValue[slot]);
                due.is("by the first ballot", x.slot(slot, 1), chosenBallot[slot]);
            } else if (value != Steps.NONE) {
                chosenValue[slot] = value;
                chosenBallot[slot] = x.slot(slot, 1);
                due.is("a second quorum", votes(slot, chosenBallot[slot]), x.slot(slot, 4));
                due.is("the value of its votes", votedValue[slot][chosenBallot[slot]], value);
                due.is("it could", x.could(slot, chosenBallot[slot]), 1);
                due.holds("it could before", !couldNot[slot][chosenBallot[slot]]);
            }
        }
    }

    /** A ballot that could not become chosen any more never could again. */
    private void couldFalls() {
        int first = x.count(2) + 1;
        for (int slot = first; slot <= x.count(5); slot++) {
            for (int ballot = 1; ballot <= greatestBallot; ballot++) {
                int could = x.could(slot, ballot);
                due.holds("could(" + slot + ", " + ballot + ")", could == 0 || could == 1 && !couldNot[slot][ballot]);
                couldNot[slot][ballot] = could == 0;
            }
            due.is("a ballot above all", x.could(slot, 999), 1);
        }
    }

    private void onlyUpwards() {
        for (int a = 0; a < 6; a++) {
            due.holds("what " + a + " has promised grows", x.acceptor(a, 1) >= promised[a]);
            promised[a] = x.acceptor(a, 1);
            for (int slot = 1; slot <= 16; slot++) {
                due.holds("no vote above its promise", x.voted(a, slot, 0) <= promised[a]);
            }
        }
        for (int p = 0; p < 3; p++) {
            due.holds("what " + p + " has heard of grows", x.proposer(p, 1) >= heard[p]);
            heard[p] = x.proposer(p, 1);
            for (int a = 0; a < 6; a++) {
                boolean counted = (x.proposer(p, 2) >> a & 1) == 1;
                due.holds("a promise is kept", !counted || promised[a] >= x.proposer(p, 0));
            }
        }
    }

    /** What is told of acceptors, proposers and slots agrees with what is told of all. */
    private void tellingAgrees() {
        int up = 0;
        for (int a = 0; a < 6; a++) {
            int votes = 0;
            for (int slot = 1; slot <= 16; slot++) {
                votes += x.voted(a, slot, 0) == Steps.NONE ? 0 : 1;
                due.holds("both or none", x.voted(a, slot, 0) == Steps.NONE == (x.voted(a, slot, 1) == Steps.NONE));
            }
            due.is("votes of " + a, x.acceptor(a, 2), votes);
            up += x.acceptor(a, 0) << a;
        }
        due.is("acceptors that are up", x.count(4), up);
        due.is("the second size", x.count(3), second);
        proposersAgree();
        slotsAgree();
    }

    private void proposersAgree() {
        for (int p = 0; p < 3; p++) {
            int values = 0;
            for (int slot = 1; slot <= 16; slot++) {
                values += x.proposed(p, slot, 0) == Steps.NONE ? 0 : 1;
                int missing = x.slot(slot, 3) - Integer.bitCount(x.proposer(p, 2) & x.slot(slot, 2));
                int want = x.slot(slot, 2) == Steps.NONE ? Steps.NONE : Math.max(0, missing);
                due.is("promises missing", x.proposed(p, slot, 2), want);
            }
            due.is("values of " + p, x.proposer(p, 3), values);
        }
    }

    private void slotsAgree() {
        int prefix = 0;
        int chosen = 0;
        int changes = 0;
        for (int slot = 1; slot <= 16; slot++) {
            int value = x.slot(slot, 0);
            prefix += prefix == slot - 1 && value != Steps.NONE ? 1 : 0;
            chosen += value != Steps.NONE ? 1 : 0;
            changes += value > 100 ? 1 : 0;
            due.is("trimmed", x.slot(slot, 5), slot <= x.count(2) ? 1 : 0);
        }
        due.is("the prefix", x.count(0), prefix);
        due.is("slots that are chosen", x.count(1), chosen);
        due.is("changes that are chosen", x.count(8), changes);
        due.holds("trimmed behind the prefix", x.count(2) <= prefix);
        int voters = 7;
        for (int slot = 1; slot <= 16; slot++) {
            boolean open = slot <= prefix + 3;
            voters = slot > 3 && x.slot(slot - 3, 0) > 100 ? x.slot(slot - 3, 0) - 100 : voters;
            int size = Math.min(second, Integer.bitCount(voters));
            due.is("voters of " + slot, x.slot(slot, 2), open ? voters : Steps.NONE);
            due.is("its first size", x.slot(slot, 3), open ? Integer.bitCount(voters) + 1 - size : Steps.NONE);
            due.is("its second size", x.slot(slot, 4), open ? size : Steps.NONE);
            if (open) {
                due.is("its quorums meet", x.witness(voters, x.slot(slot, 3), size, 0), Steps.NONE);
            }
        }
        due.is("the greatest open slot", x.count(5), Math.min(16, prefix + 3));
    }
}
