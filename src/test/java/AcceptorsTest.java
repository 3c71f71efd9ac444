/** Promises 2 and 3 (acceptors and quorums), 16 and 17 (what is told of acceptors). */
public final class AcceptorsTest {
    public static void main(String[] args) {
        Due due = new Due("promises 2, 3, 16, 17");
        setUp(due);
        setSecond(due);
        sizesFollowTheVoters(due);
        acceptor(due);
        voted(due);
        due.end();
    }

    private static void setUp(Due due) {
        AgreedSlots x = new AgreedSlots();
        due.is("setUp(0, true)", x.setUp(0, true), Steps.NONE);
        due.is("no act", x.count(9), 0);
        due.is("setUp(0, false)", x.setUp(0, false), 5);
        due.is("setUp(5, false)", x.setUp(5, false), 4);
        due.is("setUp(5, false) again", x.setUp(5, false), Steps.NONE);
        due.is("count(4)", x.count(4), 30);
        due.is("two acts", x.count(9), 2);
        for (int a = 1; a < 5; a++) {
            due.is("setUp(" + a + ", false)", x.setUp(a, false), 4 - a);
        }
        due.is("none is up", x.count(4), 0);
        due.is("setUp(3, true)", x.setUp(3, true), 1);
        due.is("count(4)", x.count(4), 8);
        due.is("setUp(6, true)", x.setUp(6, true), Steps.UNKNOWN);
        for (int bad : Steps.HOSTILE) {
            due.is("setUp(" + bad + ", true)", x.setUp(bad, true), Steps.UNKNOWN);
            due.is("setUp(" + bad + ", false)", x.setUp(bad, false), Steps.UNKNOWN);
        }
        due.is("count(4) still", x.count(4), 8);
        int[] rest = {0, 1, 2, 4, 5};
        for (int i = 0; i < rest.length; i++) {
            due.is("setUp(" + rest[i] + ", true)", x.setUp(rest[i], true), i + 2);
        }
        due.is("all are up", x.count(4), 63);
    }

    private static void setSecond(Due due) {
        AgreedSlots x = new AgreedSlots();
        due.is("setSecond(2)", x.setSecond(2), Steps.NONE);
        due.is("setSecond(6)", x.setSecond(6), 2);
        due.is("setSecond(1)", x.setSecond(1), 6);
        due.is("two acts", x.count(9), 2);
        due.is("count(3)", x.count(3), 1);
        due.is("setSecond(0)", x.setSecond(0), Steps.BAD_VALUE);
        due.is("setSecond(7)", x.setSecond(7), Steps.BAD_VALUE);
        x.prepare(2);
        due.is("setSecond(1) with a ballot", x.setSecond(1), Steps.NOT_POSSIBLE);
        due.is("setSecond(3) with a ballot", x.setSecond(3), Steps.NOT_POSSIBLE);
        due.is("setSecond(0) with a ballot", x.setSecond(0), Steps.BAD_VALUE);
        for (int bad : Steps.HOSTILE) {
            due.is("setSecond(" + bad + ")", x.setSecond(bad), Steps.BAD_VALUE);
        }
        due.is("undo()", x.undo(), 2);
        due.is("setSecond(3) without", x.setSecond(3), 1);
        due.is("setSecond(4)", x.setSecond(4), 3);
        due.is("undo()", x.undo(), 3);
        due.is("count(3)", x.count(3), 3);
        for (int p = 0; p < 3; p++) {
            AgreedSlots y = new AgreedSlots();
            y.prepare(p);
            due.is("setSecond(3) with the ballot of " + p, y.setSecond(3), Steps.NOT_POSSIBLE);
        }
    }

    private static void sizesFollowTheVoters(Due due) {
        int[][] sizes = {{1, 3, 1}, {2, 2, 2}, {3, 1, 3}, {4, 1, 3}, {5, 1, 3}, {6, 1, 3}};
        for (int[] row : sizes) {
            AgreedSlots x = new AgreedSlots();
            x.setSecond(row[0]);
            due.is("first quorums with k = " + row[0], x.slot(1, 3), row[1]);
            due.is("second quorums with k = " + row[0], x.slot(1, 4), row[2]);
        }
        AgreedSlots x = new AgreedSlots();
        x.setSecond(4);
        Steps.lead(x, 0, 1);
        due.is("one promise is enough", x.proposed(0, 1, 2), 0);
        due.is("choose 163 by 0 and 1", Steps.choose(x, 0, 1, 163, 3), Steps.NONE);
        due.is("the third vote", x.vote(0, 1, 2), 3);
        due.is("chosen by all", x.slot(1, 0), 163);
        due.is("first quorums of six voters", x.slot(4, 3), 3);
        due.is("second quorums of six voters", x.slot(4, 4), 4);
    }

    private static void acceptor(Due due) {
        AgreedSlots x = Steps.chosenUpTo(2);
        due.is("votes of 0", x.acceptor(0, 2), 2);
        due.is("votes of 2", x.acceptor(2, 2), 0);
        due.is("promised by 2", x.acceptor(2, 1), 1);
        due.is("promised by 3", x.acceptor(3, 1), 0);
        x.trim(1);
        due.is("votes of 0, one forgotten", x.acceptor(0, 2), 1);
        x.setUp(0, false);
        due.is("0 is down", x.acceptor(0, 0), 0);
        due.is("what it promised", x.acceptor(0, 1), 1);
        due.is("acceptor(5, 3)", x.acceptor(5, 3), Steps.BAD_VALUE);
        due.is("acceptor(6, 3)", x.acceptor(6, 3), Steps.UNKNOWN);
        due.is("acceptor(-1, 0)", x.acceptor(-1, 0), Steps.UNKNOWN);
        for (int bad : Steps.HOSTILE) {
            due.is("acceptor(" + bad + ", 0)", x.acceptor(bad, 0), Steps.UNKNOWN);
            due.is("acceptor(0, " + bad + ")", x.acceptor(0, bad), Steps.BAD_VALUE);
        }
    }

    private static void voted(Due due) {
        AgreedSlots x = Steps.chosenUpTo(2);
        due.is("voted(1, 2, 0)", x.voted(1, 2, 0), 1);
        due.is("voted(1, 2, 1)", x.voted(1, 2, 1), 2);
        due.is("voted(2, 2, 1)", x.voted(2, 2, 1), Steps.NONE);
        due.is("voted(1, 16, 0)", x.voted(1, 16, 0), Steps.NONE);
        Steps.lead(x, 1, 6);
        x.propose(1, 2, 88);
        x.vote(1, 2, 1);
        due.is("the latest ballot", x.voted(1, 2, 0), 2);
        due.is("the value that had to be taken over", x.voted(1, 2, 1), 2);
        x.trim(1);
        due.is("a forgotten vote", x.voted(0, 1, 0), Steps.NONE);
        due.is("a forgotten vote", x.voted(0, 1, 1), Steps.NONE);
        due.is("voted(6, 1, 2)", x.voted(6, 1, 2), Steps.UNKNOWN);
        due.is("voted(0, 0, 2)", x.voted(0, 0, 2), Steps.UNKNOWN);
        due.is("voted(0, 17, 2)", x.voted(0, 17, 2), Steps.UNKNOWN);
        due.is("voted(0, 9, 2)", x.voted(0, 9, 2), Steps.BAD_VALUE);
        for (int bad : Steps.HOSTILE) {
            due.is("voted(" + bad + ", 1, 0)", x.voted(bad, 1, 0), Steps.UNKNOWN);
            due.is("voted(0, " + bad + ", 0)", x.voted(0, bad, 0), Steps.UNKNOWN);
            due.is("voted(0, 1, " + bad + ")", x.voted(0, 1, bad), Steps.BAD_VALUE);
        }
    }
}
