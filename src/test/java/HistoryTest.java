/** Promises 13 to 15: undo, keep, restore; and which calls are acts. */
public final class HistoryTest {
    public static void main(String[] args) {
        Due due = new Due("promises 13 to 15");
        undo(due);
        undoBringsAllBack(due);
        undoBringsToldVotesBack(due);
        undoBringsToldBallotsBack(due);
        oldestIsDropped(due);
        snapshot(due);
        restoreIsAnAct(due);
        whatIsNoAct(due);
        due.end();
    }

    private static void undo(Due due) {
        AgreedSlots x = new AgreedSlots();
        due.is("undo()", x.undo(), Steps.NONE);
        x.prepare(0);
        x.setUp(3, false);
        due.is("count(9)", x.count(9), 2);
        due.is("undo()", x.undo(), 1);
        due.is("count(4)", x.count(4), 63);
        due.is("proposer(0, 0)", x.proposer(0, 0), 1);
        due.is("undo()", x.undo(), 0);
        due.is("proposer(0, 0)", x.proposer(0, 0), 0);
        due.is("undo()", x.undo(), Steps.NONE);
        due.is("an undo is not undone", x.proposer(0, 0), 0);
    }

    private static void undoBringsAllBack(Due due) {
        AgreedSlots x = new AgreedSlots();
        String[] before = new String[40];
        String[] orders = {"d5", "n0", "y0,0", "y0,1", "v0,1,7", "a0,1,0", "a0,1,1", "n1", "y1,1", "y1,2", "a0,1,1",
            "y0,2", "v1,1,9", "a1,1,2", "a1,1,1", "v1,2,144", "a1,2,1", "a1,2,2", "v1,3,1", "a1,3,1", "a1,3,0",
            "n2", "y1,0", "n1"};
        for (int i = 0; i < orders.length; i++) {
            before[i] = Steps.picture(x);
            due.is("perform() of " + orders[i], Steps.perform(x, orders[i]), 1);
            if (i >= 3 && i % 4 == 3) {
                backAndForth(due, x, before, orders, i);
            }
        }
        before[orders.length] = Steps.picture(x);
        x.trim(2);
        x.undo();
        due.holds("trim is undone", before[orders.length].equals(Steps.picture(x)));
    }

    private static void backAndForth(Due due, AgreedSlots x, String[] before, String[] orders, int last) {
        String now = Steps.picture(x);
        for (int back = 0; back < 4; back++) {
            due.is("undo()", x.undo(), 3 - back);
            due.holds("state " + (last - back), before[last - back].equals(Steps.picture(x)));
        }
        for (int again = 3; again >= 0; again--) {
            Steps.perform(x, orders[last - again]);
        }
        due.holds("the same calls, the same state", now.equals(Steps.picture(x)));
    }

    private static void undoBringsToldVotesBack(Due due) {
        AgreedSlots x = Steps.chosenUpTo(1);
        Steps.lead(x, 1, 3);
        x.propose(1, 2, 40);
        x.vote(1, 2, 0);
        due.is("told of slot 1", x.proposed(1, 1, 1), 1);
        due.is("told nothing of slot 2", x.proposed(1, 2, 1), 0);
        x.keep();
        x.prepare(1);
        x.promise(1, 0);
        due.is("told of slot 2", x.proposed(1, 2, 1), 40);
        x.undo();
        x.undo();
        due.is("told nothing of slot 2", x.proposed(1, 2, 1), 0);
        Steps.lead(x, 1, 1);
        x.trim(1);
        Steps.lead(x, 1, 1);
        due.is("told nothing of slot 1", x.proposed(1, 1, 1), 0);
        x.restore();
        due.is("restored: told of slot 1", x.proposed(1, 1, 1), 1);
        due.is("restored: told nothing of slot 2", x.proposed(1, 2, 1), 0);
    }

    private static void undoBringsToldBallotsBack(Due due) {
        AgreedSlots x = new AgreedSlots();
        Steps.lead(x, 0, 3);
        x.propose(0, 1, 11);
        x.vote(0, 1, 0);
        Steps.lead(x, 1, 6);
        x.propose(1, 1, 22);
        x.vote(1, 1, 2);
        Steps.lead(x, 2, 5);
        due.is("22 of ballot 2, ahead of 11 of ballot 1", x.proposed(2, 1, 1), 22);
        Steps.lead(x, 0, 3);
        x.propose(0, 1, 33);
        x.vote(0, 1, 0);
        x.prepare(2);
        due.is("promise(2, 0)", x.promise(2, 0), 1);
        due.is("11 of ballot 4", x.proposed(2, 1, 1), 11);
        x.undo();
        x.undo();
        due.is("22 of ballot 2 again", x.proposed(2, 1, 1), 22);
    }

    private static void oldestIsDropped(Due due) {
        AgreedSlots x = new AgreedSlots();
        for (int i = 0; i < 11; i++) {
            x.prepare(0);
        }
        due.is("ballot", x.proposer(0, 0), 31);
        due.is("count(9)", x.count(9), 4);
        for (int left = 3; left >= 0; left--) {
            due.is("undo()", x.undo(), left);
            due.is("ballot", x.proposer(0, 0), 19 + 3 * left);
        }
        due.is("undo()", x.undo(), Steps.NONE);
        due.is("ballot", x.proposer(0, 0), 19);
    }

    private static void snapshot(Due due) {
        AgreedSlots x = Steps.chosenUpTo(2);
        due.is("keep()", x.keep(), 2);
        String kept = Steps.picture(x);
        Steps.choose(x, 0, 3, 5, 7);
        x.trim(3);
        x.setUp(2, false);
        Steps.lead(x, 2, 7);
        due.is("restore()", x.restore(), 2);
        due.holds("as it was", kept.equals(Steps.picture(x)));
        x.prepare(1);
        due.is("the snapshot stays", x.restore(), 2);
        due.holds("as it was", kept.equals(Steps.picture(x)));
        Steps.choose(x, 0, 3, 5, 7);
        due.is("keep() in its place", x.keep(), 3);
        x.undo();
        x.undo();
        x.undo();
        x.undo();
        due.is("undone", x.count(0), 2);
        due.is("the snapshot outlives undo", x.restore(), 3);
        AgreedSlots y = new AgreedSlots();
        due.is("keep() of a new object", y.keep(), 0);
        y.prepare(0);
        due.is("restore()", y.restore(), 0);
        due.is("no ballot", y.proposer(0, 0), 0);
        due.is("setSecond(3) is possible again", y.setSecond(3), 2);
    }

    private static void restoreIsAnAct(Due due) {
        AgreedSlots x = new AgreedSlots();
        due.is("restore() without one", x.restore(), Steps.NONE);
        due.is("no act", x.count(9), 0);
        x.keep();
        due.is("keep is no act", x.count(9), 0);
        x.prepare(0);
        due.is("restore()", x.restore(), 0);
        due.is("count(9)", x.count(9), 2);
        due.is("restore() of the same", x.restore(), 0);
        due.is("count(9)", x.count(9), 3);
        x.undo();
        due.is("undo of restore", x.undo(), 1);
        due.is("ballot", x.proposer(0, 0), 1);
    }

    private static void whatIsNoAct(Due due) {
        AgreedSlots x = new AgreedSlots();
        x.setUp(0, true);
        x.setUp(9, true);
        x.setSecond(2);
        x.setSecond(9);
        x.prepare(5);
        x.promise(0, 0);
        x.promise(9, 0);
        x.propose(0, 1, 1);
        x.propose(0, 1, 0);
        x.vote(0, 1, 0);
        x.trim(1);
        x.trim(0);
        x.type('q');
        x.perform();
        x.clearText();
        x.keep();
        x.undo();
        Steps.picture(x);
        due.is("count(9)", x.count(9), 0);
        x.setSecond(3);
        due.is("setSecond is one", x.count(9), 1);
        x.setUp(5, false);
        due.is("setUp is one", x.count(9), 2);
        x.prepare(0);
        due.is("prepare is one", x.count(9), 3);
        x.promise(0, 0);
        due.is("promise is one", x.count(9), 4);
        x.undo();
        x.undo();
        x.promise(0, 0);
        due.is("a promise without a ballot is none", x.count(9), 2);
        x.prepare(0);
        x.undo();
        x.undo();
        x.undo();
        due.is("all undone", x.count(3), 2);
        AgreedSlots y = Steps.chosenUpTo(1);
        y.undo();
        y.undo();
        due.is("propose and vote are acts", y.proposed(0, 1, 0), 1);
        due.is("undo()", y.undo(), 1);
        due.is("propose is undone", y.proposed(0, 1, 0), Steps.NONE);
    }
}
