/** Promise 1, and the constants. */
public final class NewObjectTest {
    public static void main(String[] args) {
        Due due = new Due("promise 1, a new object");
        due.is("UNKNOWN", AgreedSlots.UNKNOWN, -1);
        due.is("BAD_VALUE", AgreedSlots.BAD_VALUE, -2);
        due.is("FULL", AgreedSlots.FULL, -3);
        due.is("NOT_POSSIBLE", AgreedSlots.NOT_POSSIBLE, -4);
        due.is("NONE", AgreedSlots.NONE, -5);
        AgreedSlots x = new AgreedSlots();
        int[] counts = {0, 0, 0, 2, 63, 3, 0, 0, 0, 0, 0};
        for (int what = 0; what < counts.length; what++) {
            due.is("count(" + what + ")", x.count(what), counts[what]);
        }
        for (int a = 0; a < 6; a++) {
            due.is("acceptor(" + a + ", 0)", x.acceptor(a, 0), 1);
            due.is("acceptor(" + a + ", 1)", x.acceptor(a, 1), 0);
            due.is("acceptor(" + a + ", 2)", x.acceptor(a, 2), 0);
        }
        for (int p = 0; p < 3; p++) {
            for (int what = 0; what < 4; what++) {
                due.is("proposer(" + p + ", " + what + ")", x.proposer(p, what), 0);
            }
        }
        for (int slot = 1; slot <= 16; slot++) {
            boolean open = slot <= 3;
            due.is("slot(" + slot + ", 0)", x.slot(slot, 0), Steps.NONE);
            due.is("slot(" + slot + ", 1)", x.slot(slot, 1), Steps.NONE);
            due.is("slot(" + slot + ", 2)", x.slot(slot, 2), open ? 7 : Steps.NONE);
            due.is("slot(" + slot + ", 3)", x.slot(slot, 3), open ? 2 : Steps.NONE);
            due.is("slot(" + slot + ", 4)", x.slot(slot, 4), open ? 2 : Steps.NONE);
            due.is("slot(" + slot + ", 5)", x.slot(slot, 5), 0);
        }
        due.is("refusal(0)", x.refusal(0), Steps.NONE);
        due.is("undo()", x.undo(), Steps.NONE);
        due.is("restore()", x.restore(), Steps.NONE);
        due.is("clearText()", x.clearText(), 0);
        twoObjectsAreApart(due);
        due.end();
    }

    private static void twoObjectsAreApart(Due due) {
        AgreedSlots x = new AgreedSlots();
        AgreedSlots y = new AgreedSlots();
        Steps.lead(x, 0, 7);
        Steps.choose(x, 0, 1, 9, 7);
        x.type('n');
        x.keep();
        due.is("y.count(0)", y.count(0), 0);
        due.is("y.count(9)", y.count(9), 0);
        due.is("y.count(10)", y.count(10), 0);
        due.is("y.proposer(0, 0)", y.proposer(0, 0), 0);
        due.is("y.restore()", y.restore(), Steps.NONE);
    }
}
