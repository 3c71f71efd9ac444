/** Promises 9 to 12: type, clearText, perform, refusal. */
public final class TextsTest {
    public static void main(String[] args) {
        Due due = new Due("promises 9 to 12");
        type(due);
        faults(due);
        strangeCharacters(due);
        perform(due);
        allOrNone(due);
        nothingToDo(due);
        refusal(due);
        refusalOfEachError(due);
        mostOrders(due);
        due.end();
    }

    private static void type(Due due) {
        AgreedSlots x = new AgreedSlots();
        for (int i = 1; i <= 60; i++) {
            due.is("type", x.type((char) (i * 1000)), i);
        }
        due.is("the 61st", x.type('n'), Steps.FULL);
        due.is("count(10)", x.count(10), 60);
        due.is("no act", x.count(9), 0);
        due.is("clearText()", x.clearText(), 60);
        due.is("clearText() again", x.clearText(), 0);
        due.is("type('n')", x.type('n'), 1);
        x.prepare(0);
        x.undo();
        due.is("undo leaves the text", x.count(10), 1);
        x.keep();
        x.type('0');
        x.restore();
        due.is("restore leaves the text", x.count(10), 2);
        due.is("the text stays", x.perform(), 1);
        due.is("the text stays", x.count(10), 2);
        due.is("once more", x.perform(), 1);
        due.is("ballot", x.proposer(0, 0), 4);
    }

    private static void faults(Due due) {
        String[] texts = {"", "x", "N0", " n0", "n", "n3", "n/", "n:", "n-", "n0n", "n0,", "n00", "n0;", "n0;;",
            "n0; n1", ";", "y", "y0", "y0,", "y0,6", "y0,/", "y00", "y3", "y0;", "y0,0,", "y0,00", "v0,", "v0,0",
            "v0,01", "v0,1", "v0,12", "v0,123", "v0,1234", "v0,1,", "v0,1,0", "v0,1,12a", "v0,1,1234", "v0,999,9999",
            "v01", "v3,1,1", "v0;1", "v0,1;1", "a0,1,6", "a0,1,", "a0,1", "a0,0,1", "a0,1000,1", "a0,1,11", "a3",
            "d", "d6", "d0,", "d00", "u", "u9", "u-1", "u5;d", "d5;u6", "n0;y0,0;v0,1,99;a0,1,0;d3;u3;q"};
        int[] places = {0, 0, 0, 0, 1, 1, 1, 1, 1, 2, 2, 2, 3, 3,
            3, 0, 1, 2, 3, 3, 3, 2, 1, 2, 4, 4, 3, 3,
            3, 4, 5, 6, 6, 5, 5, 7, 8, 10,
            2, 1, 2, 4, 5, 5, 4, 3, 6, 6, 1,
            1, 1, 2, 2, 1, 1, 1, 4, 4, 29};
        for (int i = 0; i < texts.length; i++) {
            AgreedSlots x = new AgreedSlots();
            due.is("perform() of '" + texts[i] + "'", Steps.perform(x, texts[i]), -100 - places[i]);
            due.is("no ballot", x.proposer(0, 0), 0);
            due.is("no act", x.count(9), 0);
            due.is("no refusal", x.refusal(0), Steps.NONE);
            due.is("the text stays", x.count(10), texts[i].length());
        }
    }

    private static void strangeCharacters(Due due) {
        for (int code = 0; code <= 0xFFFF; code += code < 300 ? 1 : 251) {
            char c = (char) code;
            AgreedSlots x = new AgreedSlots();
            x.type(c);
            boolean begins = c == 'n' || c == 'y' || c == 'v' || c == 'a' || c == 'd' || c == 'u';
            due.is("a text of the character " + code, x.perform(), begins ? -101 : -100);
            x.clearText();
            x.type('n');
            x.type(c);
            int due2 = c >= '0' && c <= '2' ? 1 : -101;
            due.is("n and the character " + code, x.perform(), due2);
        }
        AgreedSlots x = new AgreedSlots();
        x.type('n');
        x.type((char) 0x0660);
        due.is("another script's zero", x.perform(), -101);
        Steps.write(x, "n0");
        x.type((char) 0);
        due.is("a NUL at the end", x.perform(), -102);
    }

    private static void perform(Due due) {
        AgreedSlots x = new AgreedSlots();
        due.is("a whole round", Steps.perform(x, "n1;y1,0;y1,2;v1,1,42;a1,1,0;a1,1,2;d4;u4;d5"), 9);
        due.is("one act", x.count(9), 1);
        due.is("chosen", x.slot(1, 0), 42);
        due.is("by ballot", x.slot(1, 1), 2);
        due.is("up", x.count(4), 31);
        due.is("undo()", x.undo(), 0);
        due.is("all undone", x.slot(1, 0), Steps.NONE);
        due.is("all undone", x.proposer(1, 0), 0);
        due.is("all undone", x.count(4), 63);
        due.is("long numbers", Steps.perform(x, "n2;y2,0;y2,1;v2,3,163;a2,3,1"), 5);
        due.is("value", x.proposed(2, 3, 0), 163);
        due.is("vote", x.voted(1, 3, 1), 163);
        due.is("n2", Steps.perform(x, "n2"), 1);
        due.is("a refused promise is no refused order", Steps.perform(x, "y2,0;n1;y1,0;n0;y0,0"), 5);
        due.is("promises refused", x.count(6), 2);
        due.is("heard", x.proposer(1, 1), 6);
    }

    private static void allOrNone(Due due) {
        AgreedSlots x = new AgreedSlots();
        x.prepare(0);
        x.promise(0, 0);
        String before = Steps.picture(x);
        due.is("the last is refused", Steps.perform(x, "n0;y0,1;y0,2;v0,1,7;a0,1,1;a0,1,3"), Steps.NOT_POSSIBLE);
        due.holds("nothing has changed", before.equals(Steps.picture(x)));
        due.is("no act", x.count(9), 2);
        due.is("refusal(0)", x.refusal(0), 5);
        due.is("refusal(1)", x.refusal(1), Steps.NOT_POSSIBLE);
        due.is("refusal(2)", x.refusal(2), 27);
        due.is("refused ones are taken back", Steps.perform(x, "n1;y1,0;n0;n1;y0,0;y0,0;v1,1,100"), Steps.NOT_POSSIBLE);
        due.is("refusal(1)", x.refusal(1), Steps.BAD_VALUE);
        due.is("promises refused", x.count(6), 0);
        due.holds("nothing has changed", before.equals(Steps.picture(x)));
        due.is("undo()", x.undo(), 1);
        due.is("the state of before", x.proposer(0, 2), 0);
    }

    private static void nothingToDo(Due due) {
        AgreedSlots x = new AgreedSlots();
        String before = Steps.picture(x);
        due.is("it is up already", Steps.perform(x, "u0"), 1);
        due.is("it is one act all the same", x.count(9), 1);
        due.holds("nothing has changed", before.equals(Steps.picture(x)));
        due.is("down twice", Steps.perform(x, "d0;d0;u0;u0;n0;y0,1;y0,1"), 7);
        due.is("no refusal", x.refusal(1), Steps.NONE);
        due.is("one ballot", x.proposer(0, 0), 1);
    }

    private static void refusal(Due due) {
        AgreedSlots x = new AgreedSlots();
        for (int what = 0; what <= 2; what++) {
            due.is("refusal(" + what + ")", x.refusal(what), Steps.NONE);
        }
        due.is("refusal(3)", x.refusal(3), Steps.BAD_VALUE);
        due.is("refusal(-1)", x.refusal(-1), Steps.BAD_VALUE);
        due.is("perform()", Steps.perform(x, "y0,0"), Steps.NOT_POSSIBLE);
        due.is("refusal(0)", x.refusal(0), 0);
        due.is("refusal(1)", x.refusal(1), Steps.NOT_POSSIBLE);
        due.is("refusal(2)", x.refusal(2), 0);
        due.is("a fault", Steps.perform(x, "n0;z"), -103);
        due.is("it stays", x.refusal(1), Steps.NOT_POSSIBLE);
        due.is("a good one", Steps.perform(x, "n0"), 1);
        due.is("it stays", x.refusal(1), Steps.NOT_POSSIBLE);
        due.is("another", Steps.perform(x, "n0;n1;a0,17,1"), Steps.NOT_POSSIBLE);
        due.is("refusal(0)", x.refusal(0), 2);
        due.is("refusal(1)", x.refusal(1), Steps.UNKNOWN);
        due.is("refusal(2)", x.refusal(2), 6);
        x.keep();
        x.restore();
        x.undo();
        x.undo();
        due.is("undo leaves it", x.refusal(0), 2);
        x.clearText();
        due.is("clearText leaves it", x.refusal(2), 6);
        due.is("refused calls do not count", x.promise(2, 0), Steps.NOT_POSSIBLE);
        due.is("refusal(1)", x.refusal(1), Steps.UNKNOWN);
        for (int bad : Steps.HOSTILE) {
            due.is("refusal(" + bad + ")", x.refusal(bad), Steps.BAD_VALUE);
        }
    }

    private static void refusalOfEachError(Due due) {
        String[] texts = {"v0,17,1", "v0,1,100", "v0,1,164", "v0,1,999", "v0,999,999", "v0,1,1", "a0,1,0", "a0,16,5",
            "a0,100,0"};
        int[] errors = {Steps.UNKNOWN, Steps.BAD_VALUE, Steps.BAD_VALUE, Steps.BAD_VALUE, Steps.UNKNOWN,
            Steps.NOT_POSSIBLE, Steps.NOT_POSSIBLE, Steps.NOT_POSSIBLE, Steps.UNKNOWN};
        for (int i = 0; i < texts.length; i++) {
            AgreedSlots x = new AgreedSlots();
            due.is("perform() of " + texts[i], Steps.perform(x, "u1;" + texts[i]), Steps.NOT_POSSIBLE);
            due.is("refusal(0)", x.refusal(0), 1);
            due.is("refusal(1) of " + texts[i], x.refusal(1), errors[i]);
            due.is("refusal(2)", x.refusal(2), 3);
        }
    }

    private static void mostOrders(Due due) {
        String nineteen = "n0;n1;n2;n0;n1;n2;n0;n1;n2;n0;n1;n2;n0;n1;n2;n0;n1;n2;n0;";
        AgreedSlots x = new AgreedSlots();
        due.is("nineteen and a ;", Steps.perform(x, nineteen), -157);
        due.is("twenty", Steps.perform(x, nineteen + "n1"), 20);
        due.is("ballot", x.proposer(1, 0), 20);
        due.is("twenty and a ;", Steps.perform(x, nineteen + "n1;"), -160);
        due.is("twenty and an n", Steps.perform(x, nineteen + "n1n"), -159);
        due.is("sixty characters", Steps.perform(x, nineteen + "n1;n1"), -160);
        due.is("length", x.count(10), 60);
        due.is("refused at the end", Steps.perform(x, "u0;u1;u2;u0;u1;u2;u0;u1;u2;u0;u1;u2;u0;u1;u2;y1,1"), 16);
        due.is("refused at the end", Steps.perform(x, "u0;u1;u2;u0;u1;u2;u0;u1;u2;u0;u1;u2;u0;u1;u2;a1,1,1"),
            Steps.NOT_POSSIBLE);
        due.is("refusal(0)", x.refusal(0), 15);
        due.is("refusal(2)", x.refusal(2), 45);
    }
}
