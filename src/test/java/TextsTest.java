/** Promises 9 to 12: type, clearText, perform, refusal. */
public final class TextsTest {
    public static void main(String[] args) {
        Due due = new Due("promises 9 to 12");
        type(due);
        faults(due);
        textsThatEndTooEarly(due);
        eachCharacterAtEachPlace(due);
        numbersOfOneToThreeDigits(due);
        strangeCharacters(due);
        perform(due);
        allOrNone(due);
        nothingToDo(due);
        refusal(due);
        refusalOfEachError(due);
        mostOrders(due);
        sixtyCharacters(due);
        theTextStays(due);
        due.end();
    }

    private static void type(Due due) {
        AgreedSlots x = new AgreedSlots();
        for (int i = 1; i <= 60; i++) {
            due.is("type", x.type((char) (i * 1000)), i);
        }
        due.is("the 61st", x.type('n'), Steps.FULL);
        due.is("count(10)", x.count(10), 60);
        due.is("no act", x.count(9), 0);
        due.is("clearText()", x.clearText(), 60);
        due.is("clearText() again", x.clearText(), 0);
        due.is("type('n')", x.type('n'), 1);
        x.prepare(0);
        x.undo();
        due.is("undo leaves the text", x.count(10), 1);
        x.keep();
        x.type('0');
        x.restore();
        due.is("restore leaves the text", x.count(10), 2);
        due.is("the text stays", x.perform(), 1);
        due.is("the text stays", x.count(10), 2);
        due.is("once more", x.perform(), 1);
        due.is("ballot", x.proposer(0, 0), 4);
    }

    private static void faults(Due due) {
        String[] texts = {"", "x", "N0", " n0", "n", "n3", "n/", "n:", "n-", "n0n", "n0,", "n00", "n0;", "n0;;",
            "n0; n1", ";", "y", "y0", "y0,", "y0,6", "y0,/", "y00", "y3", "y0;", "y0,0,", "y0,00", "v0,", "v0,0",
            "v0,01", "v0,1", "v0,12", "v0,123", "v0,1234", "v0,1,", "v0,1,0", "v0,1,12a", "v0,1,1234", "v0,999,9999",
            "v01", "v3,1,1", "v0;1", "v0,1;1", "a0,1,6", "a0,1,", "a0,1", "a0,0,1", "a0,1000,1", "a0,1,11", "a3",
            "d", "d6", "d0,", "d00", "u", "u9", "u-1", "u5;d", "d5;u6", "n0;y0,0;v0,1,99;a0,1,0;d3;u3;q"};
        int[] places = {0, 0, 0, 0, 1, 1, 1, 1, 1, 2, 2, 2, 3, 3,
            3, 0, 1, 2, 3, 3, 3, 2, 1, 2, 4, 4, 3, 3,
            3, 4, 5, 6, 6, 5, 5, 7, 8, 10,
            2, 1, 2, 4, 5, 5, 4, 3, 6, 6, 1,
            1, 1, 2, 2, 1, 1, 1, 4, 4, 29};
        for (int i = 0; i < texts.length; i++) {
            AgreedSlots x = new AgreedSlots();
            due.is("perform() of '" + texts[i] + "'", Steps.perform(x, texts[i]), -100 - places[i]);
            due.is("no ballot", x.proposer(0, 0), 0);
            due.is("no act", x.count(9), 0);
            due.is("no refusal", x.refusal(0), Steps.NONE);
            due.is("the text stays", x.count(10), texts[i].length());
        }
    }

    /** The length of the text if it ends too early: each beginning of a text, the empty one too. */
    private static void textsThatEndTooEarly(Due due) {
        String text = "n0;y0,5;v2,16,163;a1,9,4;d5;u0";
        boolean[] ends = new boolean[text.length() + 1];
        for (int end : new int[] {2, 7, 15, 16, 17, 24, 27, 30}) {
            ends[end] = true;
        }
        for (int length = 0; length <= text.length(); length++) {
            AgreedSlots x = new AgreedSlots();
            int answer = Steps.perform(x, text.substring(0, length));
            int done = length == 2 ? 1 : length == 7 ? 2 : Steps.NOT_POSSIBLE;
            due.is("the first " + length + " of " + text, answer, ends[length] ? done : -100 - length);
        }
    }

    /** The fault is the first character that is not allowed at its place, whatever comes behind it. */
    private static void eachCharacterAtEachPlace(Due due) {
        String text = "d5;v2,16,163;n0;a1,9,4;y0,5;u0";
        for (int place = 0; place < text.length(); place++) {
            for (int code = 0; code < 256; code++) {
                Model model = new Model();
                model.text.append(text).setCharAt(place, (char) code);
                AgreedSlots x = new AgreedSlots();
                int answer = Steps.perform(x, model.text.toString());
                int fault = model.fault();
                boolean read = answer > 0 || answer == Steps.NOT_POSSIBLE;
                due.is("the character " + code + " at " + place, read ? -1 : -100 - answer, fault);
            }
        }
    }

    /** Slots and values by one to three digits, without a zero in front (so not by a single 0 either). */
    private static void numbersOfOneToThreeDigits(Due due) {
        for (int number = 0; number <= 1000; number++) {
            String digits = Integer.toString(number);
            int fault = number == 0 ? 0 : number > 999 ? 3 : -1;
            AgreedSlots x = new AgreedSlots();
            Steps.lead(x, 0, 3);
            int slot = Steps.perform(x, "v0," + digits + ",9");
            boolean possible = number <= 3;
            due.is("the slot " + digits, slot, fault >= 0 ? -103 - fault : possible ? 1 : Steps.NOT_POSSIBLE);
            x.setUp(5, false);
            int value = Steps.perform(x, "v0,2," + digits + ";d5");
            boolean free = number != 2 && number <= 163 && number != 100;
            due.is("the value " + digits, value, fault >= 0 ? -105 - fault : free ? 2 : Steps.NOT_POSSIBLE);
        }
        AgreedSlots x = new AgreedSlots();
        for (String digits : new String[] {"00", "01", "007", "0999"}) {
            due.is("the slot " + digits, Steps.perform(x, "v0," + digits + ",9"), -103);
            due.is("the value " + digits, Steps.perform(x, "v0,9," + digits), -105);
            due.is("the slot of a vote " + digits, Steps.perform(x, "a0," + digits + ",0"), -103);
        }
    }

    private static void strangeCharacters(Due due) {
        for (int code = 0; code <= 0xFFFF; code += code < 300 ? 1 : 251) {
            char c = (char) code;
            AgreedSlots x = new AgreedSlots();
            x.type(c);
            boolean begins = c == 'n' || c == 'y' || c == 'v' || c == 'a' || c == 'd' || c == 'u';
            due.is("a text of the character " + code, x.perform(), begins ? -101 : -100);
            x.clearText();
            x.type('n');
            x.type(c);
            int due2 = c >= '0' && c <= '2' ? 1 : -101;
            due.is("n and the character " + code, x.perform(), due2);
        }
        AgreedSlots x = new AgreedSlots();
        x.type('n');
        x.type((char) 0x0660);
        due.is("another script's zero", x.perform(), -101);
        Steps.write(x, "n0");
        x.type((char) 0);
        due.is("a NUL at the end", x.perform(), -102);
    }

    private static void perform(Due due) {
        AgreedSlots x = new AgreedSlots();
        due.is("a whole round", Steps.perform(x, "n1;y1,0;y1,2;v1,1,42;a1,1,0;a1,1,2;d4;u4;d5"), 9);
        due.is("one act", x.count(9), 1);
        due.is("chosen", x.slot(1, 0), 42);
        due.is("by ballot", x.slot(1, 1), 2);
        due.is("up", x.count(4), 31);
        due.is("undo()", x.undo(), 0);
        due.is("all undone", x.slot(1, 0), Steps.NONE);
        due.is("all undone", x.proposer(1, 0), 0);
        due.is("all undone", x.count(4), 63);
        due.is("long numbers", Steps.perform(x, "n2;y2,0;y2,1;v2,3,163;a2,3,1"), 5);
        due.is("value", x.proposed(2, 3, 0), 163);
        due.is("vote", x.voted(1, 3, 1), 163);
        due.is("n2", Steps.perform(x, "n2"), 1);
        due.is("a refused promise is no refused order", Steps.perform(x, "y2,0;n1;y1,0;n0;y0,0"), 5);
        due.is("promises refused", x.count(6), 2);
        due.is("heard", x.proposer(1, 1), 6);
    }

    private static void allOrNone(Due due) {
        AgreedSlots x = new AgreedSlots();
        x.prepare(0);
        x.promise(0, 0);
        String before = Steps.picture(x);
        due.is("the last is refused", Steps.perform(x, "n0;y0,1;y0,2;v0,1,7;a0,1,1;a0,1,3"), Steps.NOT_POSSIBLE);
        due.holds("nothing has changed", before.equals(Steps.picture(x)));
        due.is("no act", x.count(9), 2);
        due.is("refusal(0)", x.refusal(0), 5);
        due.is("refusal(1)", x.refusal(1), Steps.NOT_POSSIBLE);
        due.is("refusal(2)", x.refusal(2), 27);
        due.is("refused ones are taken back", Steps.perform(x, "n1;y1,0;n0;n1;y0,0;y0,0;v1,1,100"), Steps.NOT_POSSIBLE);
        due.is("refusal(1)", x.refusal(1), Steps.BAD_VALUE);
        due.is("promises refused", x.count(6), 0);
        due.holds("nothing has changed", before.equals(Steps.picture(x)));
        due.is("undo()", x.undo(), 1);
        due.is("the state of before", x.proposer(0, 2), 0);
    }

    private static void nothingToDo(Due due) {
        AgreedSlots x = new AgreedSlots();
        String before = Steps.picture(x);
        due.is("it is up already", Steps.perform(x, "u0"), 1);
        due.is("it is one act all the same", x.count(9), 1);
        due.holds("nothing has changed", before.equals(Steps.picture(x)));
        due.is("down twice", Steps.perform(x, "d0;d0;u0;u0;n0;y0,1;y0,1"), 7);
        due.is("no refusal", x.refusal(1), Steps.NONE);
        due.is("one ballot", x.proposer(0, 0), 1);
    }

    private static void refusal(Due due) {
        AgreedSlots x = new AgreedSlots();
        for (int what = 0; what <= 2; what++) {
            due.is("refusal(" + what + ")", x.refusal(what), Steps.NONE);
        }
        due.is("refusal(3)", x.refusal(3), Steps.BAD_VALUE);
        due.is("refusal(-1)", x.refusal(-1), Steps.BAD_VALUE);
        due.is("perform()", Steps.perform(x, "y0,0"), Steps.NOT_POSSIBLE);
        due.is("refusal(0)", x.refusal(0), 0);
        due.is("refusal(1)", x.refusal(1), Steps.NOT_POSSIBLE);
        due.is("refusal(2)", x.refusal(2), 0);
        due.is("a fault", Steps.perform(x, "n0;z"), -103);
        due.is("it stays", x.refusal(1), Steps.NOT_POSSIBLE);
        due.is("a good one", Steps.perform(x, "n0"), 1);
        due.is("it stays", x.refusal(1), Steps.NOT_POSSIBLE);
        due.is("another", Steps.perform(x, "n0;n1;a0,17,1"), Steps.NOT_POSSIBLE);
        due.is("refusal(0)", x.refusal(0), 2);
        due.is("refusal(1)", x.refusal(1), Steps.UNKNOWN);
        due.is("refusal(2)", x.refusal(2), 6);
        x.keep();
        x.restore();
        x.undo();
        x.undo();
        due.is("undo leaves it", x.refusal(0), 2);
        x.clearText();
        due.is("clearText leaves it", x.refusal(2), 6);
        due.is("refused calls do not count", x.promise(2, 0), Steps.NOT_POSSIBLE);
        due.is("refusal(1)", x.refusal(1), Steps.UNKNOWN);
        for (int bad : Steps.HOSTILE) {
            due.is("refusal(" + bad + ")", x.refusal(bad), Steps.BAD_VALUE);
        }
    }

    private static void refusalOfEachError(Due due) {
        String[] texts = {"v0,17,1", "v0,1,100", "v0,1,164", "v0,1,999", "v0,999,999", "v0,1,1", "a0,1,0", "a0,16,5",
            "a0,100,0"};
        int[] errors = {Steps.UNKNOWN, Steps.BAD_VALUE, Steps.BAD_VALUE, Steps.BAD_VALUE, Steps.UNKNOWN,
            Steps.NOT_POSSIBLE, Steps.NOT_POSSIBLE, Steps.NOT_POSSIBLE, Steps.UNKNOWN};
        for (int i = 0; i < texts.length; i++) {
            AgreedSlots x = new AgreedSlots();
            due.is("perform() of " + texts[i], Steps.perform(x, "u1;" + texts[i]), Steps.NOT_POSSIBLE);
            due.is("refusal(0)", x.refusal(0), 1);
            due.is("refusal(1) of " + texts[i], x.refusal(1), errors[i]);
            due.is("refusal(2)", x.refusal(2), 3);
        }
    }

    private static void mostOrders(Due due) {
        String nineteen = "n0;n1;n2;n0;n1;n2;n0;n1;n2;n0;n1;n2;n0;n1;n2;n0;n1;n2;n0;";
        AgreedSlots x = new AgreedSlots();
        due.is("nineteen and a ;", Steps.perform(x, nineteen), -157);
        due.is("twenty", Steps.perform(x, nineteen + "n1"), 20);
        due.is("ballot", x.proposer(1, 0), 20);
        due.is("twenty and a ;", Steps.perform(x, nineteen + "n1;"), -160);
        due.is("twenty and an n", Steps.perform(x, nineteen + "n1n"), -159);
        due.is("sixty characters", Steps.perform(x, nineteen + "n1;n1"), -160);
        due.is("length", x.count(10), 60);
        due.is("refused at the end", Steps.perform(x, "u0;u1;u2;u0;u1;u2;u0;u1;u2;u0;u1;u2;u0;u1;u2;y1,1"), 16);
        due.is("refused at the end", Steps.perform(x, "u0;u1;u2;u0;u1;u2;u0;u1;u2;u0;u1;u2;u0;u1;u2;a1,1,1"),
            Steps.NOT_POSSIBLE);
        due.is("refusal(0)", x.refusal(0), 15);
        due.is("refusal(2)", x.refusal(2), 45);
    }

    /** A text of at most 60 characters: one that fills it is read to its end. */
    private static void sixtyCharacters(Due due) {
        AgreedSlots x = new AgreedSlots();
        String text = "n0;".repeat(17) + "y0,0;y0,5";
        due.is("sixty characters", Steps.perform(x, text), 19);
        due.is("length", x.count(10), 60);
        due.is("the last order is done", x.proposer(0, 2), 33);
        Steps.write(x, text.substring(0, 59));
        due.is("an acceptor is missing", x.perform(), -159);
        due.is("a wrong one is typed", x.type('6'), 60);
        due.is("the fault is the last character", x.perform(), -159);
        Steps.write(x, text + "0");
        due.is("the 61st is not typed", x.perform(), 19);
        Steps.write(x, "n0;".repeat(20));
        due.is("too early at the end of the room", x.perform(), -160);
        due.is("a character at the end of the room", x.type('n'), Steps.FULL);
        due.is("it is not typed", x.perform(), -160);
        due.is("clearText()", x.clearText(), 60);
        due.is("the least character", x.type((char) 0), 1);
        due.is("the greatest character", x.type((char) 65535), 2);
    }

    /** Performs the orders of the text, which stays: done, refused, or with a fault. */
    private static void theTextStays(Due due) {
        AgreedSlots x = new AgreedSlots();
        due.is("the empty text", x.perform(), -100);
        due.is("no length", x.count(10), 0);
        due.is("done", Steps.perform(x, "d3;n1"), 2);
        due.is("length", x.count(10), 5);
        due.is("done again", x.perform(), 2);
        due.is("two ballots", x.proposer(1, 0), 5);
        x.type(';');
        due.is("with a fault", x.perform(), -106);
        due.is("length", x.count(10), 6);
        x.type('y');
        x.type('1');
        x.type(',');
        x.type('3');
        due.is("refused", x.perform(), Steps.NOT_POSSIBLE);
        due.is("length", x.count(10), 10);
        due.is("the third order", x.refusal(0), 2);
        due.is("refused again", x.perform(), Steps.NOT_POSSIBLE);
        due.is("clearText()", x.clearText(), 10);
        due.is("no more fault than that of the empty text", x.perform(), -100);
    }
}
