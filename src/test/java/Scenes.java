/** Objects in states that lie far apart: empty ones, full ones, and what is between. */
final class Scenes {
    static final String[] NAMES = {"new", "under way", "with a gap", "after a refused text", "all chosen",
        "ballots at the end", "all down"};

    private Scenes() {
    }

    static AgreedSlots scene(int number) {
        return switch (number) {
            case 0 -> new AgreedSlots();
            case 1 -> underWay();
            case 2 -> withGap();
            case 3 -> afterRefusedText();
            case 4 -> allChosen();
            case 5 -> ballotsAtTheEnd();
            default -> allDown();
        };
    }

    /** No snapshot, a full history, refused promises and votes, a text with a fault. */
    private static AgreedSlots underWay() {
        AgreedSlots x = Steps.chosenUpTo(2);
        Steps.lead(x, 1, 38);
        x.propose(1, 3, 133);
        x.vote(1, 3, 2);
        x.promise(0, 1);
        x.prepare(2);
        x.promise(2, 0);
        x.propose(0, 3, 9);
        x.vote(0, 3, 0);
        x.setUp(4, false);
        Steps.write(x, "n0;y0,");
        return x;
    }

    /** The slots 2 and 3 are chosen and 1 is not; a snapshot, one state in the history, a text that can be done. */
    private static AgreedSlots withGap() {
        AgreedSlots x = new AgreedSlots();
        Steps.perform(x, "n1;y1,0;y1,1;y1,5;v1,2,163;a1,2,0;a1,2,1;v1,1,4;a1,1,2");
        x.keep();
        x.undo();
        Steps.perform(x, "n0;y0,0;y0,2;v0,3,7;a0,3,0;a0,3,2;v0,2,8;a0,2,0;a0,2,2");
        Steps.write(x, "y0,1;v0,1,99;n2");
        return x;
    }

    /** A text whose third order is refused stands there and was performed. */
    private static AgreedSlots afterRefusedText() {
        AgreedSlots x = new AgreedSlots();
        x.setSecond(1);
        x.keep();
        Steps.lead(x, 0, 7);
        Steps.choose(x, 0, 1, 112, 2);
        Steps.perform(x, "n1;y1,3;v1,17,1;d3");
        return x;
    }

    /** Six voters, all slots chosen, half of them trimmed, a full text and a full history. */
    private static AgreedSlots allChosen() {
        AgreedSlots x = new AgreedSlots();
        Steps.lead(x, 0, 63);
        for (int slot = 1; slot <= 16; slot++) {
            Steps.choose(x, 0, slot, slot == 1 ? 163 : slot, 63);
        }
        x.trim(4);
        x.keep();
        Steps.lead(x, 1, 9);
        x.propose(2, 16, 1);
        x.trim(8);
        Steps.write(x, "n0;n0;n0;n0;n0;n0;n0;n0;n0;n0;n0;n0;n0;n0;n0;n0;n0;y0,0;y0,1");
        return x;
    }

    /** No proposer has a next ballot; there is a snapshot of the new object, and no text. */
    private static AgreedSlots ballotsAtTheEnd() {
        AgreedSlots x = new AgreedSlots();
        x.keep();
        Steps.prepareUpTo(x, 0, 997);
        x.promise(0, 0);
        x.promise(0, 1);
        Steps.choose(x, 0, 1, 5, 1);
        Steps.prepareUpTo(x, 1, 998);
        x.promise(1, 1);
        Steps.prepareUpTo(x, 2, 999);
        x.promise(2, 2);
        x.clearText();
        return x;
    }

    private static AgreedSlots allDown() {
        AgreedSlots x = Steps.chosenUpTo(4);
        Steps.perform(x, "d0;d1;d2;d3;d4;d5");
        return x;
    }
}
