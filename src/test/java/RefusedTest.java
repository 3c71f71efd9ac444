/**
 * A call that returns an error or NONE changes nothing (but for the latest refusal of perform()), nor does one that
 * only tells; an act that is done records the state that was before it, and undo() brings that back.
 */
public final class RefusedTest {
    private final Due due;
    private final int scene;
    private final String whole;
    private final String wholeWithoutRefusal;
    private final String shallow;
    private final int states;
    private final int length;

    private RefusedTest(Due due, int scene) {
        this.due = due;
        this.scene = scene;
        whole = whole(Scenes.scene(scene), true);
        wholeWithoutRefusal = whole(Scenes.scene(scene), false);
        AgreedSlots x = Scenes.scene(scene);
        shallow = Steps.picture(x);
        states = x.count(9);
        length = x.count(10);
    }

    public static void main(String[] args) {
        Due due = new Due("refused calls, and acts undone");
        for (int scene = 0; scene < Scenes.NAMES.length; scene++) {
            RefusedTest test = new RefusedTest(due, scene);
            for (Call call : Call.values()) {
                test.look(call);
            }
        }
        due.end();
    }

    private void look(Call call) {
        int[][] numbers = new int[call.ranges.length][];
        for (int i = 0; i < numbers.length; i++) {
            numbers[i] = call.ranges[i].some();
        }
        AgreedSlots told = Scenes.scene(scene);
        int[] n = {};
        for (int row = 0; row < Call.rows(numbers); row++) {
            n = Call.row(numbers, row);
            if (call.tells()) {
                call.on(told, n);
            } else {
                lookAt(call, n);
            }
        }
        unchanged(told, call, n, true);
    }

    private void lookAt(Call call, int[] n) {
        AgreedSlots x = Scenes.scene(scene);
        int answer = call.on(x, n);
        if (Call.refused(answer)) {
            unchanged(x, call, n, call != Call.PERFORM);
        } else if (call.act) {
            undone(x, call, n);
        }
    }

    private void unchanged(AgreedSlots x, Call call, int[] n, boolean refusal) {
        String want = refusal ? whole : wholeWithoutRefusal;
        due.is(Scenes.NAMES[scene] + ", unchanged", call, n, whole(x, refusal).equals(want) ? 1 : 0, 1);
    }

    private void undone(AgreedSlots x, Call call, int[] n) {
        int recorded = Math.min(4, states + 1);
        due.is(Scenes.NAMES[scene] + ", states after", call, n, x.count(9), recorded);
        due.is(Scenes.NAMES[scene] + ", undo() after", call, n, x.undo(), recorded - 1);
        due.is(Scenes.NAMES[scene] + ", undone", call, n, Steps.picture(x).equals(shallow) ? 1 : 0, 1);
        due.is(Scenes.NAMES[scene] + ", length after", call, n, x.count(10), length);
    }

    /** All that an object holds, by calls that use it up: its history, its snapshot and what its text brings about. */
    private static String whole(AgreedSlots x, boolean refusal) {
        StringBuilder all = new StringBuilder(Steps.picture(x));
        all.append(x.count(10)).append(' ');
        for (int what = 0; what <= 2 && refusal; what++) {
            all.append(x.refusal(what)).append(' ');
        }
        for (int left = x.count(9); left >= 0; left--) {
            all.append('\n').append(x.undo()).append(' ').append(Steps.picture(x));
        }
        all.append('\n').append(x.restore()).append(' ').append(Steps.picture(x));
        int performed = x.perform();
        all.append('\n').append(performed).append(' ').append(Steps.picture(x));
        for (int what = 0; what <= 2 && performed == Steps.NOT_POSSIBLE; what++) {
            all.append(x.refusal(what)).append(' ');
        }
        return all.toString();
    }
}
