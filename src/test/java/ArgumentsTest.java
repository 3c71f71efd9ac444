/**
 * Arguments that are too small or too large, alone and together: UNKNOWN is looked at first, then BAD_VALUE, ahead
 * of all that the state refuses; and the least and the greatest that are allowed bring about neither.
 */
public final class ArgumentsTest {
    public static void main(String[] args) {
        Due due = new Due("arguments at their edges");
        for (int scene = 0; scene < Scenes.NAMES.length; scene++) {
            for (Call call : Call.values()) {
                AgreedSlots x = Scenes.scene(scene);
                x.keep();
                edges(due, x, call, Scenes.NAMES[scene]);
            }
        }
        due.end();
    }

    private static void edges(Due due, AgreedSlots x, Call call, String scene) {
        int[][] numbers = new int[call.ranges.length][];
        for (int i = 0; i < numbers.length; i++) {
            numbers[i] = call.ranges[i].edges();
        }
        for (int row = 0; row < Call.rows(numbers); row++) {
            int[] n = Call.row(numbers, row);
            int error = error(call, n);
            int answer = call.on(x, n);
            if (error != 0) {
                due.is(scene, call, n, answer, error);
            } else {
                boolean outside = answer == Steps.UNKNOWN || answer == Steps.BAD_VALUE;
                due.is(scene, call, n, outside ? answer : 0, 0);
                x.restore();
            }
        }
    }

    /** The error by the arguments alone, or 0. */
    private static int error(Call call, int[] n) {
        int error = 0;
        for (int i = 0; i < n.length; i++) {
            if (!call.ranges[i].allows(n[i]) && error != Steps.UNKNOWN) {
                error = call.ranges[i].error;
            }
        }
        return error;
    }
}
