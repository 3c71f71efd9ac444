import java.util.Set;
import java.util.TreeSet;

/** What an argument may be, and the error that it brings about outside that. */
enum Range {
    ACCEPTOR(0, 5, Steps.UNKNOWN),
    PROPOSER(0, 2, Steps.UNKNOWN),
    SLOT(1, 16, Steps.UNKNOWN),
    VALUE(1, 163, Steps.BAD_VALUE),
    SIZE(1, 6, Steps.BAD_VALUE),
    VOTERS(1, 63, Steps.BAD_VALUE),
    BALLOT(1, 999, Steps.BAD_VALUE),
    TO_1(0, 1, Steps.BAD_VALUE),
    TO_2(0, 2, Steps.BAD_VALUE),
    TO_3(0, 3, Steps.BAD_VALUE),
    TO_5(0, 5, Steps.BAD_VALUE),
    TO_10(0, 10, Steps.BAD_VALUE),
    /** A boolean, as 0 or 1. */
    FLAG(0, 1, 0),
    CHARACTER(0, 65535, 0);

    final int least;
    final int greatest;
    final int error;

    Range(int least, int greatest, int error) {
        this.least = least;
        this.greatest = greatest;
        this.error = error;
    }

    boolean allows(int number) {
        return number >= least && number <= greatest && !(this == VALUE && number == 100);
    }

    /** The edges from both sides, the ends of int, and what would come inside again by a wrap-around. */
    int[] edges() {
        Set<Integer> numbers = new TreeSet<>(Set.of(least, greatest));
        if (error != 0) {
            numbers.addAll(Set.of(least - 1, greatest + 1, Integer.MIN_VALUE, Integer.MAX_VALUE));
            numbers.add(least + Integer.MIN_VALUE);
            numbers.add(greatest + 65536);
            numbers.add(least + 32);
        }
        if (this == VALUE) {
            numbers.addAll(Set.of(99, 100, 101));
        }
        return numbers.stream().mapToInt(n -> n).toArray();
    }

    /** What is allowed, thinned out, and the nearest numbers that are not. */
    int[] some() {
        Set<Integer> numbers = new TreeSet<>(Set.of(least, greatest));
        if (error != 0) {
            numbers.addAll(Set.of(least - 1, greatest + 1, Integer.MIN_VALUE, Integer.MAX_VALUE));
        }
        for (int number : new int[] {1, 2, 3, 4, 5, 7, 9, 14}) {
            if (allows(number)) {
                numbers.add(number);
            }
        }
        if (this == VALUE) {
            numbers.addAll(Set.of(99, 100, 101));
            numbers.removeAll(Set.of(2, 3, 4, 5));
        }
        return numbers.stream().mapToInt(n -> n).toArray();
    }
}
