import java.util.ArrayDeque;
import java.util.ArrayList;
import java.util.Deque;
import java.util.List;
import java.util.Map;
import java.util.TreeMap;
import java.util.TreeSet;
import java.util.regex.Matcher;
import java.util.regex.Pattern;

/** The document once more, in sets and maps and with whole copies, to compare the class with; slow and plain. */
final class Model {
    private static final String NUMBER = "[1-9][0-9]{0,2}";
    private static final String ORDER = "(?:n[0-2]|y[0-2],[0-5]|v[0-2]," + NUMBER + "," + NUMBER + "|a[0-2]," + NUMBER
        + ",[0-5]|[du][0-5])";
    private static final Pattern ORDERS = Pattern.compile(ORDER + "(?:;" + ORDER + ")*");

    record Vote(int ballot, int value) {
    }

    static final class Proposer {
        int ballot;
        int heard;
        Map<Integer, Map<Integer, Vote>> promises = new TreeMap<>();
        Map<Integer, Integer> values = new TreeMap<>();

        Proposer copy() {
            Proposer p = new Proposer();
            p.ballot = ballot;
            p.heard = heard;
            promises.forEach((a, told) -> p.promises.put(a, new TreeMap<>(told)));
            p.values.putAll(values);
            return p;
        }
    }

    static final class St {
        TreeSet<Integer> down = new TreeSet<>();
        int k = 2;
        int trimmed;
        int refusedPromises;
        int refusedVotes;
        Map<Integer, Integer> promised = new TreeMap<>();
        Map<Integer, Map<Integer, Vote>> votes = new TreeMap<>();
        List<Proposer> proposers = new ArrayList<>();
        Map<Integer, Vote> chosen = new TreeMap<>();

        St() {
            for (int a = 0; a < 6; a++) {
                promised.put(a, 0);
                votes.put(a, new TreeMap<>());
            }
            for (int p = 0; p < 3; p++) {
                proposers.add(new Proposer());
            }
        }

        St copy() {
            St s = new St();
            s.down.addAll(down);
            s.k = k;
            s.trimmed = trimmed;
            s.refusedPromises = refusedPromises;
            s.refusedVotes = refusedVotes;
            s.promised.putAll(promised);
            votes.forEach((a, v) -> s.votes.put(a, new TreeMap<>(v)));
            s.proposers.clear();
            proposers.forEach(p -> s.proposers.add(p.copy()));
            s.chosen.putAll(chosen);
            return s;
        }
    }

    St s = new St();
    St snapshot;
    final Deque<St> history = new ArrayDeque<>();
    final StringBuilder text = new StringBuilder();
    int[] refusal;

    // what follows from the state

    boolean chosenAll(int upTo) {
        for (int slot = 1; slot <= upTo; slot++) {
            if (!s.chosen.containsKey(slot)) {
                return false;
            }
        }
        return true;
    }

    int prefix() {
        int m = 16;
        while (!chosenAll(m)) {
            m--;
        }
        return m;
    }

    boolean open(int slot) {
        return chosenAll(slot - 3);
    }

    TreeSet<Integer> voters(int slot) {
        TreeSet<Integer> set = new TreeSet<>(List.of(0, 1, 2));
        for (int earlier = slot - 3; earlier >= 1; earlier--) {
            if (s.chosen.containsKey(earlier) && s.chosen.get(earlier).value() > 100) {
                set.clear();
                String bits = Integer.toBinaryString(s.chosen.get(earlier).value() - 100);
                for (int i = 0; i < bits.length(); i++) {
                    if (bits.charAt(bits.length() - 1 - i) == '1') {
                        set.add(i);
                    }
                }
                return set;
            }
        }
        return set;
    }

    static int bits(Iterable<Integer> set) {
        int sum = 0;
        for (int member : set) {
            sum += (int) Math.round(Math.pow(2, member));
        }
        return sum;
    }

    int secondSize(int slot) {
        int n = voters(slot).size();
        return s.k < n ? s.k : n;
    }

    int firstSize(int slot) {
        return voters(slot).size() + 1 - secondSize(slot);
    }

    int promisedVoters(int p, int slot) {
        TreeSet<Integer> both = new TreeSet<>(s.proposers.get(p).promises.keySet());
        both.retainAll(voters(slot));
        return both.size();
    }

    int bound(int p, int slot) {
        Vote greatest = new Vote(0, 0);
        for (int a : voters(slot)) {
            Map<Integer, Vote> told = s.proposers.get(p).promises.get(a);
            if (told != null && told.containsKey(slot) && told.get(slot).ballot() > greatest.ballot()) {
                greatest = told.get(slot);
            }
        }
        return greatest.value();
    }

    static boolean isA(int acceptor) {
        return acceptor >= 0 && acceptor <= 5;
    }

    static boolean isP(int proposer) {
        return proposer >= 0 && proposer <= 2;
    }

    static boolean isS(int slot) {
        return slot >= 1 && slot <= 16;
    }

    static boolean isV(int value) {
        return value >= 1 && value <= 163 && value != 100;
    }

    // acts: each works on s alone; act() below keeps the history

    int doSetUp(int a, boolean up) {
        if (!isA(a)) {
            return -1;
        }
        boolean changed = up ? s.down.remove(a) : s.down.add(a);
        return changed ? 6 - s.down.size() : -5;
    }

    int doSetSecond(int k) {
        if (k < 1 || k > 6) {
            return -2;
        }
        if (s.proposers.stream().anyMatch(p -> p.ballot > 0)) {
            return -4;
        }
        if (k == s.k) {
            return -5;
        }
        int was = s.k;
        s.k = k;
        return was;
    }

    int doPrepare(int p) {
        if (!isP(p)) {
            return -1;
        }
        Proposer me = s.proposers.get(p);
        int ballot = p + 1;
        while (ballot <= me.ballot || ballot <= me.heard) {
            ballot += 3;
        }
        if (ballot > 999) {
            return -3;
        }
        me.ballot = ballot;
        me.promises.clear();
        me.values.clear();
        return ballot;
    }

    int doPromise(int p, int a) {
        if (!isP(p) || !isA(a)) {
            return -1;
        }
        Proposer me = s.proposers.get(p);
        if (me.ballot == 0 || s.down.contains(a)) {
            return -4;
        }
        if (me.promises.containsKey(a)) {
            return -5;
        }
        int promised = s.promised.get(a);
        if (me.ballot > promised) {
            s.promised.put(a, me.ballot);
            me.promises.put(a, new TreeMap<>(s.votes.get(a)));
            return s.votes.get(a).size();
        }
        s.refusedPromises++;
        me.heard = me.heard > promised ? me.heard : promised;
        return 100 + promised;
    }

    int doPropose(int p, int slot, int value) {
        if (!isP(p) || !isS(slot)) {
            return -1;
        }
        if (!isV(value)) {
            return -2;
        }
        Proposer me = s.proposers.get(p);
        if (me.ballot == 0 || slot <= s.trimmed || !open(slot) || me.values.containsKey(slot)
            || promisedVoters(p, slot) < firstSize(slot)) {
            return -4;
        }
        int bound = bound(p, slot);
        me.values.put(slot, bound > 0 ? bound : value);
        return me.values.get(slot);
    }

    int votesOfBallot(int slot, int ballot) {
        int n = 0;
        for (int a : voters(slot)) {
            Vote v = s.votes.get(a).get(slot);
            if (v != null && v.ballot() == ballot) {
                n++;
            }
        }
        return n;
    }

    int doVote(int p, int slot, int a) {
        if (!isP(p) || !isS(slot) || !isA(a)) {
            return -1;
        }
        Proposer me = s.proposers.get(p);
        if (!me.values.containsKey(slot) || slot <= s.trimmed || s.down.contains(a) || !voters(slot).contains(a)) {
            return -4;
        }
        Vote latest = s.votes.get(a).get(slot);
        if (latest != null && latest.ballot() == me.ballot) {
            return -5;
        }
        int promised = s.promised.get(a);
        if (me.ballot < promised) {
            s.refusedVotes++;
            me.heard = me.heard > promised ? me.heard : promised;
            return 100 + promised;
        }
        s.promised.put(a, me.ballot);
        s.votes.get(a).put(slot, new Vote(me.ballot, me.values.get(slot)));
        int n = votesOfBallot(slot, me.ballot);
        if (n >= secondSize(slot)) {
            Vote earlier = s.chosen.putIfAbsent(slot, new Vote(me.ballot, me.values.get(slot)));
            if (earlier != null && earlier.value() != me.values.get(slot)) {
                throw new IllegalStateException("two values are chosen in slot " + slot);
            }
        }
        return n;
    }

    int doTrim(int slot) {
        if (!isS(slot)) {
            return -1;
        }
        if (slot > prefix()) {
            return -4;
        }
        if (slot <= s.trimmed) {
            return -5;
        }
        s.trimmed = slot;
        int n = 0;
        for (Map<Integer, Vote> votes : s.votes.values()) {
            int before = votes.size();
            votes.keySet().removeIf(t -> t <= slot);
            n += before - votes.size();
        }
        return n;
    }

    // texts

    int fault() {
        String whole = text.toString();
        for (int end = 1; end <= whole.length(); end++) {
            Matcher m = ORDERS.matcher(whole.substring(0, end));
            if (!m.matches() && !m.hitEnd()) {
                return end - 1;
            }
        }
        return ORDERS.matcher(whole).matches() ? -1 : whole.length();
    }

    int doOrder(String order) {
        String[] parts = order.substring(1).split(",");
        int[] n = new int[3];
        for (int i = 0; i < parts.length; i++) {
            n[i] = Integer.parseInt(parts[i]);
        }
        return switch (order.charAt(0)) {
            case 'n' -> doPrepare(n[0]);
            case 'y' -> doPromise(n[0], n[1]);
            case 'v' -> doPropose(n[0], n[1], n[2]);
            case 'a' -> doVote(n[0], n[1], n[2]);
            default -> doSetUp(n[0], order.charAt(0) == 'u');
        };
    }

    int doPerform() {
        int fault = fault();
        if (fault >= 0) {
            return -100 - fault;
        }
        St before = s.copy();
        String[] orders = text.toString().split(";");
        int place = 0;
        for (int i = 0; i < orders.length; i++) {
            int r = doOrder(orders[i]);
            if (r < 0 && r != -5) {
                refusal = new int[] {i, r, place};
                s = before;
                return -4;
            }
            place += orders[i].length() + 1;
        }
        return orders.length;
    }

    // the face, by numbers

    int act(Call call, int[] n) {
        St before = s.copy();
        int r = switch (call) {
            case SET_UP -> doSetUp(n[0], n[1] == 1);
            case SET_SECOND -> doSetSecond(n[0]);
            case PREPARE -> doPrepare(n[0]);
            case PROMISE -> doPromise(n[0], n[1]);
            case PROPOSE -> doPropose(n[0], n[1], n[2]);
            case VOTE -> doVote(n[0], n[1], n[2]);
            case TRIM -> doTrim(n[0]);
            case PERFORM -> doPerform();
            default -> doRestore();
        };
        if (r >= 0) {
            history.addLast(before);
            while (history.size() > 4) {
                history.removeFirst();
            }
        }
        return r;
    }

    int doRestore() {
        if (snapshot == null) {
            return -5;
        }
        s = snapshot.copy();
        return prefix();
    }

    int call(Call call, int[] n) {
        return switch (call) {
            case SET_UP, SET_SECOND, PREPARE, PROMISE, PROPOSE, VOTE, TRIM, PERFORM, RESTORE -> act(call, n);
            case TYPE -> text.length() >= 60 ? -3 : text.append((char) n[0]).length();
            case CLEAR_TEXT -> clear();
            case REFUSAL -> n[0] < 0 || n[0] > 2 ? -2 : refusal == null ? -5 : refusal[n[0]];
            case UNDO -> undo();
            case KEEP -> keep();
            case ACCEPTOR -> acceptor(n[0], n[1]);
            case VOTED -> voted(n[0], n[1], n[2]);
            case PROPOSER -> proposer(n[0], n[1]);
            case PROPOSED -> proposed(n[0], n[1], n[2]);
            case SLOT -> slot(n[0], n[1]);
            case COULD -> could(n[0], n[1]);
            case WITNESS -> witness(n[0], n[1], n[2], n[3]);
            case COUNT -> count(n[0]);
        };
    }

    int clear() {
        int was = text.length();
        text.setLength(0);
        return was;
    }

    int undo() {
        if (history.isEmpty()) {
            return -5;
        }
        s = history.removeLast();
        return history.size();
    }

    int keep() {
        snapshot = s.copy();
        return prefix();
    }

    int acceptor(int a, int what) {
        if (!isA(a)) {
            return -1;
        }
        return switch (what) {
            case 0 -> s.down.contains(a) ? 0 : 1;
            case 1 -> s.promised.get(a);
            case 2 -> s.votes.get(a).size();
            default -> -2;
        };
    }

    int voted(int a, int slot, int what) {
        if (!isA(a) || !isS(slot)) {
            return -1;
        }
        if (what != 0 && what != 1) {
            return -2;
        }
        Vote v = s.votes.get(a).get(slot);
        if (v == null) {
            return -5;
        }
        return what == 0 ? v.ballot() : v.value();
    }

    int proposer(int p, int what) {
        if (!isP(p)) {
            return -1;
        }
        Proposer me = s.proposers.get(p);
        return switch (what) {
            case 0 -> me.ballot;
            case 1 -> me.heard;
            case 2 -> bits(me.promises.keySet());
            case 3 -> me.values.size();
            default -> -2;
        };
    }

    int proposed(int p, int slot, int what) {
        if (!isP(p) || !isS(slot)) {
            return -1;
        }
        if (what < 0 || what > 2) {
            return -2;
        }
        if (what == 0) {
            return s.proposers.get(p).values.getOrDefault(slot, -5);
        }
        if (!open(slot)) {
            return -5;
        }
        int missing = firstSize(slot) - promisedVoters(p, slot);
        return what == 1 ? bound(p, slot) : missing > 0 ? missing : 0;
    }

    int slot(int slot, int what) {
        if (!isS(slot)) {
            return -1;
        }
        if (what < 0 || what > 5) {
            return -2;
        }
        if (what == 5) {
            return slot <= s.trimmed ? 1 : 0;
        }
        Vote chosen = s.chosen.get(slot);
        if (what < 2) {
            return chosen == null ? -5 : what == 0 ? chosen.value() : chosen.ballot();
        }
        if (!open(slot)) {
            return -5;
        }
        return what == 2 ? bits(voters(slot)) : what == 3 ? firstSize(slot) : secondSize(slot);
    }

    int could(int slot, int ballot) {
        if (!isS(slot)) {
            return -1;
        }
        if (ballot < 1 || ballot > 999) {
            return -2;
        }
        if (slot <= s.trimmed || !open(slot)) {
            return -4;
        }
        TreeSet<Integer> able = new TreeSet<>();
        for (int a : voters(slot)) {
            Vote v = s.votes.get(a).get(slot);
            if ((v != null && v.ballot() == ballot) || s.promised.get(a) <= ballot) {
                able.add(a);
            }
        }
        return able.size() >= secondSize(slot) ? 1 : 0;
    }

    /** Looks at all pairs of sets, where the class takes the lowest members. */
    static int witness(int voters, int first, int second, int which) {
        boolean bad = voters < 1 || voters > 63 || first < 1 || first > 6 || second < 1 || second > 6;
        if (bad || which < 0 || which > 1) {
            return -2;
        }
        for (int a = 1; a <= 63; a++) {
            for (int b = 1; b <= 63; b++) {
                boolean apart = (a & ~voters) == 0 && (b & ~voters) == 0 && (a & b) == 0;
                if (apart && Integer.bitCount(a) == first && Integer.bitCount(b) == second) {
                    return which == 0 ? a : b;
                }
            }
        }
        return -5;
    }

    int count(int what) {
        TreeSet<Integer> up = new TreeSet<>(List.of(0, 1, 2, 3, 4, 5));
        up.removeAll(s.down);
        int greatestOpen = 16;
        while (!open(greatestOpen)) {
            greatestOpen--;
        }
        return switch (what) {
            case 0 -> prefix();
            case 1 -> s.chosen.size();
            case 2 -> s.trimmed;
            case 3 -> s.k;
            case 4 -> bits(up);
            case 5 -> greatestOpen;
            case 6 -> s.refusedPromises;
            case 7 -> s.refusedVotes;
            case 8 -> (int) s.chosen.values().stream().filter(v -> v.value() > 100).count();
            case 9 -> history.size();
            case 10 -> text.length();
            default -> -2;
        };
    }
}
