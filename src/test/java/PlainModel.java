import java.util.ArrayList;
import java.util.List;

/**
 * The document once more, as plainly as it can be said and without regard to room: costs are not
 * cut at 999 before they are answered, every certificate has a cost of its own, and a quorum is
 * looked for among all sets of subjects. It is what ModelTest holds the class against.
 */
final class PlainModel {
    private static final int NONE = -1;
    private static final int OWNER = 8;
    /** Far above 999, but so low that a sum of several does not wrap around. */
    private static final long LIMIT = 1_000_000_000_000L;
    private static final long NEVER = Long.MAX_VALUE;

    private static final class Certificate {
        boolean ofNames;
        int issuer;
        int name;
        final List<Integer> subjects = new ArrayList<>();
        boolean delegates;
        int quorum = 1;
        int operations = 255;
        int low = Integer.MIN_VALUE;
        int high = Integer.MAX_VALUE;
        int from;
        int to;
        boolean revoked;
    }

    private static final class Chain {
        int key;
        List<Integer> names = new ArrayList<>();
        int operations;
        int low;
        int high;
        int from;
        int to;
        int used;
        boolean delegates;
    }

    private final List<Certificate> made = new ArrayList<>();
    private Chain chain = null;

    int name(int issuer, int name, int subject, int from, int to) {
        if (issuer < 0 || issuer > 7 || name < 0 || name > 3 || !Due.isSubject(subject)) {
            return NONE;
        }
        Certificate certificate = new Certificate();
        certificate.ofNames = true;
        certificate.name = name;
        return keep(certificate, issuer, subject, from, to);
    }

    int permit(int issuer, int subject, boolean delegates, int from, int to) {
        if (issuer < 0 || issuer > OWNER || !Due.isSubject(subject)) {
            return NONE;
        }
        Certificate certificate = new Certificate();
        certificate.delegates = delegates;
        return keep(certificate, issuer, subject, from, to);
    }

    private int keep(Certificate certificate, int issuer, int subject, int from, int to) {
        if (made.size() == 24) {
            return NONE;
        }
        certificate.issuer = issuer;
        certificate.subjects.add(subject);
        certificate.from = from;
        certificate.to = to;
        made.add(certificate);
        return made.size() - 1;
    }

    boolean tag(int c, int operations, int low, int high) {
        if (!isPermission(c) || operations < 0 || operations > 255 || low > high) {
            return false;
        }
        made.get(c).operations = operations;
        made.get(c).low = low;
        made.get(c).high = high;
        return true;
    }

    int also(int c, int subject) {
        if (!isPermission(c) || !Due.isSubject(subject) || made.get(c).subjects.size() == 3) {
            return NONE;
        }
        made.get(c).subjects.add(subject);
        return made.get(c).subjects.size();
    }

    boolean quorum(int c, int k) {
        if (!isPermission(c) || k < 1 || k > made.get(c).subjects.size()) {
            return false;
        }
        made.get(c).quorum = k;
        return true;
    }

    boolean revoke(int c) {
        if (!stands(c)) {
            return false;
        }
        made.get(c).revoked = true;
        return true;
    }

    int certificates() {
        return made.size();
    }

    int meant(int subject, int time) {
        if (!Due.isSubject(subject)) {
            return NONE;
        }
        int set = 0;
        for (int key = 0; key < 8; key++) {
            set += cost(subject, key, time) == NONE ? 0 : 1 << key;
        }
        return set;
    }

    int cost(int subject, int key, int time) {
        if (!Due.isSubject(subject) || key < 0 || key > 7) {
            return NONE;
        }
        return answer(meaning(meanings(time), subject, key));
    }

    int may(int key, int operation, int number, int time) {
        if (key < 0 || key > 7 || operation < 0 || operation > 7) {
            return NONE;
        }
        long[] costs = leading(key, operation, number, time);
        long best = NEVER;
        for (int c = 0; c < made.size(); c++) {
            best = made.get(c).issuer == OWNER ? Math.min(best, costs[c]) : best;
        }
        return answer(best);
    }

    int holders(int operation, int number, int time) {
        int set = 0;
        for (int key = 0; key < 8; key++) {
            set += may(key, operation, number, time) == NONE ? 0 : 1 << key;
        }
        return set;
    }

    boolean begin(int c) {
        if (!isPermission(c) || made.get(c).issuer != OWNER || made.get(c).subjects.size() != 1) {
            return false;
        }
        Certificate certificate = made.get(c);
        chain = new Chain();
        chain.key = key(certificate.subjects.get(0));
        chain.names = names(certificate.subjects.get(0));
        chain.operations = certificate.operations;
        chain.low = certificate.low;
        chain.high = certificate.high;
        chain.from = certificate.from;
        chain.to = certificate.to;
        chain.used = 1;
        chain.delegates = certificate.delegates;
        return true;
    }

    boolean follow(int c) {
        if (chain == null || !stands(c) || made.get(c).issuer != chain.key) {
            return false;
        }
        Certificate certificate = made.get(c);
        List<Integer> names = names(certificate.subjects.get(0));
        if (certificate.ofNames) {
            if (chain.names.isEmpty() || chain.names.get(0) != certificate.name) {
                return false;
            }
            names.addAll(chain.names.subList(1, chain.names.size()));
            if (names.size() > 4) {
                return false;
            }
        } else {
            if (certificate.subjects.size() != 1 || !chain.names.isEmpty() || !chain.delegates) {
                return false;
            }
            chain.operations &= certificate.operations;
            chain.low = Math.max(chain.low, certificate.low);
            chain.high = Math.min(chain.high, certificate.high);
            chain.delegates = certificate.delegates;
        }
        chain.key = key(certificate.subjects.get(0));
        chain.names = names;
        chain.from = Math.max(chain.from, certificate.from);
        chain.to = Math.min(chain.to, certificate.to);
        chain.used++;
        return true;
    }

    int head() {
        return chain == null ? NONE : chain.key;
    }

    int behind(int i) {
        return chain == null || i < 0 || i >= chain.names.size() ? NONE : chain.names.get(i);
    }

    boolean grants(int operation, int number, int time) {
        return chain != null && chain.names.isEmpty() && operation >= 0 && operation <= 7
                && (chain.operations >> operation) % 2 == 1 && chain.low <= number
                && number <= chain.high && chain.from <= time && time <= chain.to;
    }

    int used() {
        return chain == null ? 0 : chain.used;
    }

    boolean delegates() {
        return chain != null && chain.delegates;
    }

    private boolean stands(int c) {
        return c >= 0 && c < made.size() && !made.get(c).revoked;
    }

    private boolean isPermission(int c) {
        return stands(c) && !made.get(c).ofNames;
    }

    private static int key(int subject) {
        return subject & 7;
    }

    private static List<Integer> names(int subject) {
        List<Integer> names = new ArrayList<>();
        for (int rest = subject >> 3; rest != 0; rest /= 5) {
            names.add(rest % 5 - 1);
        }
        return names;
    }

    private static int answer(long cost) {
        return cost == NEVER ? NONE : (int) Math.min(999, cost);
    }

    private static long plus(long cost, long other) {
        return cost == NEVER || other == NEVER ? NEVER : Math.min(LIMIT, cost + other);
    }

    /** By key, name and key meant; each round looks only at what the round before found. */
    private long[][][] meanings(int time) {
        long[][][] costs = noMeanings();
        for (boolean changed = true; changed;) {
            long[][][] next = noMeanings();
            for (Certificate certificate : made) {
                if (!certificate.ofNames || certificate.revoked || certificate.from > time || certificate.to < time) {
                    continue;
                }
                for (int key = 0; key < 8; key++) {
                    long found = plus(1, meaning(costs, certificate.subjects.get(0), key));
                    long[] row = next[certificate.issuer][certificate.name];
                    row[key] = Math.min(row[key], found);
                }
            }
            changed = !java.util.Arrays.deepEquals(costs, next);
            costs = next;
        }
        return costs;
    }

    private static long[][][] noMeanings() {
        long[][][] costs = new long[8][4][8];
        for (long[][] rows : costs) {
            for (long[] row : rows) {
                java.util.Arrays.fill(row, NEVER);
            }
        }
        return costs;
    }

    private static long meaning(long[][][] costs, int subject, int key) {
        long[] reached = new long[8];
        java.util.Arrays.fill(reached, NEVER);
        reached[key(subject)] = 0;
        for (int name : names(subject)) {
            long[] next = new long[8];
            java.util.Arrays.fill(next, NEVER);
            for (int start = 0; start < 8; start++) {
                for (int end = 0; end < 8; end++) {
                    next[end] = Math.min(next[end], plus(reached[start], costs[start][name][end]));
                }
            }
            reached = next;
        }
        return reached[key];
    }

    private long[] leading(int key, int operation, int number, int time) {
        long[][][] meanings = meanings(time);
        long[] costs = new long[made.size()];
        java.util.Arrays.fill(costs, NEVER);
        for (boolean changed = true; changed;) {
            long[] next = new long[made.size()];
            for (int c = 0; c < next.length; c++) {
                boolean counts = counts(made.get(c), operation, number, time);
                next[c] = counts ? byCertificate(meanings, costs, made.get(c), key) : NEVER;
            }
            changed = !java.util.Arrays.equals(costs, next);
            costs = next;
        }
        return costs;
    }

    private static boolean counts(Certificate certificate, int operation, int number, int time) {
        return !certificate.ofNames && !certificate.revoked
                && (certificate.operations >> operation) % 2 == 1
                && certificate.low <= number && number <= certificate.high
                && certificate.from <= time && time <= certificate.to;
    }

    private long byCertificate(long[][][] meanings, long[] costs, Certificate certificate, int key) {
        long best = NEVER;
        for (int set = 0; set < 1 << certificate.subjects.size(); set++) {
            if (Integer.bitCount(set) != certificate.quorum) {
                continue;
            }
            long sum = 1;
            for (int i = 0; i < certificate.subjects.size(); i++) {
                if ((set >> i) % 2 == 1) {
                    int subject = certificate.subjects.get(i);
                    sum = plus(sum, bySubject(meanings, costs, certificate, subject, key));
                }
            }
            best = Math.min(best, sum);
        }
        return best;
    }

    private long bySubject(long[][][] meanings, long[] costs, Certificate by, int subject, int key) {
        long best = NEVER;
        for (int meant = 0; meant < 8; meant++) {
            long meaning = meaning(meanings, subject, meant);
            if (meant == key) {
                best = Math.min(best, meaning);
            } else if (by.delegates) {
                for (int c = 0; c < made.size(); c++) {
                    if (made.get(c).issuer == meant) {
                        best = Math.min(best, plus(meaning, costs[c]));
                    }
                }
            }
        }
        return best;
    }
}
