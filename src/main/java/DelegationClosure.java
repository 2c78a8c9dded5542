import java.util.Arrays;

/**
 * Keeps certificates that give names to keys and pass permissions on from key to key, says who has
 * a permission at a time and by how few certificates, and checks chains of certificates that are
 * laid before it.
 */
public final class DelegationClosure {
    public static final int NONE = -1;
    public static final int OWNER = 8;

    private static final int KEYS = 8;
    private static final int NAMES = 4;
    private static final int OPERATIONS = 8;
    private static final int ALL_OPERATIONS = 255;
    private static final int MOST_CERTIFICATES = 24;
    private static final int MOST_SUBJECTS = 3;
    private static final int MOST_NAMES_IN_CHAIN = 4;
    private static final int MOST_COST = 999;
    private static final int LEAST_INT = -2147483648;
    private static final int GREATEST_INT = 2147483647;

    /** In place of a cost where there is none: more than every cost, so that any cost is better. */
    private static final int NEVER = MOST_COST + 1;

    private final Register register = new Register();
    private final Meanings meanings = new Meanings();
    private final Leads leads = new Leads();
    private final Chain chain = new Chain();

    public DelegationClosure() {
    }

    public int name(int issuer, int name, int subject, int from, int to) {
        boolean isName = name >= 0 && name < NAMES;
        if (!isKey(issuer) || !isName || !isSubject(subject) || register.isFull()) {
            return NONE;
        }
        return register.add(new Naming(issuer, name, subject, from, to));
    }

    public int permit(int issuer, int subject, boolean delegates, int from, int to) {
        boolean isIssuer = isKey(issuer) || issuer == OWNER;
        if (!isIssuer || !isSubject(subject) || register.isFull()) {
            return NONE;
        }
        return register.add(new Permission(issuer, subject, delegates, from, to));
    }

    public boolean tag(int c, int operations, int low, int high) {
        Permission permission = register.permission(c);
        if (permission == null || operations < 0 || operations > ALL_OPERATIONS || low > high) {
            return false;
        }
        permission.tag.set(operations, low, high);
        return true;
    }

    public int also(int c, int subject) {
        Permission permission = register.permission(c);
        if (permission == null || !isSubject(subject) || permission.size >= MOST_SUBJECTS) {
            return NONE;
        }
        permission.addSubject(subject);
        return permission.size;
    }

    public boolean quorum(int c, int k) {
        Permission permission = register.permission(c);
        if (permission == null || k < 1 || k > permission.size) {
            return false;
        }
        permission.quorum = k;
        return true;
    }

    public boolean revoke(int c) {
        Certificate certificate = register.standing(c);
        if (certificate == null) {
            return false;
        }
        certificate.revoked = true;
        return true;
    }

    public int certificates() {
        return register.size;
    }

    public int meant(int subject, int time) {
        if (!isSubject(subject)) {
            return NONE;
        }
        meanings.workOut(register, time);
        int set = 0;
        for (int key = 0; key < KEYS; key++) {
            if (meanings.ofSubject(subject, key) != NEVER) {
                set |= 1 << key;
            }
        }
        return set;
    }

    public int cost(int subject, int key, int time) {
        if (!isSubject(subject) || !isKey(key)) {
            return NONE;
        }
        meanings.workOut(register, time);
        return costOrNone(meanings.ofSubject(subject, key));
    }

    public int may(int key, int operation, int number, int time) {
        if (!isKey(key) || !isOperation(operation)) {
            return NONE;
        }
        meanings.workOut(register, time);
        leads.mark(register, operation, number, time);
        return costOrNone(leads.fromOwner(register, meanings, key));
    }

    public int holders(int operation, int number, int time) {
        if (!isOperation(operation)) {
            return 0;
        }
        meanings.workOut(register, time);
        leads.mark(register, operation, number, time);
        int set = 0;
        for (int key = 0; key < KEYS; key++) {
            if (leads.fromOwner(register, meanings, key) != NEVER) {
                set |= 1 << key;
            }
        }
        return set;
    }

    public boolean begin(int c) {
        Permission permission = register.permission(c);
        if (permission == null || permission.issuer != OWNER || permission.size > 1) {
            return false;
        }
        chain.start(permission);
        return true;
    }

    public boolean follow(int c) {
        Certificate certificate = register.standing(c);
        if (certificate instanceof Naming naming) {
            return chain.replaceName(naming);
        }
        if (certificate instanceof Permission permission) {
            return chain.passOn(permission);
        }
        return false;
    }

    public int head() {
        return chain.isThere() ? chain.key : NONE;
    }

    public int behind(int i) {
        if (!chain.isThere() || i < 0 || i >= chain.size) {
            return NONE;
        }
        return chain.names[i];
    }

    public boolean grants(int operation, int number, int time) {
        return isOperation(operation) && chain.allows(operation, number, time);
    }

    public int used() {
        return chain.used;
    }

    public boolean delegates() {
        return chain.isThere() && chain.delegates;
    }

    private static boolean isKey(int key) {
        return key >= 0 && key < KEYS;
    }

    private static boolean isOperation(int operation) {
        return operation >= 0 && operation < OPERATIONS;
    }

    private static boolean isSubject(int subject) {
        if (subject < 0 || subject >= KEYS * (NAMES + 1) * (NAMES + 1)) {
            return false;
        }
        return firstNameOf(subject) != NONE || secondNameOf(subject) == NONE;
    }

    private static int keyOf(int subject) {
        return subject % KEYS;
    }

    /** NONE if there is no name, as a subject keeps a name as 1 more than it is. */
    private static int firstNameOf(int subject) {
        return subject / KEYS % (NAMES + 1) - 1;
    }

    /** NONE if there is no second name. */
    private static int secondNameOf(int subject) {
        return subject / (KEYS * (NAMES + 1)) - 1;
    }

    private static int namesIn(int subject) {
        if (firstNameOf(subject) == NONE) {
            return 0;
        }
        return secondNameOf(subject) == NONE ? 1 : 2;
    }

    private static int sumOf(int cost, int other) {
        if (cost == NEVER || other == NEVER) {
            return NEVER;
        }
        int sum = cost + other;
        return sum > MOST_COST ? MOST_COST : sum;
    }

    private static int costOrNone(int cost) {
        return cost == NEVER ? NONE : cost;
    }

    /** The ints low .. high, both included; none when low is more than high. */
    private static final class Span {
        private int low;
        private int high;

        Span(int low, int high) {
            this.low = low;
            this.high = high;
        }

        boolean contains(int number) {
            return low <= number && number <= high;
        }

        void set(int newLow, int newHigh) {
            low = newLow;
            high = newHigh;
        }

        void copy(Span other) {
            set(other.low, other.high);
        }

        void narrowTo(Span other) {
            set(Math.max(low, other.low), Math.min(high, other.high));
        }
    }

    /** A set of operations and a range of numbers; at first all that there are. */
    private static final class Tag {
        private int operations = ALL_OPERATIONS;
        private final Span numbers = new Span(LEAST_INT, GREATEST_INT);

        boolean contains(int operation, int number) {
            return (operations & 1 << operation) != 0 && numbers.contains(number);
        }

        void set(int newOperations, int low, int high) {
            operations = newOperations;
            numbers.set(low, high);
        }

        void copy(Tag other) {
            operations = other.operations;
            numbers.copy(other.numbers);
        }

        void narrowTo(Tag other) {
            operations &= other.operations;
            numbers.narrowTo(other.numbers);
        }
    }

    private abstract static class Certificate {
        final int issuer;
        final Span times;
        boolean revoked = false;

        Certificate(int issuer, int from, int to) {
            this.issuer = issuer;
            this.times = new Span(from, to);
        }
    }

    private static final class Naming extends Certificate {
        final int name;
        final int subject;

        Naming(int issuer, int name, int subject, int from, int to) {
            super(issuer, from, to);
            this.name = name;
            this.subject = subject;
        }
    }

    private static final class Permission extends Certificate {
        final int[] subjects = new int[MOST_SUBJECTS];
        final Tag tag = new Tag();
        final boolean delegates;
        int size = 1;
        int quorum = 1;

        Permission(int issuer, int subject, boolean delegates, int from, int to) {
            super(issuer, from, to);
            this.subjects[0] = subject;
            this.delegates = delegates;
        }

        void addSubject(int subject) {
            if (size < MOST_SUBJECTS) {
                subjects[size] = subject;
                size++;
            }
        }
    }

    /** All certificates that were made, by their numbers. */
    private static final class Register {
        private final Certificate[] made = new Certificate[MOST_CERTIFICATES];
        private int size = 0;

        boolean isFull() {
            return size >= MOST_CERTIFICATES;
        }

        int add(Certificate certificate) {
            if (isFull()) {
                return NONE;
            }
            made[size] = certificate;
            size++;
            return size - 1;
        }

        /** The certificate of a number; null if there is none or it is revoked. */
        Certificate standing(int c) {
            if (c < 0 || c >= size) {
                return null;
            }
            Certificate certificate = made[c];
            return certificate == null || certificate.revoked ? null : certificate;
        }

        /** The certificate of permissions of a number; null if there is none or it is revoked. */
        Permission permission(int c) {
            return standing(c) instanceof Permission permission ? permission : null;
        }
    }

    /** What every key with one name means at one time, and at which least costs. */
    private static final class Meanings {
        private final int[] least = new int[KEYS * NAMES * KEYS];

        /**
         * Goes over the certificates until no cost gets less. No cost is less than one that it is
         * made of, so a least cost never needs itself: its rules are no more deep than there are
         * costs, and one round more than that sees that nothing changes.
         */
        void workOut(Register register, int time) {
            Arrays.fill(least, NEVER);
            boolean better = true;
            for (int round = 0; better && round <= least.length; round++) {
                better = improve(register, time);
            }
        }

        private boolean improve(Register register, int time) {
            boolean better = false;
            for (int c = 0; c < register.size; c++) {
                if (register.standing(c) instanceof Naming naming && naming.times.contains(time)) {
                    better |= improveBy(naming);
                }
            }
            return better;
        }

        private boolean improveBy(Naming naming) {
            boolean better = false;
            for (int key = 0; key < KEYS; key++) {
                int place = placeOf(naming.issuer, naming.name, key);
                int found = sumOf(1, ofSubject(naming.subject, key));
                if (found < least[place]) {
                    least[place] = found;
                    better = true;
                }
            }
            return better;
        }

        /** The least cost at which a subject means a key, or NEVER. */
        int ofSubject(int subject, int key) {
            int start = keyOf(subject);
            int first = firstNameOf(subject);
            int second = secondNameOf(subject);
            if (first == NONE) {
                return start == key ? 0 : NEVER;
            }
            if (second == NONE) {
                return least[placeOf(start, first, key)];
            }
            int best = NEVER;
            for (int between = 0; between < KEYS; between++) {
                int toBetween = least[placeOf(start, first, between)];
                int fromBetween = least[placeOf(between, second, key)];
                best = Math.min(best, sumOf(toBetween, fromBetween));
            }
            return best;
        }

        private static int placeOf(int start, int name, int key) {
            return (start * NAMES + name) * KEYS + key;
        }
    }

    /** Which certificates lead to a key, and at which least costs. */
    private static final class Leads {
        private final boolean[] counts = new boolean[MOST_CERTIFICATES];
        /** By issuer, as which of an issuer's certificates leads makes no difference to others. */
        private final int[] least = new int[KEYS + 1];
        private final int[] sorted = new int[MOST_SUBJECTS];

        /** Marks the certificates that count for an operation, a number and a time. */
        void mark(Register register, int operation, int number, int time) {
            for (int c = 0; c < register.size; c++) {
                Permission permission = register.permission(c);
                counts[c] = permission != null && permission.times.contains(time)
                        && permission.tag.contains(operation, number);
            }
        }

        /**
         * The least cost at which a marked certificate of OWNER leads to a key, or NEVER. It ends
         * as the meanings do: no least cost of an issuer needs itself.
         */
        int fromOwner(Register register, Meanings meanings, int key) {
            Arrays.fill(least, NEVER);
            boolean better = true;
            for (int round = 0; better && round <= least.length; round++) {
                better = improve(register, meanings, key);
            }
            return least[OWNER];
        }

        private boolean improve(Register register, Meanings meanings, int key) {
            boolean better = false;
            for (int c = 0; c < register.size; c++) {
                Permission permission = register.permission(c);
                if (permission == null || !counts[c]) {
                    continue;
                }
                int found = byCertificate(meanings, permission, key);
                if (found < least[permission.issuer]) {
                    least[permission.issuer] = found;
                    better = true;
                }
            }
            return better;
        }

        private int byCertificate(Meanings meanings, Permission permission, int key) {
            for (int i = 0; i < permission.size; i++) {
                int subject = permission.subjects[i];
                sortIn(i, bySubject(meanings, subject, permission.delegates, key));
            }
            int sum = 1;
            for (int i = 0; i < permission.quorum; i++) {
                sum = sumOf(sum, sorted[i]);
            }
            return sum;
        }

        private void sortIn(int filled, int cost) {
            int place = filled;
            for (; place > 0 && sorted[place - 1] > cost; place--) {
                sorted[place] = sorted[place - 1];
            }
            sorted[place] = cost;
        }

        private int bySubject(Meanings meanings, int subject, boolean delegates, int key) {
            int best = meanings.ofSubject(subject, key);
            if (!delegates) {
                return best;
            }
            for (int between = 0; between < KEYS; between++) {
                if (between != key) {
                    int meaning = meanings.ofSubject(subject, between);
                    best = Math.min(best, sumOf(meaning, least[between]));
                }
            }
            return best;
        }
    }

    /** The chain, apart from the certificates that it was made of, as these may change. */
    private static final class Chain {
        private int key = 0;
        private final int[] names = new int[MOST_NAMES_IN_CHAIN];
        private int size = 0;
        private final Tag tag = new Tag();
        private final Span times = new Span(0, 0);
        private int used = 0;
        private boolean delegates = false;

        boolean isThere() {
            return used > 0;
        }

        void start(Permission permission) {
            putAhead(permission.subjects[0], 0);
            tag.copy(permission.tag);
            times.copy(permission.times);
            delegates = permission.delegates;
            used = 1;
        }

        boolean replaceName(Naming naming) {
            if (!isThere() || size == 0 || key != naming.issuer || names[0] != naming.name) {
                return false;
            }
            int kept = size - 1;
            if (namesIn(naming.subject) + kept > MOST_NAMES_IN_CHAIN) {
                return false;
            }
            putAhead(naming.subject, kept);
            times.narrowTo(naming.times);
            used++;
            return true;
        }

        boolean passOn(Permission permission) {
            if (!isThere() || size != 0 || key != permission.issuer || !delegates) {
                return false;
            }
            if (permission.size > 1) {
                return false;
            }
            putAhead(permission.subjects[0], 0);
            tag.narrowTo(permission.tag);
            times.narrowTo(permission.times);
            delegates = permission.delegates;
            used++;
            return true;
        }

        boolean allows(int operation, int number, int time) {
            return isThere() && size == 0
                    && tag.contains(operation, number) && times.contains(time);
        }

        /** Puts a subject in place of the key and all names but the last ones, which are kept. */
        private void putAhead(int subject, int kept) {
            int ahead = namesIn(subject);
            System.arraycopy(names, size - kept, names, ahead, kept);
            key = keyOf(subject);
            if (ahead > 0) {
                names[0] = firstNameOf(subject);
            }
            if (ahead > 1) {
                names[1] = secondNameOf(subject);
            }
            size = ahead + kept;
        }
    }
}
