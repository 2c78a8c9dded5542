import java.util.Random;

/** Many runs of calls, drawn from fixed seeds, on the class and on the plain model side by side. */
public final class ModelTest {
    private static final int RUNS = 1500;
    private static final int CALLS = 160;
    private static final int[] EDGES = {
        Integer.MIN_VALUE, -8, -1, 4, 8, 9, 24, 32, 40, 80, 200, 256, Integer.MAX_VALUE};

    private final Due due;
    private final Random random;
    private final int seed;
    private final DelegationClosure x = new DelegationClosure();
    private final PlainModel model = new PlainModel();
    /** Few keys and names make runs in which certificates meet; many make long ways. */
    private final int keys;
    private final int names;
    private final int wrongInHundred;

    private ModelTest(Due due, int seed) {
        this.due = due;
        this.seed = seed;
        this.random = new Random(seed);
        this.keys = 2 + random.nextInt(7);
        this.names = 1 + random.nextInt(4);
        this.wrongInHundred = random.nextInt(4);
    }

    public static void main(String[] args) {
        Due due = new Due();
        for (int seed = 0; seed < RUNS && due.wrong() < 20; seed++) {
            ModelTest run = new ModelTest(due, seed);
            for (int call = 0; call < CALLS; call++) {
                run.call();
            }
        }
        due.end();
    }

    private void call() {
        int kind = random.nextInt(100);
        if (kind < 36) {
            make(kind);
        } else if (kind < 60) {
            ask(kind);
        } else {
            chain(kind);
        }
    }

    private void make(int kind) {
        int c = certificate();
        int from = draw(3);
        int to = random.nextInt(8) == 0 ? draw(3) : 2 + draw(4);
        if (kind < 11) {
            int issuer = draw(keys);
            int name = draw(names);
            int subject = subject();
            is("name", x.name(issuer, name, subject, from, to), model.name(issuer, name, subject, from, to));
        } else if (kind < 22) {
            int issuer = random.nextInt(3) == 0 ? DelegationClosure.OWNER : draw(keys);
            int subject = subject();
            boolean on = random.nextInt(5) != 0;
            is("permit", x.permit(issuer, subject, on, from, to), model.permit(issuer, subject, on, from, to));
        } else if (kind < 25) {
            int operations = random.nextInt(4) == 0 ? edge() : random.nextInt(256) | random.nextInt(256);
            int low = draw(3);
            int high = draw(5);
            is("tag", x.tag(c, operations, low, high), model.tag(c, operations, low, high));
        } else if (kind < 30) {
            int subject = subject();
            is("also", x.also(c, subject), model.also(c, subject));
        } else if (kind < 34) {
            int k = draw(5);
            is("quorum", x.quorum(c, k), model.quorum(c, k));
        } else if (random.nextInt(4) == 0) {
            is("revoke", x.revoke(c), model.revoke(c));
        } else {
            is("certificates", x.certificates(), model.certificates());
        }
    }

    private void ask(int kind) {
        int time = draw(5);
        int key = draw(keys);
        int operation = draw(8);
        int number = draw(5);
        int subject = subject();
        if (kind < 42) {
            is("meant", x.meant(subject, time), model.meant(subject, time));
        } else if (kind < 48) {
            is("cost", x.cost(subject, key, time), model.cost(subject, key, time));
        } else if (kind < 57) {
            is("may", x.may(key, operation, number, time), model.may(key, operation, number, time));
        } else {
            is("holders", x.holders(operation, number, time), model.holders(operation, number, time));
        }
    }

    private void chain(int kind) {
        int c = certificate();
        if (kind < 64) {
            is("begin", x.begin(c), model.begin(c));
        } else if (kind < 92) {
            is("follow", x.follow(c), model.follow(c));
        } else {
            int operation = draw(8);
            int number = draw(5);
            int time = draw(5);
            is("grants", x.grants(operation, number, time), model.grants(operation, number, time));
        }
        is("head", x.head(), model.head());
        int i = draw(5);
        is("behind", x.behind(i), model.behind(i));
        is("used", x.used(), model.used());
        is("delegates", x.delegates(), model.delegates());
    }

    private int certificate() {
        return draw(Math.max(1, model.certificates()));
    }

    private int subject() {
        int key = draw(keys);
        switch (random.nextInt(4)) {
            case 0:
                return Due.subject(key, draw(names));
            case 1:
                return Due.subject(key, random.nextInt(names), random.nextInt(names));
            default:
                return key;
        }
    }

    /** A number from 0 on, or now and then one that may be wrong. */
    private int draw(int bound) {
        return random.nextInt(100) < wrongInHundred ? edge() : random.nextInt(bound);
    }

    private int edge() {
        return EDGES[random.nextInt(EDGES.length)];
    }

    private void is(String call, int got, int want) {
        due.is("seed " + seed + ": " + call, got, want);
    }

    private void is(String call, boolean got, boolean want) {
        due.is("seed " + seed + ": " + call, got, want);
    }
}
