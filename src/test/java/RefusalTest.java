import java.util.ArrayList;
import java.util.List;

/**
 * "A call that is refused changes nothing." Every kind of refused call is made on objects in several
 * states; whatever is called later must answer as it does on a twin that never saw the refused call.
 */
public final class RefusalTest {
    private static final int NONE = DelegationClosure.NONE;
    private static final int OWNER = DelegationClosure.OWNER;
    private static final int LEAST = Edges.LEAST;
    private static final int MOST = Edges.MOST;
    private static final int FALSE = 0;
    private static final Due due = new Due();

    // Certificates of the objects below by what they are.
    private static final int NAME_A = 1;
    private static final int NAME_B = 2;
    private static final int NAME_C = 3;
    private static final int OF_KEY = 4;
    private static final int TWO_SUBJECTS = 5;
    private static final int THREE_SUBJECTS = 6;
    private static final int OF_KEY_2 = 8;
    private static final int REVOKED_NAME = 9;
    private static final int REVOKED = 10;
    private static final int ENDS = 11;
    private static final int ONE_SUBJECT = 12;
    private static final int LONGER_BY_ONE = 13;
    private static final int MANY_OF_KEY = 14;
    private static final int LONGER_ONCE = 16;
    private static final int OF_KEY_1 = 18;
    private static final int SECOND_NAME = 19;
    private static final int NEXT = 20;

    /** How the states differ; all have the certificates of {@link #certificates}. */
    private enum State { NO_CHAIN, NAMES, FOUR_NAMES, KEY, KEY_THAT_ENDS, FULL }

    private interface Call {
        int on(DelegationClosure x);
    }

    private record Refused(String text, Call call, int answer) { }

    public static void main(String[] args) {
        for (State state : State.values()) {
            List<Refused> all = new ArrayList<>();
            addNames(all);
            addPermits(all);
            addTags(all);
            addAlsos(all);
            addQuorums(all);
            addRevokes(all);
            addBegins(all);
            addFollows(all, state);
            addQuestions(all);
            dueNoTrace(state, all);
        }
        due.end();
    }

    private static DelegationClosure certificates() {
        DelegationClosure x = new DelegationClosure();
        x.permit(OWNER, Due.subject(0, 0, 1), true, 0, 20);
        x.name(0, 0, Due.subject(1, 2), 0, 9);
        x.name(1, 2, 3, 0, 20);
        x.name(3, 1, 5, 5, 20);
        x.permit(5, 6, true, 0, 20);
        x.tag(OF_KEY, 15, -5, 5);
        x.permit(OWNER, 4, true, 0, 20);
        x.also(TWO_SUBJECTS, 2);
        x.quorum(TWO_SUBJECTS, 2);
        x.permit(OWNER, 1, false, LEAST, MOST);
        x.also(THREE_SUBJECTS, Due.subject(1, 2));
        x.also(THREE_SUBJECTS, 1);
        x.quorum(THREE_SUBJECTS, 2);
        x.tag(THREE_SUBJECTS, 129, LEAST, 0);
        x.permit(4, 7, true, 0, 20);
        x.permit(2, 7, true, 4, 8);
        x.tag(OF_KEY_2, 2, 0, 0);
        x.name(7, 3, 0, 0, 20);
        x.permit(OWNER, 0, true, 0, 20);
        x.permit(OWNER, 2, false, 3, 5);
        x.permit(OWNER, 5, true, 0, 20);
        x.name(1, 2, Due.subject(1, 2, 0), 0, 20);
        x.permit(5, 0, false, 4, 4);
        x.also(MANY_OF_KEY, 3);
        x.tag(MANY_OF_KEY, 2, 7, 7);
        x.permit(5, Due.subject(7, 3), true, 0, 20);
        x.name(1, 2, Due.subject(4, 0, 0), 3, 3);
        x.name(3, 0, 3, 0, 20);
        x.permit(1, 4, false, 4, 4);
        x.tag(OF_KEY_1, 2, 7, 7);
        x.name(1, 1, 4, 4, 4);
        x.revoke(REVOKED_NAME);
        x.revoke(REVOKED);
        return x;
    }

    private static DelegationClosure object(State state) {
        DelegationClosure x = certificates();
        switch (state) {
            case NAMES:
                x.begin(0);
                x.follow(NAME_A);
                break;
            case FOUR_NAMES:
                x.begin(0);
                x.follow(NAME_A);
                x.follow(LONGER_BY_ONE);
                x.follow(LONGER_BY_ONE);
                break;
            case KEY:
                x.begin(ONE_SUBJECT);
                break;
            case KEY_THAT_ENDS:
                x.begin(ENDS);
                break;
            case FULL:
                for (int c = NEXT; c < 24; c++) {
                    x.permit(c % 8, c % 5, true, c - 18, 20);
                }
                x.begin(0);
                break;
            default:
                break;
        }
        return x;
    }

    private static int asInt(boolean answer) {
        return answer ? 1 : FALSE;
    }

    private static void addNames(List<Refused> all) {
        for (int wrong : Edges.outside(0, 7)) {
            all.add(new Refused("name, issuer " + wrong, x -> x.name(wrong, 0, 4, 0, 20), NONE));
        }
        for (int wrong : Edges.outside(0, 3)) {
            all.add(new Refused("name, name " + wrong, x -> x.name(0, wrong, 4, 0, 20), NONE));
        }
        for (int wrong : Edges.NO_SUBJECTS) {
            all.add(new Refused("name, subject " + wrong, x -> x.name(0, 0, wrong, 0, 20), NONE));
        }
    }

    private static void addPermits(List<Refused> all) {
        for (int wrong : Edges.outside(0, OWNER)) {
            all.add(new Refused("permit, issuer " + wrong, x -> x.permit(wrong, 4, true, 0, 20), NONE));
        }
        for (int wrong : Edges.NO_SUBJECTS) {
            all.add(new Refused("permit, subject " + wrong, x -> x.permit(OWNER, wrong, true, 0, 20), NONE));
        }
    }

    /** No such certificates of permissions that stand; 24 is one too many in a full object too. */
    private static int[] noPermissions() {
        return new int[] {-1, 24, NAME_A, REVOKED_NAME, REVOKED, 256, LEAST, MOST};
    }

    private static void addTags(List<Refused> all) {
        for (int wrong : noPermissions()) {
            all.add(new Refused("tag, certificate " + wrong, x -> asInt(x.tag(wrong, 1, 0, 0)), FALSE));
        }
        for (int wrong : new int[] {-1, 256, 257, LEAST, MOST}) {
            all.add(new Refused("tag, operations " + wrong, x -> asInt(x.tag(ONE_SUBJECT, wrong, 0, 0)), FALSE));
        }
        for (int[] wrong : new int[][] {{1, 0}, {MOST, LEAST}, {LEAST + 1, LEAST}, {MOST, MOST - 1}}) {
            all.add(new Refused("tag, numbers " + wrong[0] + " .. " + wrong[1],
                    x -> asInt(x.tag(ONE_SUBJECT, 1, wrong[0], wrong[1])), FALSE));
        }
    }

    private static void addAlsos(List<Refused> all) {
        for (int wrong : noPermissions()) {
            all.add(new Refused("also, certificate " + wrong, x -> x.also(wrong, 4), NONE));
        }
        for (int wrong : Edges.NO_SUBJECTS) {
            all.add(new Refused("also, subject " + wrong, x -> x.also(ONE_SUBJECT, wrong), NONE));
            all.add(new Refused("also, second subject " + wrong, x -> x.also(TWO_SUBJECTS, wrong), NONE));
        }
        all.add(new Refused("also, three", x -> x.also(THREE_SUBJECTS, 4), NONE));
        all.add(new Refused("also, three, one that it has", x -> x.also(THREE_SUBJECTS, 1), NONE));
    }

    private static void addQuorums(List<Refused> all) {
        for (int wrong : noPermissions()) {
            all.add(new Refused("quorum, certificate " + wrong, x -> asInt(x.quorum(wrong, 1)), FALSE));
        }
        int[] certificates = {ONE_SUBJECT, TWO_SUBJECTS, THREE_SUBJECTS};
        for (int i = 0; i < 3; i++) {
            int c = certificates[i];
            for (int wrong : new int[] {0, -1, i + 2, LEAST, MOST}) {
                all.add(new Refused("quorum, " + wrong + " of " + (i + 1), x -> asInt(x.quorum(c, wrong)), FALSE));
            }
        }
    }

    private static void addRevokes(List<Refused> all) {
        for (int wrong : new int[] {-1, 24, REVOKED_NAME, REVOKED, 256, LEAST, MOST}) {
            all.add(new Refused("revoke, " + wrong, x -> asInt(x.revoke(wrong)), FALSE));
        }
    }

    private static void addBegins(List<Refused> all) {
        int[] wrongs = {
            -1, 24, NAME_A, OF_KEY, REVOKED_NAME, REVOKED, TWO_SUBJECTS, THREE_SUBJECTS, 256, LEAST, MOST};
        for (int wrong : wrongs) {
            all.add(new Refused("begin, " + wrong, x -> asInt(x.begin(wrong)), FALSE));
        }
    }

    private static void addFollows(List<Refused> all, State state) {
        for (int wrong : new int[] {-1, 24, 0, REVOKED_NAME, REVOKED, 256, LEAST, MOST}) {
            all.add(new Refused("follow, " + wrong, x -> asInt(x.follow(wrong)), FALSE));
        }
        for (int c : notToFollow(state)) {
            all.add(new Refused("follow, " + c, x -> asInt(x.follow(c)), FALSE));
        }
    }

    /** Most of them have fewer times or a lesser tag than the chain, so that a trace would show. */
    private static int[] notToFollow(State state) {
        switch (state) {
            case NAMES:
                return new int[] {NAME_A, NAME_C, OF_KEY, OF_KEY_1, SECOND_NAME};
            case FOUR_NAMES:
                return new int[] {NAME_A, LONGER_BY_ONE, LONGER_ONCE, OF_KEY_1, SECOND_NAME};
            case KEY:
                return new int[] {NAME_A, NAME_B, NAME_C, OF_KEY_2, MANY_OF_KEY, ONE_SUBJECT};
            case KEY_THAT_ENDS:
                return new int[] {NAME_A, NAME_B, OF_KEY_2, OF_KEY, ENDS};
            default:
                return new int[] {NAME_B, NAME_C, OF_KEY, OF_KEY_1, LONGER_BY_ONE};
        }
    }

    /** These are not refused, but wrong or not they change nothing either. */
    private static void addQuestions(List<Refused> all) {
        for (int wrong : new int[] {-1, 40, 160, 200, LEAST, MOST}) {
            all.add(new Refused("meant, " + wrong, x -> x.meant(wrong, 5), NONE));
            all.add(new Refused("cost, subject " + wrong, x -> x.cost(wrong, 0, 5), NONE));
            all.add(new Refused("behind, " + wrong, x -> x.behind(wrong), NONE));
        }
        for (int wrong : Edges.outside(0, 7)) {
            all.add(new Refused("cost, key " + wrong, x -> x.cost(0, wrong, 5), NONE));
            all.add(new Refused("may, key " + wrong, x -> x.may(wrong, 0, 0, 5), NONE));
            all.add(new Refused("may, operation " + wrong, x -> x.may(0, wrong, 0, 5), NONE));
            all.add(new Refused("holders, " + wrong, x -> x.holders(wrong, 0, 5), 0));
            all.add(new Refused("grants, " + wrong, x -> asInt(x.grants(wrong, 0, 5)), FALSE));
        }
        all.add(new Refused("meant, all", x -> x.meant(Due.subject(1, 2), 5), 8));
        all.add(new Refused("may", x -> x.may(5, 0, 0, 0), 1));
        all.add(new Refused("holders", x -> x.holders(1, 0, 99), 0));
    }

    private static void dueNoTrace(State state, List<Refused> all) {
        if (state == State.FULL) {
            all.add(new Refused("name, the 25th", x -> x.name(0, 0, 4, 0, 20), NONE));
            all.add(new Refused("permit, the 25th", x -> x.permit(OWNER, 4, true, 0, 20), NONE));
        } else {
            all.add(new Refused("revoke, the next", x -> asInt(x.revoke(NEXT)), FALSE));
            all.add(new Refused("tag, the next", x -> asInt(x.tag(NEXT, 1, 0, 0)), FALSE));
            all.add(new Refused("also, the next", x -> x.also(NEXT, 0), NONE));
            all.add(new Refused("quorum, the next", x -> asInt(x.quorum(NEXT, 1)), FALSE));
            all.add(new Refused("begin, the next", x -> asInt(x.begin(NEXT)), FALSE));
            all.add(new Refused("follow, the next", x -> asInt(x.follow(NEXT)), FALSE));
        }
        for (int part = 0; part < Later.PARTS; part++) {
            List<String> want = Later.answers(object(state), part);
            for (Refused refused : all) {
                DelegationClosure x = object(state);
                String text = state + ": " + refused.text();
                due.is(text, refused.call().on(x), refused.answer());
                due.is(text + ", again", refused.call().on(x), refused.answer());
                dueSame(text, Later.answers(x, part), want);
            }
        }
    }

    private static void dueSame(String text, List<String> got, List<String> want) {
        int same = 0;
        while (same < want.size() && got.get(same).equals(want.get(same))) {
            same++;
        }
        String change = same < want.size() ? got.get(same) + ", not " + want.get(same) : "nothing";
        due.is(text + " changed " + change + ": equal answers", same, want.size());
    }

    private RefusalTest() {
    }
}
