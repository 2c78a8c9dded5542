/** Promises 11 and 12: who may do an operation, and at which cost. */
public final class LeadingTest {
    private static final int NONE = DelegationClosure.NONE;
    private static final int OWNER = DelegationClosure.OWNER;
    private static final int LEAST = Integer.MIN_VALUE;
    private static final int MOST = Integer.MAX_VALUE;
    private static final Due due = new Due();

    public static void main(String[] args) {
        promise11Costs();
        promise11LeastCost();
        promise11Delegating();
        promise11TagsOfAll();
        promise11TimesOfAll();
        promise11QuorumOfLeastSubjects();
        promise11QuorumThroughDifferentWays();
        promise11Circles();
        promise11LongWay();
        promise11AtMost999();
        promise11Refusals();
        promise12Holders();
        promise12Refusals();
        due.end();
    }

    private static void promise11Costs() {
        DelegationClosure x = new DelegationClosure();
        x.name(0, 0, 1, 0, 9);
        x.name(1, 0, Due.subject(2, 1), 0, 9);
        x.name(2, 1, 3, 0, 9);
        x.permit(OWNER, Due.subject(0, 0, 0), true, 0, 9);
        x.permit(3, 4, true, 0, 9);
        x.permit(4, Due.subject(0, 0), true, 0, 9);
        due.is("may: by a meaning", x.may(3, 0, 0, 5), 4);
        due.is("may: by one more", x.may(4, 0, 0, 5), 5);
        due.is("may: and a name", x.may(1, 0, 0, 5), 7);
        due.is("may: a key that only lies between", x.may(0, 0, 0, 5), NONE);
        due.is("may: a key of a meaning between", x.may(2, 0, 0, 5), NONE);
    }

    private static void promise11LeastCost() {
        DelegationClosure x = new DelegationClosure();
        x.permit(OWNER, 0, true, 0, 9);
        x.permit(0, 1, true, 0, 9);
        x.permit(1, 2, true, 0, 9);
        x.permit(2, 3, true, 0, 9);
        due.is("least: the one way", x.may(3, 0, 0, 5), 4);
        x.permit(0, 2, true, 0, 9);
        due.is("least: a shorter way", x.may(3, 0, 0, 5), 3);
        x.name(5, 0, 3, 0, 9);
        x.permit(OWNER, Due.subject(5, 0), false, 0, 9);
        due.is("least: another certificate of OWNER", x.may(3, 0, 0, 5), 2);
        x.permit(OWNER, 3, false, 0, 9);
        due.is("least: one", x.may(3, 0, 0, 5), 1);
        due.is("least: the others as before", x.may(2, 0, 0, 5), 2);
    }

    private static void promise11Delegating() {
        DelegationClosure x = new DelegationClosure();
        x.permit(OWNER, 0, false, 0, 9);
        x.permit(0, 1, true, 0, 9);
        due.is("delegating: the subject itself", x.may(0, 0, 0, 5), 1);
        due.is("delegating: not on", x.may(1, 0, 0, 5), NONE);
        x.permit(OWNER, 0, true, 0, 9);
        due.is("delegating: on", x.may(1, 0, 0, 5), 2);
        x.permit(1, 2, false, 0, 9);
        x.permit(2, 3, true, 0, 9);
        due.is("delegating: the last need not", x.may(2, 0, 0, 5), 3);
        due.is("delegating: one between must", x.may(3, 0, 0, 5), NONE);
        DelegationClosure y = new DelegationClosure();
        y.permit(0, 1, true, 0, 9);
        due.is("delegating: not from OWNER", y.may(1, 0, 0, 5), NONE);
        due.is("delegating: an issuer has nothing by itself", y.may(0, 0, 0, 5), NONE);
    }

    private static void promise11TagsOfAll() {
        DelegationClosure x = new DelegationClosure();
        x.permit(OWNER, 0, true, 0, 9);
        x.permit(0, 1, true, 0, 9);
        x.permit(1, 2, true, 0, 9);
        x.tag(0, 7, 0, 10);
        x.tag(1, 6, 5, 20);
        x.tag(2, 12, -5, 7);
        due.is("tags: in all", x.may(2, 2, 5, 5), 3);
        due.is("tags: high of the last", x.may(2, 2, 7, 5), 3);
        due.is("tags: above it", x.may(2, 2, 8, 5), NONE);
        due.is("tags: below the low of the one between", x.may(2, 2, 4, 5), NONE);
        due.is("tags: operation not in the last", x.may(2, 1, 6, 5), NONE);
        due.is("tags: operation not in the first", x.may(2, 3, 6, 5), NONE);
        due.is("tags: the one between", x.may(1, 1, 8, 5), 2);
        due.is("tags: the first", x.may(0, 0, 0, 5), 1);
    }

    private static void promise11TimesOfAll() {
        DelegationClosure x = new DelegationClosure();
        x.permit(OWNER, Due.subject(0, 0), true, 0, 20);
        x.name(0, 0, 1, 5, 30);
        x.permit(1, 2, true, 10, 15);
        due.is("times: all are valid", x.may(2, 0, 0, 10), 3);
        due.is("times: until the first ends", x.may(2, 0, 0, 15), 3);
        due.is("times: after it", x.may(2, 0, 0, 16), NONE);
        due.is("times: before the last begins", x.may(2, 0, 0, 9), NONE);
        due.is("times: the name is valid", x.may(1, 0, 0, 5), 2);
        due.is("times: the name is not", x.may(1, 0, 0, 4), NONE);
        due.is("times: the first ends", x.may(1, 0, 0, 21), NONE);
    }

    private static void promise11QuorumOfLeastSubjects() {
        int[][] orders = {{0, 1, 2}, {0, 2, 1}, {1, 0, 2}, {1, 2, 0}, {2, 0, 1}, {2, 1, 0}};
        for (int[] order : orders) {
            DelegationClosure x = new DelegationClosure();
            x.name(0, 0, 7, 0, 9);
            x.name(0, 1, Due.subject(0, 0), 0, 9);
            x.name(0, 2, Due.subject(0, 1), 0, 9);
            x.name(0, 3, Due.subject(0, 2), 0, 9);
            int[] subjects = {Due.subject(0, 0), Due.subject(0, 1), Due.subject(0, 3)};
            x.permit(OWNER, subjects[order[0]], false, 0, 9);
            x.also(4, subjects[order[1]]);
            x.also(4, subjects[order[2]]);
            due.is("quorum 1: the least", x.may(7, 0, 0, 5), 2);
            x.quorum(4, 2);
            due.is("quorum 2: the least two", x.may(7, 0, 0, 5), 4);
            x.quorum(4, 3);
            due.is("quorum 3: all", x.may(7, 0, 0, 5), 8);
            x.revoke(3);
            due.is("quorum 3: one leads no more", x.may(7, 0, 0, 5), NONE);
            x.quorum(4, 2);
            due.is("quorum 2: two still do", x.may(7, 0, 0, 5), 4);
        }
    }

    private static void promise11QuorumThroughDifferentWays() {
        DelegationClosure x = new DelegationClosure();
        x.permit(OWNER, 0, true, 0, 9);
        x.also(0, 1);
        x.quorum(0, 2);
        x.permit(0, 2, true, 0, 9);
        x.permit(1, 2, true, 0, 9);
        x.permit(2, 3, false, 0, 9);
        due.is("ways: to where they meet", x.may(2, 0, 0, 5), 3);
        due.is("ways: what is used twice is paid twice", x.may(3, 0, 0, 5), 5);
        due.is("ways: a subject itself and the other not", x.may(1, 0, 0, 5), NONE);
        x.permit(0, 1, true, 0, 9);
        due.is("ways: a subject itself and the other to it", x.may(1, 0, 0, 5), 2);
        due.is("ways: only keys to which both lead", x.holders(0, 0, 5), Due.setOf(1, 2, 3));
    }

    private static void promise11Circles() {
        DelegationClosure x = new DelegationClosure();
        x.permit(OWNER, 0, true, 0, 9);
        x.permit(0, 1, true, 0, 9);
        x.permit(1, 0, true, 0, 9);
        x.permit(1, 1, true, 0, 9);
        due.is("circle: back to the first", x.may(0, 0, 0, 5), 1);
        due.is("circle: the second", x.may(1, 0, 0, 5), 2);
        due.is("circle: nobody else", x.may(2, 0, 0, 5), NONE);
        x.permit(1, 2, false, 0, 9);
        due.is("circle: out of it", x.may(2, 0, 0, 5), 3);
        DelegationClosure y = new DelegationClosure();
        y.permit(OWNER, 0, true, 0, 9);
        y.permit(0, 0, true, 0, 9);
        y.also(1, 1);
        y.quorum(1, 2);
        y.permit(1, 2, true, 0, 9);
        due.is("circle: a quorum that needs itself", y.may(2, 0, 0, 5), NONE);
    }

    private static void promise11LongWay() {
        DelegationClosure forwards = new DelegationClosure();
        DelegationClosure backwards = new DelegationClosure();
        for (int i = 0; i < 8; i++) {
            permitOnWay(forwards, i);
            permitOnWay(backwards, 7 - i);
        }
        for (int key = 0; key < 8; key++) {
            due.is("way: forwards", forwards.may(key, 0, 0, 5), key + 1);
            due.is("way: backwards", backwards.may(key, 0, 0, 5), key + 1);
        }
        due.is("way: all hold", backwards.holders(0, 0, 5), 255);
    }

    private static void permitOnWay(DelegationClosure x, int i) {
        x.permit(i == 0 ? OWNER : i - 1, i, true, 0, 9);
    }

    private static void promise11AtMost999() {
        DelegationClosure x = new DelegationClosure();
        x.name(7, 0, 7, 0, 9);
        int once = Due.subject(7, 0);
        permitWithAll(x, OWNER, 0, 0, 7);
        permitWithAll(x, 0, 1, 1, 1);
        permitWithAll(x, 1, 2, 2, 2);
        permitWithAll(x, 2, 3, 3, 3);
        permitWithAll(x, 3, 4, 4, once);
        permitWithAll(x, 4, 5, 5, once);
        permitWithAll(x, 5, 7, once, once);
        due.is("999: just so", x.may(7, 0, 0, 5), 999);
        x.revoke(1);
        permitWithAll(x, OWNER, 0, 0, once);
        due.is("999: 1 more", x.may(7, 0, 0, 5), 999);
        x.revoke(8);
        permitWithAll(x, OWNER, 0, 0, 0);
        due.is("999: far more", x.may(7, 0, 0, 5), 999);
        due.is("999: it may", x.holders(0, 0, 5), Due.setOf(0, 1, 2, 3, 7));
        due.is("999: another may not", x.may(6, 0, 0, 5), NONE);
        x.permit(OWNER, 0, true, 0, 9);
        due.is("999: less is less", x.may(7, 0, 0, 5), 500);
    }

    private static void permitWithAll(DelegationClosure x, int issuer, int one, int two, int three) {
        int c = x.permit(issuer, one, true, 0, 9);
        x.also(c, two);
        x.also(c, three);
        x.quorum(c, 3);
    }

    private static void promise11Refusals() {
        DelegationClosure x = new DelegationClosure();
        x.permit(OWNER, 0, true, LEAST, MOST);
        for (int wrong : new int[] {-1, 8, 9, LEAST, MOST}) {
            due.is("may: key " + wrong, x.may(wrong, 0, 0, 5), NONE);
            due.is("may: operation " + wrong, x.may(0, wrong, 0, 5), NONE);
        }
        // A shift by 32 or more goes round in Java: these would be operation 0.
        due.is("may: operation 32", x.may(0, 32, 0, 5), NONE);
        due.is("may: operation -32", x.may(0, -32, 0, 5), NONE);
        due.is("may: the greatest of all", x.may(0, 7, MOST, MOST), 1);
        due.is("may: the least of all", x.may(0, 0, LEAST, LEAST), 1);
    }

    private static void promise12Holders() {
        DelegationClosure x = new DelegationClosure();
        x.name(0, 0, 6, 0, 4);
        x.name(0, 0, 7, 0, 9);
        x.permit(OWNER, Due.subject(0, 0), true, 0, 9);
        x.permit(7, 1, false, 0, 9);
        x.permit(OWNER, 3, true, 5, 9);
        x.tag(4, 2, 1, 2);
        due.is("holders: early", x.holders(1, 1, 3), Due.setOf(1, 6, 7));
        due.is("holders: late", x.holders(1, 1, 5), Due.setOf(1, 3, 7));
        due.is("holders: another operation", x.holders(2, 1, 5), Due.setOf(1, 7));
        due.is("holders: another number", x.holders(1, 3, 5), Due.setOf(1, 7));
        due.is("holders: another time", x.holders(1, 1, 10), 0);
        for (int key = 0; key < 8; key++) {
            boolean holds = (x.holders(1, 1, 5) & 1 << key) != 0;
            due.is("holders: as may says", x.may(key, 1, 1, 5) != NONE, holds);
        }
    }

    private static void promise12Refusals() {
        DelegationClosure x = new DelegationClosure();
        x.permit(OWNER, 0, true, LEAST, MOST);
        for (int wrong : new int[] {-1, 8, 9, 32, -32, LEAST, MOST}) {
            due.is("holders: operation " + wrong, x.holders(wrong, 0, 5), 0);
        }
        due.is("holders: the last operation", x.holders(7, 0, 5), 1);
    }

    private LeadingTest() {
    }
}
