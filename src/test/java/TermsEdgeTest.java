/**
 * The section 'Terms' at its edges: a test for each sentence that draws one. That a refused call
 * changes nothing is RefusalTest's.
 */
public final class TermsEdgeTest {
    private static final int NONE = DelegationClosure.NONE;
    private static final int OWNER = DelegationClosure.OWNER;
    private static final int LEAST = Edges.LEAST;
    private static final int MOST = Edges.MOST;
    private static final Due due = new Due();

    public static void main(String[] args) {
        subjectsAreTheNumbersThatTheRuleGives();
        aSubjectIsTheKeyAndTheNamesOfItsNumber();
        twoNamesAreReadInTheirOrder();
        validFromToBothIncluded();
        atMost24Certificates();
        atMost24CertificatesAndRevokedOnes();
        numbersAreInOneRow();
        oneToThreeSubjects();
        quorumFromOneToTheNumberOfSubjects();
        tagIsASetOfOperations();
        tagIsARangeBothIncluded();
        revokedNamesAreNotLookedAt();
        revokedPermissionsAreNotLookedAt();
        revokedOnesKeepTheirNumber();
        whatIsNotMeantByFinitelyManyUses();
        leadsIfAsManySubjectsAsTheQuorumLead();
        onlyACertificateThatDelegatesLeadsOn();
        whatDoesNotLeadByFinitelyManyUses();
        costOfAMeaningAbove999();
        costOfLeadingAbove999();
        chainOfNoToFourNames();
        chainOfAnEmptySpan();
        chainIsAsItWasMade();
        due.end();
    }

    private static DelegationClosure withPermission() {
        DelegationClosure x = new DelegationClosure();
        x.permit(OWNER, 0, true, LEAST, MOST);
        return x;
    }

    /** "A SUBJECT is a key with no, one or two names behind it ... (b is 0 if a is)". */
    private static void subjectsAreTheNumbersThatTheRuleGives() {
        for (int number : Edges.SUBJECTS) {
            dueAsSubject(number, true);
        }
        for (int number : Edges.NO_SUBJECTS) {
            dueAsSubject(number, false);
        }
        int taken = 0;
        for (int number = -1100; number <= 1100; number++) {
            boolean isSubject = Due.isSubject(number);
            dueAsSubject(number, isSubject);
            taken += isSubject ? 1 : 0;
        }
        due.is("subjects: how many", taken, 8 * (1 + 4 + 16));
    }

    private static void dueAsSubject(int number, boolean isSubject) {
        DelegationClosure x = withPermission();
        String call = isSubject ? "subject " + number + ": " : "no subject " + number + ": ";
        due.is(call + "name", x.name(0, 0, number, 0, 9), isSubject ? 1 : NONE);
        due.is(call + "permit", x.permit(OWNER, number, true, 0, 9), isSubject ? 2 : NONE);
        due.is(call + "also", x.also(0, number), isSubject ? 2 : NONE);
        due.is(call + "meant", x.meant(number, 0) != NONE, isSubject);
        due.is(call + "certificates", x.certificates(), isSubject ? 3 : 1);
        DelegationClosure y = withPermission();
        for (int key = 0; key < 8; key++) {
            due.is(call + "cost of " + key, y.cost(number, key, 0), number == key ? 0 : NONE);
        }
    }

    /** "key + 8 * (a + 5 * b)", as a chain shows it. */
    private static void aSubjectIsTheKeyAndTheNamesOfItsNumber() {
        for (int key = 0; key < 8; key++) {
            dueInChain(Due.subject(key), key, NONE, NONE);
            for (int first = 0; first < 4; first++) {
                dueInChain(Due.subject(key, first), key, first, NONE);
                for (int second = 0; second < 4; second++) {
                    dueInChain(Due.subject(key, first, second), key, first, second);
                }
            }
        }
    }

    private static void dueInChain(int subject, int key, int first, int second) {
        DelegationClosure x = new DelegationClosure();
        x.permit(OWNER, subject, true, 0, 9);
        x.begin(0);
        due.is("chain of subject " + subject + ": head", x.head(), key);
        due.is("chain of subject " + subject + ": first name", x.behind(0), first);
        due.is("chain of subject " + subject + ": second name", x.behind(1), second);
        due.is("chain of subject " + subject + ": no third name", x.behind(2), NONE);
    }

    /** "A subject with two names K, n, m means Y if K with n means a key Z and Z with m means Y". */
    private static void twoNamesAreReadInTheirOrder() {
        for (int first = 0; first < 4; first++) {
            for (int second = 0; second < 4; second++) {
                DelegationClosure x = new DelegationClosure();
                x.name(0, first, 7, 0, 9);
                x.name(7, second, 5, 0, 9);
                for (int number = 48; number < 200; number++) {
                    if (Due.isSubject(number)) {
                        boolean isIt = number == Due.subject(0, first, second);
                        due.is("two names: " + number, x.meant(number, 0), isIt ? 32 : 0);
                        due.is("cost of two names: " + number, x.cost(number, 5, 0), isIt ? 2 : NONE);
                    }
                }
            }
        }
    }

    /** "a certificate is valid at the times from .. to, both included". */
    private static void validFromToBothIncluded() {
        int[][] spans = {
            {3, 5}, {4, 4}, {-1, 0}, {5, 4}, {0, -1}, {LEAST, LEAST}, {MOST, MOST}, {LEAST, MOST},
            {MOST, LEAST}, {LEAST, -1}, {0, MOST}, {LEAST + 1, MOST - 1}, {MOST - 1, LEAST + 1}};
        int[] times = {
            LEAST, LEAST + 1, LEAST + 2, -2, -1, 0, 1, 2, 3, 4, 5, 6, MOST - 2, MOST - 1, MOST};
        for (int[] span : spans) {
            DelegationClosure x = new DelegationClosure();
            x.name(0, 0, 1, span[0], span[1]);
            x.permit(OWNER, 2, true, span[0], span[1]);
            x.permit(OWNER, Due.subject(0, 0), true, LEAST, MOST);
            x.begin(1);
            for (int time : times) {
                boolean valid = span[0] <= time && time <= span[1];
                String call = "valid " + span[0] + " .. " + span[1] + " at " + time + ": ";
                due.is(call + "meant", x.meant(Due.subject(0, 0), time), valid ? 2 : 0);
                due.is(call + "cost", x.cost(Due.subject(0, 0), 1, time), valid ? 1 : NONE);
                due.is(call + "may", x.may(2, 0, 0, time), valid ? 1 : NONE);
                due.is(call + "may by a name", x.may(1, 0, 0, time), valid ? 2 : NONE);
                due.is(call + "holders", x.holders(0, 0, time), valid ? 6 : 0);
                due.is(call + "grants", x.grants(0, 0, time), valid);
            }
        }
    }

    /** "CERTIFICATES are numbered 0, 1, .. in the order in which they are made, at most 24". */
    private static void atMost24Certificates() {
        for (int names = 0; names <= 24; names++) {
            DelegationClosure x = new DelegationClosure();
            for (int i = 0; i < 24; i++) {
                int c = i < names ? x.name(0, 0, 1, 0, 9) : x.permit(OWNER, 0, true, 0, 9);
                due.is("24, " + names + " of names: made", c, i);
            }
            for (int again = 0; again < 2; again++) {
                due.is("24, " + names + " of names: name", x.name(1, 1, 2, 0, 9), NONE);
                due.is("24, " + names + " of names: permit", x.permit(OWNER, 3, true, 0, 9), NONE);
            }
            due.is("24, " + names + " of names: how many", x.certificates(), 24);
            due.is("24, " + names + " of names: no name", x.meant(Due.subject(1, 1), 5), 0);
            due.is("24, " + names + " of names: nobody more", x.holders(0, 0, 5) & 8, 0);
        }
    }

    private static void atMost24CertificatesAndRevokedOnes() {
        DelegationClosure x = new DelegationClosure();
        for (int i = 0; i < 24; i++) {
            due.is("24, revoked: made", x.permit(OWNER, 0, true, 0, 9), i);
            due.is("24, revoked: revoked", x.revoke(i), true);
        }
        due.is("24, revoked: name", x.name(0, 0, 1, 0, 9), NONE);
        due.is("24, revoked: permit", x.permit(OWNER, 1, true, 0, 9), NONE);
        due.is("24, revoked: how many", x.certificates(), 24);
        due.is("24, revoked: nobody", x.holders(0, 0, 5), 0);
    }

    private static void numbersAreInOneRow() {
        DelegationClosure x = new DelegationClosure();
        for (int i = 0; i < 12; i++) {
            due.is("one row: how many before a name", x.certificates(), 2 * i);
            due.is("one row: name", x.name(i % 8, i % 4, 1, 0, 9), 2 * i);
            due.is("one row: how many before a permission", x.certificates(), 2 * i + 1);
            due.is("one row: permit", x.permit(i % 9, 1, true, 0, 9), 2 * i + 1);
        }
        for (int i = 0; i < 12; i++) {
            due.is("one row: a name has no quorum", x.quorum(2 * i, 1), false);
            due.is("one row: a permission has", x.quorum(2 * i + 1, 1), true);
        }
    }

    /** "one to three subjects". */
    private static void oneToThreeSubjects() {
        DelegationClosure x = withPermission();
        due.is("subjects: one", x.holders(0, 0, 5), Due.setOf(0));
        due.is("subjects: the second is taken", x.also(0, 1), 2);
        due.is("subjects: two", x.holders(0, 0, 5), Due.setOf(0, 1));
        due.is("subjects: the third is taken", x.also(0, 2), 3);
        due.is("subjects: three", x.holders(0, 0, 5), Due.setOf(0, 1, 2));
        due.is("subjects: a fourth is refused", x.also(0, 3), NONE);
        due.is("subjects: and again", x.also(0, 0), NONE);
        due.is("subjects: still three", x.holders(0, 0, 5), Due.setOf(0, 1, 2));
        due.is("subjects: another certificate", x.permit(OWNER, 7, true, 0, 9), 1);
        due.is("subjects: is not full by that", x.also(1, 6), 2);
        due.is("subjects: of both", x.holders(0, 0, 5), Due.setOf(0, 1, 2, 6, 7));
    }

    /** "a QUORUM, from 1 to the number of its subjects". */
    private static void quorumFromOneToTheNumberOfSubjects() {
        for (int subjects = 1; subjects <= 3; subjects++) {
            for (int k = -1; k <= 5; k++) {
                DelegationClosure x = withPermission();
                for (int i = 1; i < subjects; i++) {
                    x.also(0, 0);
                }
                boolean taken = k >= 1 && k <= subjects;
                due.is("quorum " + k + " of " + subjects, x.quorum(0, k), taken);
                due.is("quorum " + k + " of " + subjects + ": may", x.may(0, 0, 0, 5), 1);
            }
        }
    }

    /** "a TAG, which is a set of the operations 0 .. 7". */
    private static void tagIsASetOfOperations() {
        for (int set = 0; set <= 255; set++) {
            DelegationClosure x = withPermission();
            due.is("operations " + set, x.tag(0, set, 0, 0), true);
            x.begin(0);
            for (int operation = 0; operation < 8; operation++) {
                boolean has = set / power(operation) % 2 == 1;
                String call = "operations " + set + ", operation " + operation + ": ";
                due.is(call + "may", x.may(0, operation, 0, 5), has ? 1 : NONE);
                due.is(call + "holders", x.holders(operation, 0, 5), has ? 1 : 0);
                due.is(call + "grants", x.grants(operation, 0, 5), has);
            }
        }
    }

    private static int power(int exponent) {
        int power = 1;
        for (int i = 0; i < exponent; i++) {
            power *= 2;
        }
        return power;
    }

    /** "a range of numbers low .. high, both included". */
    private static void tagIsARangeBothIncluded() {
        int[][] ranges = {
            {3, 5}, {4, 4}, {-1, 0}, {LEAST, LEAST}, {MOST, MOST}, {LEAST, MOST}, {LEAST, -1},
            {0, MOST}, {LEAST + 1, MOST - 1}};
        int[] numbers = {
            LEAST, LEAST + 1, LEAST + 2, -2, -1, 0, 1, 2, 3, 4, 5, 6, MOST - 2, MOST - 1, MOST};
        for (int[] range : ranges) {
            DelegationClosure x = withPermission();
            due.is("range " + range[0] + " .. " + range[1], x.tag(0, 255, range[0], range[1]), true);
            x.begin(0);
            for (int number : numbers) {
                boolean has = range[0] <= number && number <= range[1];
                String call = "range " + range[0] + " .. " + range[1] + " and " + number + ": ";
                due.is(call + "may", x.may(0, 7, number, 5), has ? 1 : NONE);
                due.is(call + "holders", x.holders(0, number, 5), has ? 1 : 0);
                due.is(call + "grants", x.grants(7, number, 5), has);
            }
        }
    }

    /** "A certificate that has been revoked is no longer looked at by anything below". */
    private static void revokedNamesAreNotLookedAt() {
        DelegationClosure x = new DelegationClosure();
        x.name(0, 0, 1, 0, 9);
        x.name(2, 0, Due.subject(0, 0), 0, 9);
        x.permit(OWNER, Due.subject(0, 0), true, 0, 9);
        x.begin(2);
        x.revoke(0);
        due.is("revoked name: meant", x.meant(Due.subject(0, 0), 5), 0);
        due.is("revoked name: meant by another", x.meant(Due.subject(2, 0), 5), 0);
        due.is("revoked name: cost", x.cost(Due.subject(0, 0), 1, 5), NONE);
        due.is("revoked name: cost of two names", x.cost(Due.subject(2, 0, 0), 1, 5), NONE);
        due.is("revoked name: may", x.may(1, 0, 0, 5), NONE);
        due.is("revoked name: holders", x.holders(0, 0, 5), 0);
        due.is("revoked name: follow", x.follow(0), false);
        due.is("revoked name: revoke", x.revoke(0), false);
        due.is("revoked name: begin", x.begin(0), false);
        due.is("revoked name: the chain goes on by another", x.name(0, 0, 4, 0, 9) == 3 && x.follow(3), true);
    }

    private static void revokedPermissionsAreNotLookedAt() {
        DelegationClosure x = withPermission();
        x.permit(0, 1, true, 0, 9);
        x.permit(1, 2, true, 0, 9);
        x.begin(0);
        x.revoke(1);
        due.is("revoked permission: may", x.may(1, 0, 0, 5), NONE);
        due.is("revoked permission: not through it", x.may(2, 0, 0, 5), NONE);
        due.is("revoked permission: holders", x.holders(0, 0, 5), 1);
        due.is("revoked permission: follow", x.follow(1), false);
        x.revoke(0);
        due.is("revoked permission: nobody", x.holders(0, 0, 5), 0);
        due.is("revoked permission: begin", x.begin(0), false);
        due.is("revoked permission: tag", x.tag(0, 1, 0, 0), false);
        due.is("revoked permission: also", x.also(0, 1), NONE);
        due.is("revoked permission: quorum", x.quorum(0, 1), false);
        due.is("revoked permission: revoke", x.revoke(0), false);
        due.is("revoked permission: still nobody", x.holders(0, 0, 5), 0);
    }

    /** "but keeps its number". */
    private static void revokedOnesKeepTheirNumber() {
        DelegationClosure x = new DelegationClosure();
        x.permit(OWNER, 0, true, 0, 9);
        x.name(0, 0, 5, 0, 9);
        x.permit(OWNER, 2, true, 0, 9);
        x.revoke(0);
        x.revoke(1);
        due.is("kept: how many", x.certificates(), 3);
        due.is("kept: the next number", x.permit(OWNER, 3, true, 0, 9), 3);
        due.is("kept: the next of names", x.name(0, 0, 6, 0, 9), 4);
        due.is("kept: 2 is the one that it was", x.begin(2), true);
        due.is("kept: its key", x.head(), 2);
        due.is("kept: revoke of 3", x.revoke(3), true);
        due.is("kept: 2 stands", x.holders(0, 0, 5), Due.setOf(2));
        due.is("kept: 4 stands", x.meant(Due.subject(0, 0), 5), Due.setOf(6));
    }

    /** "What is not meant by these rules, used finitely often, is not meant." */
    private static void whatIsNotMeantByFinitelyManyUses() {
        for (int length = 1; length <= 8; length++) {
            DelegationClosure x = new DelegationClosure();
            for (int key = 0; key < length; key++) {
                x.name(key, 0, Due.subject((key + 1) % length, 0), 0, 9);
            }
            x.name(0, 1, Due.subject(0, 1, 1), 0, 9);
            x.name(0, 2, Due.subject(0, 0, 3), 0, 9);
            String call = "circle of " + length + ": ";
            for (int number = 8; number < 200; number++) {
                if (Due.isSubject(number)) {
                    due.is(call + number, x.meant(number, 5), 0);
                }
            }
            for (int key = 0; key < 8; key++) {
                due.is(call + "cost", x.cost(Due.subject(0, 0), key, 5), NONE);
            }
            x.name(length - 1, 0, 3, 0, 9);
            due.is(call + "with a way out", x.meant(Due.subject(0, 0), 5), Due.setOf(3));
            due.is(call + "its cost", x.cost(Due.subject(0, 0), 3, 5), length);
            due.is(call + "once round is no less", x.cost(Due.subject(length - 1, 0), 3, 5), 1);
        }
    }

    /** "if at least as many of its subjects as its quorum lead to X by it". */
    private static void leadsIfAsManySubjectsAsTheQuorumLead() {
        for (int subjects = 1; subjects <= 3; subjects++) {
            for (int quorum = 1; quorum <= subjects; quorum++) {
                for (int leading = 0; leading <= subjects; leading++) {
                    DelegationClosure x = new DelegationClosure();
                    x.permit(OWNER, Due.subject(0, 0), false, 0, 9);
                    for (int i = 1; i < subjects; i++) {
                        x.also(0, Due.subject(i, 0));
                    }
                    x.quorum(0, quorum);
                    for (int i = 0; i < leading; i++) {
                        x.name(subjects - 1 - i, 0, 7, 0, 9);
                    }
                    String call = leading + " of " + subjects + " lead at quorum " + quorum;
                    due.is(call, x.may(7, 0, 0, 5), leading >= quorum ? 1 + quorum : NONE);
                    due.is(call + ": holders", x.holders(0, 0, 5), leading >= quorum ? 128 : 0);
                }
            }
        }
    }

    /** "and Y is X, or the certificate delegates and a certificate that has Y as its issuer leads". */
    private static void onlyACertificateThatDelegatesLeadsOn() {
        for (int length = 1; length <= 8; length++) {
            for (int ends = 0; ends <= length; ends++) {
                DelegationClosure x = new DelegationClosure();
                for (int i = 0; i < length; i++) {
                    x.permit(i == 0 ? OWNER : i - 1, i, i != ends, 0, 9);
                }
                for (int key = 0; key < 8; key++) {
                    boolean may = key < length && key <= ends;
                    String call = length + " certificates, " + ends + " does not delegate: " + key;
                    due.is(call, x.may(key, 0, 0, 5), may ? key + 1 : NONE);
                }
            }
        }
    }

    /** "What does not lead by these rules, used finitely often, does not lead." */
    private static void whatDoesNotLeadByFinitelyManyUses() {
        for (int length = 1; length <= 7; length++) {
            DelegationClosure x = new DelegationClosure();
            x.permit(OWNER, Due.subject(7, 0), true, 0, 9);
            x.name(7, 0, 0, 0, 9);
            for (int key = 0; key < length; key++) {
                int c = x.permit(key, (key + 1) % length, true, 0, 9);
                x.also(c, 7);
                x.quorum(c, 2);
            }
            String call = "quorums in a circle of " + length + ": ";
            due.is(call + "only the first", x.holders(0, 0, 5), Due.setOf(0));
            due.is(call + "cost of the first", x.may(0, 0, 0, 5), 2);
            due.is(call + "not to the key that all need", x.may(7, 0, 0, 5), NONE);
            x.permit(length - 1, 7, false, 0, 9);
            due.is(call + "with a way out", x.holders(0, 0, 5), Due.setOf(0, 7));
            due.is(call + "its cost", x.may(7, 0, 0, 5), 2 + length);
        }
    }

    /** "Every cost that would be more than 999 is 999.", of meanings. */
    private static void costOfAMeaningAbove999() {
        for (int sum = 997; sum <= 1000; sum++) {
            DelegationClosure x = Costly.object(sum);
            Costly.always(x, 5, 0, Costly.SUBJECT);
            Costly.always(x, 5, 1, Due.subject(5, 0));
            Costly.always(x, 5, 2, Due.subject(5, 1));
            Costly.always(x, 6, 0, Due.subject(5, 2, 3));
            String call = "cost of " + sum + ": ";
            int key = Costly.MEANT;
            due.is(call + "all are made", x.certificates(), 24);
            due.is(call + "a sum", x.cost(Costly.SUBJECT, key, 0), Math.min(999, sum));
            due.is(call + "1 more", x.cost(Due.subject(5, 0), key, 0), Math.min(999, sum + 1));
            due.is(call + "2 more", x.cost(Due.subject(5, 1), key, 0), Math.min(999, sum + 2));
            due.is(call + "3 more", x.cost(Due.subject(5, 2), key, 0), Math.min(999, sum + 3));
            due.is(call + "far more", x.cost(Due.subject(5, 2, 3), key, 0), 999);
            due.is(call + "1 more than that", x.cost(Due.subject(6, 0), key, 0), 999);
            due.is(call + "it is meant", x.meant(Due.subject(6, 0), 0), Due.setOf(key));
            due.is(call + "no other is", x.cost(Due.subject(6, 0), 0, 0), NONE);
        }
    }

    /** "Every cost that would be more than 999 is 999.", of certificates that lead. */
    private static void costOfLeadingAbove999() {
        for (int sum = 997; sum <= 1000; sum++) {
            DelegationClosure x = Costly.object(sum);
            x.permit(OWNER, Costly.SUBJECT, true, LEAST, MOST);
            x.permit(Costly.MEANT, 5, true, LEAST, MOST);
            x.permit(5, 6, true, LEAST, MOST);
            String call = "leads at " + sum + " and 1: ";
            due.is(call + "may", x.may(3, 0, 0, 0), Math.min(999, sum + 1));
            due.is(call + "one more", x.may(5, 0, 0, 0), Math.min(999, sum + 2));
            due.is(call + "two more", x.may(6, 0, 0, 0), 999);
            due.is(call + "another may not", x.may(7, 0, 0, 0), NONE);
            due.is(call + "holders", x.holders(0, 0, 0), Due.setOf(3, 5, 6));
            x.also(20, Costly.SUBJECT);
            x.also(20, Costly.SUBJECT);
            x.quorum(20, 3);
            due.is(call + "three times", x.may(3, 0, 0, 0), 999);
            x.permit(OWNER, 6, true, LEAST, MOST);
            due.is(call + "less is less", x.may(6, 0, 0, 0), 1);
        }
    }

    /** "a key with 0 to 4 names behind it". */
    private static void chainOfNoToFourNames() {
        for (int names = 0; names <= 4; names++) {
            DelegationClosure x = new DelegationClosure();
            x.permit(OWNER, names == 0 ? 6 : Due.subject(6, 3), true, 0, 9);
            x.name(6, 3, Due.subject(6, 3, 2), 0, 9);
            x.begin(0);
            for (int have = 1; have < names; have++) {
                due.is("names in the chain: " + have + " to one more", x.follow(1), true);
            }
            for (int i = 0; i < names; i++) {
                due.is("names in the chain: " + i + " of " + names, x.behind(i), i == 0 ? 3 : 2);
            }
            due.is("names in the chain: no more than " + names, x.behind(names), NONE);
            due.is("names in the chain: one more than " + names, x.follow(1), names > 0 && names < 4);
        }
    }

    /** "a span of times from .. to (empty when from is more than to)". */
    private static void chainOfAnEmptySpan() {
        int[][] spans = {{5, 4}, {MOST, LEAST}, {0, -1}, {MOST, MOST - 1}, {LEAST + 1, LEAST}};
        for (int[] span : spans) {
            DelegationClosure x = new DelegationClosure();
            x.permit(OWNER, 0, true, span[0], span[1]);
            x.permit(0, 1, true, LEAST, MOST);
            String call = "span " + span[0] + " .. " + span[1] + ": ";
            due.is(call + "begin", x.begin(0), true);
            dueNoTime(call + "first", x, span);
            due.is(call + "follow", x.follow(1), true);
            dueNoTime(call + "after a certificate of all times", x, span);
            due.is(call + "head", x.head(), 1);
            due.is(call + "used", x.used(), 2);
        }
    }

    private static void dueNoTime(String call, DelegationClosure x, int[] span) {
        int[] times = {span[0] - 1, span[0], span[1], span[1] + 1, -1, 0, 4, 5, LEAST, MOST};
        for (int time : times) {
            due.is(call + ": at " + time, x.grants(0, 0, time), false);
        }
    }

    /** "It is as it was made, whatever becomes of its certificates later". */
    private static void chainIsAsItWasMade() {
        for (int kind = 0; kind < 4; kind++) {
            DelegationClosure x = new DelegationClosure();
            x.permit(OWNER, Due.subject(0, 0, 1), true, 2, 20);
            x.name(0, 0, 3, 0, 9);
            x.name(3, 1, 4, 0, 9);
            x.permit(4, 5, true, 4, 20);
            x.permit(5, 6, false, 0, 20);
            x.tag(0, 7, 0, 9);
            x.tag(3, 6, 5, 20);
            x.begin(0);
            changeLater(x, 0, kind);
            due.is("as made: names of the first", x.behind(0) == 0 && x.behind(1) == 1, true);
            due.is("as made: follow a name", x.follow(1), true);
            x.revoke(1);
            due.is("as made: key after the name is revoked", x.head(), 3);
            due.is("as made: the second name", x.follow(2), true);
            x.revoke(2);
            due.is("as made: tag of the first", x.grants(0, 9, 9), true);
            due.is("as made: times of the first", x.grants(0, 9, 2), true);
            due.is("as made: not before", x.grants(0, 9, 1), false);
            due.is("as made: follow a permission", x.follow(3), true);
            changeLater(x, 3, kind);
            due.is("as made: common tag", x.grants(1, 5, 4) && x.grants(2, 9, 9), true);
            due.is("as made: nothing of the later tag", x.grants(7, 50, 5), false);
            due.is("as made: no more operations", x.grants(0, 5, 5), false);
            due.is("as made: no more numbers", x.grants(1, 4, 5) || x.grants(1, 10, 5), false);
            due.is("as made: no more times", x.grants(1, 5, 3) || x.grants(1, 5, 10), false);
            due.is("as made: it delegates", x.delegates(), true);
            due.is("as made: head", x.head(), 5);
            due.is("as made: no name", x.behind(0), NONE);
            due.is("as made: used", x.used(), 4);
            due.is("as made: goes on", x.follow(4), true);
        }
    }

    /** Revoked, another tag, more subjects, or all of these. */
    private static void changeLater(DelegationClosure x, int c, int kind) {
        if (kind == 1 || kind == 3) {
            due.is("as made: another tag", x.tag(c, 128, 50, 60), true);
        }
        if (kind == 2 || kind == 3) {
            due.is("as made: more subjects", x.also(c, 7), 2);
            due.is("as made: another quorum", x.quorum(c, 2), true);
        }
        if (kind == 0 || kind == 3) {
            due.is("as made: revoked", x.revoke(c), true);
        }
    }

    private TermsEdgeTest() {
    }
}
