/**
 * Promises 1 to 8 at their edges: a test for each sentence that draws one, with the last value that
 * is taken and the first that is refused. Every refused call here would be taken but for one
 * reason. That it changes nothing is RefusalTest's.
 */
public final class CertificatesEdgeTest {
    private static final int NONE = DelegationClosure.NONE;
    private static final int OWNER = DelegationClosure.OWNER;
    private static final int LEAST = Edges.LEAST;
    private static final int MOST = Edges.MOST;
    private static final Due due = new Due();

    public static void main(String[] args) {
        promise1NoCertificates();
        promise1NoChain();
        promise2Issuer();
        promise2Name();
        promise2Subject();
        promise2After24();
        promise2FromMoreThanTo();
        promise3Issuer();
        promise3Subject();
        promise3After24();
        promise3FromMoreThanTo();
        promise3OneSubjectAndQuorum1();
        promise3AllOperationsAndAllInts();
        promise4NoSuchCertificate();
        promise4Revoked();
        promise4Operations();
        promise4LowAndHigh();
        promise5NoSuchCertificate();
        promise5Revoked();
        promise5Subject();
        promise5Three();
        promise5OneThatItHas();
        promise5QuorumStays();
        promise6NoSuchCertificate();
        promise6Revoked();
        promise6From1ToTheNumberOfSubjects();
        promise7None();
        promise7Twice();
        promise8FromNoneTo24();
        promise8RefusedOnesAndRevokedOnes();
        due.end();
    }

    /** Of names: 0, revoked 1. Of permissions: 2, revoked 3. */
    private static DelegationClosure ofBothKinds() {
        DelegationClosure x = new DelegationClosure();
        x.name(0, 0, 1, 0, 9);
        x.name(0, 0, 2, 0, 9);
        x.permit(OWNER, 3, true, 0, 9);
        x.permit(OWNER, 4, true, 0, 9);
        x.revoke(1);
        x.revoke(3);
        return x;
    }

    /** "No certificates". */
    private static void promise1NoCertificates() {
        DelegationClosure x = new DelegationClosure();
        due.is("new: certificates", x.certificates(), 0);
        for (int c = -1; c <= 24; c++) {
            due.is("new: tag " + c, x.tag(c, 255, LEAST, MOST), false);
            due.is("new: also " + c, x.also(c, 0), NONE);
            due.is("new: quorum " + c, x.quorum(c, 1), false);
            due.is("new: revoke " + c, x.revoke(c), false);
        }
        for (int operation = 0; operation < 8; operation++) {
            due.is("new: holders of " + operation, x.holders(operation, 0, 0), 0);
        }
        due.is("new: the first number", x.name(0, 0, 0, 0, 0), 0);
        DelegationClosure y = new DelegationClosure();
        for (int number = 0; number < 200; number++) {
            if (Due.isSubject(number)) {
                due.is("new: meant " + number, y.meant(number, 0), number < 8 ? 1 << number : 0);
            }
        }
        due.is("new: the first number of a permission", y.permit(0, 0, true, 0, 0), 0);
    }

    /** "no chain". */
    private static void promise1NoChain() {
        DelegationClosure x = new DelegationClosure();
        for (int c = -1; c <= 24; c++) {
            due.is("new: begin " + c, x.begin(c), false);
            due.is("new: follow " + c, x.follow(c), false);
        }
        for (int i = -1; i <= 5; i++) {
            due.is("new: behind " + i, x.behind(i), NONE);
        }
        for (int operation = -1; operation <= 8; operation++) {
            due.is("new: grants " + operation, x.grants(operation, 0, 0), false);
        }
        due.is("new: head", x.head(), NONE);
        due.is("new: used", x.used(), 0);
        due.is("new: delegates", x.delegates(), false);
    }

    /** "NONE (refused) if issuer is not 0 .. 7". */
    private static void promise2Issuer() {
        DelegationClosure x = new DelegationClosure();
        for (int wrong : Edges.outside(0, 7)) {
            due.is("name: issuer " + wrong, x.name(wrong, 0, 1, 0, 9), NONE);
        }
        due.is("name: issuer OWNER", x.name(OWNER, 0, 1, 0, 9), NONE);
        for (int issuer = 0; issuer <= 7; issuer++) {
            due.is("name: issuer " + issuer, x.name(issuer, 0, 7 - issuer, 0, 9), issuer);
        }
        for (int issuer = 0; issuer <= 7; issuer++) {
            int meant = x.meant(Due.subject(issuer, 0), 5);
            due.is("name: meaning by issuer " + issuer, meant, 1 << 7 - issuer);
        }
    }

    /** "name not 0 .. 3". */
    private static void promise2Name() {
        DelegationClosure x = new DelegationClosure();
        for (int wrong : Edges.outside(0, 3)) {
            due.is("name: name " + wrong, x.name(1, wrong, 1, 0, 9), NONE);
        }
        for (int name = 0; name <= 3; name++) {
            due.is("name: name " + name, x.name(1, name, 2 + name, 0, 9), name);
        }
        for (int name = 0; name <= 3; name++) {
            due.is("name: meaning of " + name, x.meant(Due.subject(1, name), 5), 1 << 2 + name);
        }
        due.is("name: not of the key before", x.meant(Due.subject(0, 3), 5), 0);
        due.is("name: not of the next key", x.meant(Due.subject(2, 0), 5), 0);
    }

    /** "subject no subject". */
    private static void promise2Subject() {
        DelegationClosure x = new DelegationClosure();
        for (int wrong : Edges.NO_SUBJECTS) {
            due.is("name: subject " + wrong, x.name(0, 0, wrong, 0, 9), NONE);
        }
        for (int i = 0; i < Edges.SUBJECTS.length; i++) {
            due.is("name: subject " + Edges.SUBJECTS[i], x.name(0, 0, Edges.SUBJECTS[i], 0, 9), i);
        }
    }

    /** "or 24 certificates were made". */
    private static void promise2After24() {
        DelegationClosure x = new DelegationClosure();
        for (int i = 0; i < 23; i++) {
            x.permit(0, 1, true, 0, 9);
        }
        due.is("name: the 24th", x.name(0, 0, 1, 0, 9), 23);
        due.is("name: the 25th", x.name(0, 1, 1, 0, 9), NONE);
        due.is("name: the 24th means", x.meant(Due.subject(0, 0), 5), 2);
        due.is("name: the 25th does not", x.meant(Due.subject(0, 1), 5), 0);
    }

    /** "(from may be more than to: then it is never valid.)" */
    private static void promise2FromMoreThanTo() {
        int[][] spans = {{1, 0}, {MOST, LEAST}, {LEAST + 1, LEAST}, {MOST, MOST - 1}, {9, -9}};
        for (int[] span : spans) {
            DelegationClosure x = new DelegationClosure();
            due.is("name: from above to is taken", x.name(0, 0, 1, span[0], span[1]), 0);
            due.is("name: it counts", x.certificates(), 1);
            for (int time : new int[] {LEAST, LEAST + 1, -9, -1, 0, 1, 2, 9, MOST - 1, MOST}) {
                due.is("name: never valid, at " + time, x.meant(Due.subject(0, 0), time), 0);
                due.is("name: no cost at " + time, x.cost(Due.subject(0, 0), 1, time), NONE);
            }
            due.is("name: it can be revoked", x.revoke(0), true);
        }
        DelegationClosure y = new DelegationClosure();
        y.name(0, 0, 1, 1, 1);
        due.is("name: from that is to is valid once", y.meant(Due.subject(0, 0), 1), 2);
    }

    /** "NONE (refused) if issuer is not 0 .. 8 (OWNER)". */
    private static void promise3Issuer() {
        DelegationClosure x = new DelegationClosure();
        for (int wrong : Edges.outside(0, OWNER)) {
            due.is("permit: issuer " + wrong, x.permit(wrong, 1, true, 0, 9), NONE);
        }
        for (int issuer = 0; issuer <= OWNER; issuer++) {
            due.is("permit: issuer " + issuer, x.permit(issuer, (issuer + 1) % 8, true, 0, 9), issuer);
        }
        due.is("permit: OWNER is 8", x.may(1, 0, 0, 5), 1);
        due.is("permit: keys pass it on", x.may(0, 0, 0, 5), 8);
    }

    /** "subject no subject". */
    private static void promise3Subject() {
        DelegationClosure x = new DelegationClosure();
        for (int wrong : Edges.NO_SUBJECTS) {
            due.is("permit: subject " + wrong, x.permit(OWNER, wrong, true, 0, 9), NONE);
        }
        for (int i = 0; i < Edges.SUBJECTS.length; i++) {
            int number = Edges.SUBJECTS[i];
            due.is("permit: subject " + number, x.permit(OWNER, number, true, 0, 9), i);
        }
        due.is("permit: those that are keys hold", x.holders(0, 0, 5), Due.setOf(0, 7));
    }

    /** "or 24 certificates were made". */
    private static void promise3After24() {
        DelegationClosure x = new DelegationClosure();
        for (int i = 0; i < 23; i++) {
            x.name(0, 0, 1, 0, 9);
        }
        due.is("permit: the 24th", x.permit(OWNER, 1, true, 0, 9), 23);
        due.is("permit: the 25th", x.permit(OWNER, 2, true, 0, 9), NONE);
        due.is("permit: the 24th permits, the 25th does not", x.holders(0, 0, 5), Due.setOf(1));
        due.is("permit: the 24th can be changed", x.also(23, 3), 2);
        due.is("permit: the 25th cannot", x.also(24, 3), NONE);
        due.is("permit: the last can be revoked", x.revoke(23), true);
        due.is("permit: there is none behind it", x.revoke(24), false);
    }

    /** "(from may be more than to here, too)". */
    private static void promise3FromMoreThanTo() {
        int[][] spans = {{1, 0}, {MOST, LEAST}, {LEAST + 1, LEAST}, {MOST, MOST - 1}, {9, -9}};
        for (int[] span : spans) {
            DelegationClosure x = new DelegationClosure();
            due.is("permit: from above to is taken", x.permit(OWNER, 1, true, span[0], span[1]), 0);
            due.is("permit: it counts", x.certificates(), 1);
            for (int time : new int[] {LEAST, LEAST + 1, -9, -1, 0, 1, 2, 9, MOST - 1, MOST}) {
                due.is("permit: never valid, at " + time, x.holders(0, 0, time), 0);
                due.is("permit: may not at " + time, x.may(1, 0, 0, time), NONE);
            }
            due.is("permit: it can be changed", x.tag(0, 1, 0, 0) && x.also(0, 2) == 2, true);
        }
        DelegationClosure y = new DelegationClosure();
        y.permit(OWNER, 1, true, 1, 1);
        due.is("permit: from that is to is valid once", y.holders(0, 0, 1), 2);
    }

    /** "with one subject, quorum 1". */
    private static void promise3OneSubjectAndQuorum1() {
        DelegationClosure x = new DelegationClosure();
        x.permit(OWNER, 1, true, 0, 9);
        due.is("permit: quorum 2 is too many", x.quorum(0, 2), false);
        due.is("permit: a second subject is the second", x.also(0, 2), 2);
        due.is("permit: of which one is enough", x.holders(0, 0, 5), Due.setOf(1, 2));
    }

    /** "a tag of all operations and all ints as numbers". */
    private static void promise3AllOperationsAndAllInts() {
        DelegationClosure x = new DelegationClosure();
        x.permit(OWNER, 1, true, LEAST, MOST);
        for (int operation = 0; operation <= 7; operation++) {
            for (int number : new int[] {LEAST, LEAST + 1, -1, 0, 1, MOST - 1, MOST}) {
                String call = "permit: operation " + operation + ", number " + number;
                due.is(call, x.may(1, operation, number, LEAST), 1);
                due.is(call + ", holders", x.holders(operation, number, MOST), 2);
            }
        }
    }

    /** "refused with false if there is no such certificate of permissions". */
    private static void promise4NoSuchCertificate() {
        DelegationClosure x = ofBothKinds();
        for (int wrong : Edges.noCertificates(4)) {
            due.is("tag: certificate " + wrong, x.tag(wrong, 1, 0, 0), false);
        }
        due.is("tag: of names", x.tag(0, 1, 0, 0), false);
        due.is("tag: of permissions", x.tag(2, 1, 0, 0), true);
        due.is("tag: the next that is made", x.permit(OWNER, 0, true, 0, 9) == 4 && x.tag(4, 1, 0, 0), true);
        DelegationClosure y = new DelegationClosure();
        y.permit(OWNER, 0, true, 0, 9);
        due.is("tag: the first", y.tag(0, 1, 0, 0), true);
    }

    /** "it is revoked". */
    private static void promise4Revoked() {
        DelegationClosure x = ofBothKinds();
        due.is("tag: revoked", x.tag(3, 1, 0, 0), false);
        due.is("tag: not revoked", x.tag(2, 1, 0, 0), true);
        x.revoke(2);
        due.is("tag: revoked now", x.tag(2, 1, 0, 0), false);
    }

    /** "operations is not 0 .. 255". */
    private static void promise4Operations() {
        DelegationClosure x = new DelegationClosure();
        x.permit(OWNER, 1, true, 0, 9);
        for (int wrong : new int[] {-1, 256, 257, 511, -255, -256, 65536, LEAST, MOST}) {
            due.is("tag: operations " + wrong, x.tag(0, wrong, 0, 0), false);
            due.is("tag: as it was", x.may(1, 7, 1, 5), 1);
        }
        due.is("tag: operations 0", x.tag(0, 0, 0, 0), true);
        for (int operation = 0; operation <= 7; operation++) {
            due.is("tag: none, " + operation, x.may(1, operation, 0, 5), NONE);
        }
        due.is("tag: operations 255", x.tag(0, 255, 0, 0), true);
        for (int operation = 0; operation <= 7; operation++) {
            due.is("tag: all, " + operation, x.may(1, operation, 0, 5), 1);
        }
        due.is("tag: operations 1", x.tag(0, 1, 0, 0), true);
        due.is("tag: the first only", x.may(1, 0, 0, 5) == 1 && x.may(1, 1, 0, 5) == NONE, true);
        due.is("tag: operations 128", x.tag(0, 128, 0, 0), true);
        due.is("tag: the last only", x.may(1, 7, 0, 5) == 1 && x.may(1, 6, 0, 5) == NONE, true);
    }

    /** "or low is more than high". */
    private static void promise4LowAndHigh() {
        DelegationClosure x = new DelegationClosure();
        x.permit(OWNER, 1, true, 0, 9);
        int[][] wrong = {
            {1, 0}, {0, -1}, {MOST, LEAST}, {MOST, MOST - 1}, {LEAST + 1, LEAST}, {MOST, -1}, {0, LEAST}};
        for (int[] range : wrong) {
            due.is("tag: " + range[0] + " .. " + range[1], x.tag(0, 1, range[0], range[1]), false);
            due.is("tag: numbers as they were", x.may(1, 7, MOST, 5), 1);
        }
        int[][] right = {
            {0, 0}, {0, 1}, {-1, 0}, {LEAST, MOST}, {LEAST, LEAST}, {MOST, MOST}, {-1, MOST}, {LEAST, 0}};
        for (int[] range : right) {
            due.is("tag: " + range[0] + " .. " + range[1], x.tag(0, 1, range[0], range[1]), true);
            due.is("tag: low holds", x.may(1, 0, range[0], 5), 1);
            due.is("tag: high holds", x.may(1, 0, range[1], 5), 1);
            if (range[0] != LEAST) {
                due.is("tag: below low does not", x.may(1, 0, range[0] - 1, 5), NONE);
            }
            if (range[1] != MOST) {
                due.is("tag: above high does not", x.may(1, 0, range[1] + 1, 5), NONE);
            }
        }
    }

    /** "NONE (refused) if there is no such certificate of permissions". */
    private static void promise5NoSuchCertificate() {
        DelegationClosure x = ofBothKinds();
        for (int wrong : Edges.noCertificates(4)) {
            due.is("also: certificate " + wrong, x.also(wrong, 1), NONE);
        }
        due.is("also: of names", x.also(0, 1), NONE);
        due.is("also: of permissions", x.also(2, 1), 2);
        due.is("also: the next that is made", x.permit(OWNER, 0, true, 0, 9) == 4 && x.also(4, 1) == 2, true);
        DelegationClosure y = new DelegationClosure();
        y.permit(OWNER, 0, true, 0, 9);
        due.is("also: the first", y.also(0, 1), 2);
    }

    /** "it is revoked". */
    private static void promise5Revoked() {
        DelegationClosure x = ofBothKinds();
        due.is("also: revoked", x.also(3, 1), NONE);
        due.is("also: not revoked", x.also(2, 1), 2);
        x.revoke(2);
        due.is("also: revoked now", x.also(2, 1), NONE);
    }

    /** "subject is no subject". */
    private static void promise5Subject() {
        DelegationClosure x = new DelegationClosure();
        x.permit(OWNER, 1, true, 0, 9);
        for (int wrong : Edges.NO_SUBJECTS) {
            due.is("also: subject " + wrong, x.also(0, wrong), NONE);
            due.is("also: still one", x.quorum(0, 2), false);
        }
        for (int number : Edges.SUBJECTS) {
            int c = x.permit(OWNER, 1, true, 0, 9);
            due.is("also: subject " + number, x.also(c, number), 2);
            due.is("also: subject " + number + " again", x.also(c, number), 3);
        }
    }

    /** "or it has three". */
    private static void promise5Three() {
        DelegationClosure x = new DelegationClosure();
        x.permit(OWNER, 1, true, 0, 9);
        due.is("also: to two", x.also(0, 2), 2);
        due.is("also: to three", x.also(0, 3), 3);
        due.is("also: not to four", x.also(0, 4), NONE);
        due.is("also: nor with one that it has", x.also(0, 1), NONE);
        due.is("also: nor at another quorum", x.quorum(0, 3) && x.also(0, 4) == NONE, true);
        due.is("also: there are three", x.quorum(0, 4), false);
        x.quorum(0, 1);
        due.is("also: who they are", x.holders(0, 0, 5), Due.setOf(1, 2, 3));
    }

    /** "(it may be one that it has, and counts by itself then". */
    private static void promise5OneThatItHas() {
        DelegationClosure x = new DelegationClosure();
        x.permit(OWNER, 1, true, 0, 9);
        x.permit(1, 2, true, 0, 9);
        due.is("also: the same", x.also(0, 1), 2);
        due.is("also: a quorum of both", x.quorum(0, 2), true);
        due.is("also: both lead", x.may(1, 0, 0, 5), 1);
        due.is("also: each is paid for", x.may(2, 0, 0, 5), 3);
        due.is("also: the same once more", x.also(0, 1), 3);
        due.is("also: a quorum of all", x.quorum(0, 3), true);
        due.is("also: all lead", x.may(1, 0, 0, 5), 1);
        due.is("also: each of three is paid for", x.may(2, 0, 0, 5), 4);
    }

    /** "the quorum stays)". */
    private static void promise5QuorumStays() {
        for (int quorum = 1; quorum <= 2; quorum++) {
            DelegationClosure x = new DelegationClosure();
            x.permit(OWNER, 1, true, 0, 9);
            x.also(0, 2);
            x.quorum(0, quorum);
            due.is("also: three at quorum " + quorum, x.also(0, 3), 3);
            due.is("also: one is enough at " + quorum, x.may(3, 0, 0, 5), quorum == 1 ? 1 : NONE);
            x.permit(3, 1, true, 0, 9);
            due.is("also: two are enough at " + quorum, x.may(1, 0, 0, 5), quorum == 1 ? 1 : 2);
        }
    }

    /** "refused with false if there is no such certificate of permissions". */
    private static void promise6NoSuchCertificate() {
        DelegationClosure x = ofBothKinds();
        for (int wrong : Edges.noCertificates(4)) {
            due.is("quorum: certificate " + wrong, x.quorum(wrong, 1), false);
        }
        due.is("quorum: of names", x.quorum(0, 1), false);
        due.is("quorum: of permissions", x.quorum(2, 1), true);
        due.is("quorum: the next that is made", x.permit(OWNER, 0, true, 0, 9) == 4 && x.quorum(4, 1), true);
        DelegationClosure y = new DelegationClosure();
        y.permit(OWNER, 0, true, 0, 9);
        due.is("quorum: the first", y.quorum(0, 1), true);
    }

    /** "it is revoked". */
    private static void promise6Revoked() {
        DelegationClosure x = ofBothKinds();
        due.is("quorum: revoked", x.quorum(3, 1), false);
        due.is("quorum: not revoked", x.quorum(2, 1), true);
        x.revoke(2);
        due.is("quorum: revoked now", x.quorum(2, 1), false);
    }

    /** "or k is not from 1 to the number of its subjects". */
    private static void promise6From1ToTheNumberOfSubjects() {
        for (int subjects = 1; subjects <= 3; subjects++) {
            DelegationClosure x = new DelegationClosure();
            x.permit(OWNER, 1, true, 0, 9);
            x.permit(1, 5, true, 0, 9);
            for (int i = 1; i < subjects; i++) {
                x.also(0, 1);
            }
            for (int wrong : Edges.outside(1, subjects)) {
                due.is("quorum: " + wrong + " of " + subjects, x.quorum(0, wrong), false);
                due.is("quorum: it is 1 as before", x.may(5, 0, 0, 5), 2);
            }
            for (int k = 1; k <= subjects; k++) {
                due.is("quorum: " + k + " of " + subjects, x.quorum(0, k), true);
                due.is("quorum: it is " + k, x.may(5, 0, 0, 5), 1 + k);
            }
            for (int k = subjects; k >= 1; k--) {
                due.is("quorum: down to " + k + " of " + subjects, x.quorum(0, k), true);
                due.is("quorum: it is " + k + " again", x.may(5, 0, 0, 5), 1 + k);
            }
        }
    }

    /** "refused with false if there is none". */
    private static void promise7None() {
        DelegationClosure x = new DelegationClosure();
        due.is("revoke: none of none", x.revoke(0), false);
        for (int made = 1; made <= 24; made++) {
            if (made % 2 == 0) {
                x.name(0, 0, 1, 0, 9);
            } else {
                x.permit(OWNER, 1, true, 0, 9);
            }
            due.is("revoke: -1 of " + made, x.revoke(-1), false);
            due.is("revoke: one too many of " + made, x.revoke(made), false);
        }
        for (int wrong : Edges.noCertificates(24)) {
            due.is("revoke: " + wrong + " of 24", x.revoke(wrong), false);
        }
        due.is("revoke: all stand", x.holders(0, 0, 5), 2);
        for (int c = 0; c < 24; c++) {
            due.is("revoke: " + c + " of 24", x.revoke(c), true);
        }
        due.is("revoke: none stands", x.holders(0, 0, 5), 0);
    }

    /** "or it is revoked". */
    private static void promise7Twice() {
        DelegationClosure x = ofBothKinds();
        for (int c = 0; c < 4; c++) {
            boolean stands = c % 2 == 0;
            due.is("revoke: " + c, x.revoke(c), stands);
            due.is("revoke: " + c + " again", x.revoke(c), false);
            due.is("revoke: " + c + " a third time", x.revoke(c), false);
        }
        due.is("revoke: never valid ones too", x.name(0, 0, 1, 1, 0) == 4 && x.revoke(4), true);
        due.is("revoke: but once", x.revoke(4), false);
    }

    /** "How many certificates were made (of both kinds in one row". */
    private static void promise8FromNoneTo24() {
        DelegationClosure x = new DelegationClosure();
        for (int made = 0; made <= 30; made++) {
            due.is("certificates: of " + made, x.certificates(), Math.min(24, made));
            int c = made % 3 == 0 ? x.permit(0, 1, true, 0, 9) : x.name(0, 0, 1, 0, 9);
            due.is("certificates: the next of " + made, c, made < 24 ? made : NONE);
        }
    }

    /** "revoked ones too)". */
    private static void promise8RefusedOnesAndRevokedOnes() {
        DelegationClosure x = ofBothKinds();
        due.is("certificates: two of four are revoked", x.certificates(), 4);
        x.name(OWNER, 0, 0, 0, 9);
        x.permit(OWNER + 1, 0, true, 0, 9);
        due.is("certificates: refused ones were not made", x.certificates(), 4);
        x.revoke(0);
        x.revoke(2);
        due.is("certificates: all are revoked", x.certificates(), 4);
        due.is("certificates: the next", x.permit(OWNER, 0, true, 0, 9), 4);
        due.is("certificates: and it", x.certificates(), 5);
    }

    private CertificatesEdgeTest() {
    }
}
