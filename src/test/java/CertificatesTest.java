/** Promises 1 to 8: a new object, and how certificates are made, changed and revoked. */
public final class CertificatesTest {
    private static final int NONE = DelegationClosure.NONE;
    private static final int OWNER = DelegationClosure.OWNER;
    private static final int LEAST = Integer.MIN_VALUE;
    private static final int MOST = Integer.MAX_VALUE;
    private static final Due due = new Due();

    public static void main(String[] args) {
        promise1NewObject();
        promise1ObjectsAreApart();
        promise2Name();
        promise2Refusals();
        promise2Times();
        promise3Permit();
        promise3Refusals();
        promise3Times();
        promises2And3AtMost24();
        promise4Tag();
        promise4Refusals();
        promise5Also();
        promise5Refusals();
        promise6Quorum();
        promise6Refusals();
        promise7Revoke();
        promise7Refusals();
        promise8Certificates();
        due.end();
    }

    private static void promise1NewObject() {
        DelegationClosure x = new DelegationClosure();
        due.is("new: certificates", x.certificates(), 0);
        due.is("new: holders", x.holders(0, 0, 0), 0);
        due.is("new: may", x.may(0, 0, 0, 0), NONE);
        due.is("new: meant of a key", x.meant(3, 0), 8);
        due.is("new: meant of a name", x.meant(Due.subject(3, 0), 0), 0);
        due.is("new: revoke", x.revoke(0), false);
        due.is("new: tag", x.tag(0, 1, 0, 0), false);
        due.is("new: also", x.also(0, 1), NONE);
        due.is("new: quorum", x.quorum(0, 1), false);
        due.is("new: begin", x.begin(0), false);
        due.is("new: follow", x.follow(0), false);
        due.is("new: head", x.head(), NONE);
        due.is("new: behind", x.behind(0), NONE);
        due.is("new: grants", x.grants(0, 0, 0), false);
        due.is("new: used", x.used(), 0);
        due.is("new: delegates", x.delegates(), false);
    }

    private static void promise1ObjectsAreApart() {
        DelegationClosure x = new DelegationClosure();
        DelegationClosure y = new DelegationClosure();
        x.permit(OWNER, 1, true, 0, 9);
        x.begin(0);
        due.is("apart: certificates", y.certificates(), 0);
        due.is("apart: head", y.head(), NONE);
        due.is("apart: holders", y.holders(0, 0, 0), 0);
    }

    private static void promise2Name() {
        DelegationClosure x = new DelegationClosure();
        due.is("name: first", x.name(0, 0, 5, 0, 9), 0);
        due.is("name: last key and name", x.name(7, 3, Due.subject(0, 0), 0, 9), 1);
        due.is("name: two names", x.name(6, 2, Due.subject(7, 3, 3), 0, 9), 2);
        due.is("name: greatest subject", x.name(6, 1, 199, 0, 9), 3);
        due.is("name: meant by the first", x.meant(Due.subject(0, 0), 0), Due.setOf(5));
        due.is("name: meant by the second", x.meant(Due.subject(7, 3), 0), Due.setOf(5));
        due.is("name: gives no permission", x.holders(0, 0, 0), 0);
    }

    private static void promise2Refusals() {
        DelegationClosure x = new DelegationClosure();
        for (int wrong : new int[] {-1, 8, 9, LEAST, MOST}) {
            due.is("name: issuer " + wrong, x.name(wrong, 0, 0, 0, 9), NONE);
        }
        for (int wrong : new int[] {-1, 4, 5, LEAST, MOST}) {
            due.is("name: name " + wrong, x.name(0, wrong, 0, 0, 9), NONE);
        }
        due.is("name: no certificate by refusals", x.certificates(), 0);
        for (int number = -300; number <= 300; number++) {
            DelegationClosure y = new DelegationClosure();
            due.is("name: subject " + number, y.name(0, 0, number, 0, 9), Due.isSubject(number) ? 0 : NONE);
        }
        due.is("name: subject least", x.name(0, 0, LEAST, 0, 9), NONE);
        due.is("name: subject most", x.name(0, 0, MOST, 0, 9), NONE);
        due.is("name: still none", x.certificates(), 0);
        due.is("name: number 0 after refusals", x.name(0, 0, 0, 0, 9), 0);
    }

    private static void promise2Times() {
        DelegationClosure x = new DelegationClosure();
        x.name(0, 0, 1, -3, 4);
        x.name(0, 1, 1, 4, 3);
        x.name(0, 2, 1, LEAST, MOST);
        x.name(0, 3, 1, 7, 7);
        int first = Due.subject(0, 0);
        due.is("name: before", x.meant(first, -4), 0);
        due.is("name: at from", x.meant(first, -3), 2);
        due.is("name: at to", x.meant(first, 4), 2);
        due.is("name: after", x.meant(first, 5), 0);
        due.is("name: never valid, 3", x.meant(Due.subject(0, 1), 3), 0);
        due.is("name: never valid, 4", x.meant(Due.subject(0, 1), 4), 0);
        due.is("name: always, least", x.meant(Due.subject(0, 2), LEAST), 2);
        due.is("name: always, most", x.meant(Due.subject(0, 2), MOST), 2);
        due.is("name: one time", x.meant(Due.subject(0, 3), 7), 2);
        due.is("name: one time, before", x.meant(Due.subject(0, 3), 6), 0);
        due.is("name: one time, after", x.meant(Due.subject(0, 3), 8), 0);
    }

    private static void promise3Permit() {
        DelegationClosure x = new DelegationClosure();
        due.is("permit: first", x.permit(OWNER, 1, true, 0, 9), 0);
        due.is("permit: by a key", x.permit(1, 2, false, 0, 9), 1);
        due.is("permit: after one that does not delegate", x.permit(2, 3, true, 0, 9), 2);
        for (int operation = 0; operation < 8; operation++) {
            due.is("permit: operation " + operation, x.holders(operation, 0, 5), Due.setOf(1, 2));
        }
        due.is("permit: least number", x.holders(0, LEAST, 5), Due.setOf(1, 2));
        due.is("permit: greatest number", x.holders(0, MOST, 5), Due.setOf(1, 2));
        due.is("permit: one subject", x.also(0, 4), 2);
        due.is("permit: quorum 1", x.may(1, 0, 0, 5), 1);
        due.is("permit: means nothing", x.meant(Due.subject(1, 0), 5), 0);
    }

    private static void promise3Refusals() {
        DelegationClosure x = new DelegationClosure();
        for (int wrong : new int[] {-1, 9, 10, LEAST, MOST}) {
            due.is("permit: issuer " + wrong, x.permit(wrong, 0, true, 0, 9), NONE);
        }
        for (int wrong : new int[] {LEAST, MOST}) {
            due.is("permit: subject " + wrong, x.permit(0, wrong, true, 0, 9), NONE);
        }
        due.is("permit: no certificate by refusals", x.certificates(), 0);
        for (int number = -300; number <= 300; number++) {
            DelegationClosure y = new DelegationClosure();
            int want = Due.isSubject(number) ? 0 : NONE;
            due.is("permit: subject " + number, y.permit(OWNER, number, true, 0, 9), want);
        }
        for (int issuer = 0; issuer <= OWNER; issuer++) {
            due.is("permit: issuer " + issuer, x.permit(issuer, 0, true, 0, 9), issuer);
        }
    }

    private static void promise3Times() {
        DelegationClosure x = new DelegationClosure();
        x.permit(OWNER, 1, true, -3, 4);
        x.permit(OWNER, 2, true, 4, 3);
        x.permit(OWNER, 3, true, LEAST, MOST);
        due.is("permit: before", x.holders(0, 0, -4), Due.setOf(3));
        due.is("permit: at from", x.holders(0, 0, -3), Due.setOf(1, 3));
        due.is("permit: at to", x.holders(0, 0, 4), Due.setOf(1, 3));
        due.is("permit: after", x.holders(0, 0, 5), Due.setOf(3));
        due.is("permit: least time", x.holders(0, 0, LEAST), Due.setOf(3));
        due.is("permit: greatest time", x.holders(0, 0, MOST), Due.setOf(3));
    }

    private static void promises2And3AtMost24() {
        DelegationClosure x = new DelegationClosure();
        for (int i = 0; i < 12; i++) {
            due.is("24: name", x.name(0, 0, 1, 0, 9), 2 * i);
            due.is("24: permit", x.permit(OWNER, 1, true, 0, 9), 2 * i + 1);
        }
        due.is("24: name is refused", x.name(0, 1, 2, 0, 9), NONE);
        due.is("24: permit is refused", x.permit(OWNER, 2, true, 0, 9), NONE);
        due.is("24: certificates", x.certificates(), 24);
        due.is("24: no number 24 to revoke", x.revoke(24), false);
        due.is("24: no number 24 to tag", x.tag(24, 1, 0, 0), false);
        due.is("24: no number 24 to begin with", x.begin(24), false);
        due.is("24: no number 24 to follow", x.follow(24), false);
        due.is("24: revoke of the last", x.revoke(23), true);
        due.is("24: a revoked one makes no room for a name", x.name(0, 1, 2, 0, 9), NONE);
        due.is("24: a revoked one makes no room for a permission", x.permit(OWNER, 2, true, 0, 9), NONE);
        due.is("24: what was refused means nothing", x.meant(Due.subject(0, 1), 5), 0);
        due.is("24: what was refused permits nothing", x.holders(0, 0, 5), Due.setOf(1));
    }

    private static void promise4Tag() {
        DelegationClosure x = new DelegationClosure();
        x.permit(OWNER, 1, true, 0, 9);
        due.is("tag: answers", x.tag(0, 1 + 4 + 128, -2, 3), true);
        for (int operation = 0; operation < 8; operation++) {
            boolean has = operation == 0 || operation == 2 || operation == 7;
            due.is("tag: operation " + operation, x.may(1, operation, 0, 5), has ? 1 : NONE);
        }
        due.is("tag: below low", x.may(1, 0, -3, 5), NONE);
        due.is("tag: low", x.may(1, 0, -2, 5), 1);
        due.is("tag: high", x.may(1, 0, 3, 5), 1);
        due.is("tag: above high", x.may(1, 0, 4, 5), NONE);
        due.is("tag: another in its place", x.tag(0, 2, 8, 8), true);
        due.is("tag: the one before is gone", x.may(1, 0, 0, 5), NONE);
        due.is("tag: the other holds", x.may(1, 1, 8, 5), 1);
        due.is("tag: no operation", x.tag(0, 0, LEAST, MOST), true);
        due.is("tag: none holds", x.may(1, 1, 8, 5), NONE);
        due.is("tag: all", x.tag(0, 255, LEAST, MOST), true);
        due.is("tag: all hold, least", x.may(1, 7, LEAST, 5), 1);
        due.is("tag: all hold, greatest", x.may(1, 0, MOST, 5), 1);
    }

    private static void promise4Refusals() {
        DelegationClosure x = new DelegationClosure();
        x.permit(OWNER, 1, true, 0, 9);
        x.name(0, 0, 1, 0, 9);
        x.permit(OWNER, 2, true, 0, 9);
        x.revoke(2);
        x.tag(0, 3, 1, 5);
        for (int wrong : new int[] {-1, 3, 24, LEAST, MOST}) {
            due.is("tag: certificate " + wrong, x.tag(wrong, 1, 0, 0), false);
        }
        due.is("tag: of names", x.tag(1, 1, 0, 0), false);
        due.is("tag: revoked", x.tag(2, 1, 0, 0), false);
        for (int wrong : new int[] {-1, 256, 257, LEAST, MOST}) {
            due.is("tag: operations " + wrong, x.tag(0, wrong, 0, 0), false);
        }
        due.is("tag: low above high", x.tag(0, 1, 1, 0), false);
        due.is("tag: low above high at the edges", x.tag(0, 1, MOST, LEAST), false);
        due.is("tag: as before", x.may(1, 1, 5, 5), 1);
        due.is("tag: numbers as before", x.may(1, 1, 0, 5), NONE);
    }

    private static void promise5Also() {
        DelegationClosure x = new DelegationClosure();
        x.permit(OWNER, 1, false, 0, 9);
        due.is("also: two", x.also(0, 2), 2);
        due.is("also: the quorum stays 1", x.holders(0, 0, 5), Due.setOf(1, 2));
        x.quorum(0, 2);
        due.is("also: two are needed", x.holders(0, 0, 5), 0);
        due.is("also: one that it has", x.also(0, 2), 3);
        due.is("also: it counts by itself, the quorum stays 2", x.holders(0, 0, 5), Due.setOf(2));
        due.is("also: cost", x.may(2, 0, 0, 5), 1);
        x.quorum(0, 3);
        due.is("also: all three are needed", x.holders(0, 0, 5), 0);
        DelegationClosure y = new DelegationClosure();
        y.permit(OWNER, 1, false, 0, 9);
        y.name(4, 3, 6, 0, 9);
        due.is("also: a subject with a name", y.also(0, Due.subject(4, 3)), 2);
        due.is("also: its meaning", y.may(6, 0, 0, 5), 2);
    }

    private static void promise5Refusals() {
        DelegationClosure x = new DelegationClosure();
        x.permit(OWNER, 1, false, 0, 9);
        x.name(0, 0, 1, 0, 9);
        x.permit(OWNER, 2, false, 0, 9);
        x.revoke(2);
        for (int wrong : new int[] {-1, 3, 24, LEAST, MOST}) {
            due.is("also: certificate " + wrong, x.also(wrong, 1), NONE);
        }
        due.is("also: of names", x.also(1, 1), NONE);
        due.is("also: revoked", x.also(2, 1), NONE);
        for (int wrong : new int[] {-1, 40, 47, 80, 160, 167, 200, LEAST, MOST}) {
            due.is("also: subject " + wrong, x.also(0, wrong), NONE);
        }
        due.is("also: still one", x.quorum(0, 2), false);
        x.also(0, 2);
        x.also(0, 3);
        due.is("also: three are there", x.also(0, 4), NONE);
        due.is("also: the fourth is none", x.holders(0, 0, 5), Due.setOf(1, 2, 3));
    }

    private static void promise6Quorum() {
        DelegationClosure x = new DelegationClosure();
        x.permit(OWNER, 1, true, 0, 9);
        due.is("quorum: 1 of 1", x.quorum(0, 1), true);
        x.also(0, 2);
        x.also(0, 3);
        for (int issuer = 1; issuer <= 3; issuer++) {
            x.permit(issuer, 4, false, 0, 9);
        }
        for (int k = 1; k <= 3; k++) {
            due.is("quorum: " + k, x.quorum(0, k), true);
            due.is("quorum: cost at " + k, x.may(4, 0, 0, 5), 1 + k);
            due.is("quorum: holders at " + k, x.holders(0, 0, 5), k == 1 ? Due.setOf(1, 2, 3, 4) : Due.setOf(4));
        }
        x.revoke(2);
        due.is("quorum: 3 where two lead", x.may(4, 0, 0, 5), NONE);
        due.is("quorum: down to 2", x.quorum(0, 2), true);
        due.is("quorum: 2 where two lead", x.may(4, 0, 0, 5), 3);
    }

    private static void promise6Refusals() {
        DelegationClosure x = new DelegationClosure();
        x.permit(OWNER, 1, true, 0, 9);
        x.name(0, 0, 1, 0, 9);
        x.permit(OWNER, 2, true, 0, 9);
        x.revoke(2);
        for (int wrong : new int[] {-1, 3, 24, LEAST, MOST}) {
            due.is("quorum: certificate " + wrong, x.quorum(wrong, 1), false);
        }
        due.is("quorum: of names", x.quorum(1, 1), false);
        due.is("quorum: revoked", x.quorum(2, 1), false);
        for (int wrong : new int[] {0, -1, 2, 3, LEAST, MOST}) {
            due.is("quorum: of one subject, " + wrong, x.quorum(0, wrong), false);
        }
        x.also(0, 2);
        due.is("quorum: of two, 3", x.quorum(0, 3), false);
        due.is("quorum: of two, 2", x.quorum(0, 2), true);
        due.is("quorum: of two, 0", x.quorum(0, 0), false);
        due.is("quorum: as before", x.holders(0, 0, 5), 0);
    }

    private static void promise7Revoke() {
        DelegationClosure x = new DelegationClosure();
        x.name(0, 0, 1, 0, 9);
        x.permit(OWNER, Due.subject(0, 0), true, 0, 9);
        x.permit(1, 2, true, 0, 9);
        due.is("revoke: before", x.holders(0, 0, 5), Due.setOf(1, 2));
        due.is("revoke: a later one", x.revoke(2), true);
        due.is("revoke: it is not looked at", x.holders(0, 0, 5), Due.setOf(1));
        due.is("revoke: of names", x.revoke(0), true);
        due.is("revoke: nothing is meant", x.meant(Due.subject(0, 0), 5), 0);
        due.is("revoke: nobody holds", x.holders(0, 0, 5), 0);
        due.is("revoke: numbers stay", x.name(0, 0, 3, 0, 9), 3);
        due.is("revoke: the others go on", x.holders(0, 0, 5), Due.setOf(3));
        due.is("revoke: no begin", x.revoke(1) && !x.begin(1), true);
    }

    private static void promise7Refusals() {
        DelegationClosure x = new DelegationClosure();
        x.permit(OWNER, 1, true, 0, 9);
        x.name(0, 0, 1, 0, 9);
        for (int wrong : new int[] {-1, 2, 23, 24, LEAST, MOST}) {
            due.is("revoke: certificate " + wrong, x.revoke(wrong), false);
        }
        due.is("revoke: all stand", x.holders(0, 0, 5), Due.setOf(1));
        due.is("revoke: once", x.revoke(0), true);
        due.is("revoke: twice", x.revoke(0), false);
        due.is("revoke: names once", x.revoke(1), true);
        due.is("revoke: names twice", x.revoke(1), false);
        due.is("revoke: it stays revoked", x.holders(0, 0, 5), 0);
    }

    private static void promise8Certificates() {
        DelegationClosure x = new DelegationClosure();
        x.name(0, 0, 1, 0, 9);
        due.is("certificates: 1", x.certificates(), 1);
        x.permit(0, 1, true, 9, 0);
        due.is("certificates: both kinds, valid or not", x.certificates(), 2);
        x.name(8, 0, 1, 0, 9);
        x.permit(9, 1, true, 0, 9);
        due.is("certificates: refused ones do not count", x.certificates(), 2);
        x.revoke(0);
        due.is("certificates: revoked ones do", x.certificates(), 2);
        x.also(1, 1);
        x.tag(1, 1, 1, 1);
        due.is("certificates: changes make none", x.certificates(), 2);
    }

    private CertificatesTest() {
    }
}
