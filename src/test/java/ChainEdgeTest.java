/**
 * Promises 13 to 19 at their edges: a test for each sentence that draws one. Every refused call
 * here would be taken but for one reason. That it changes nothing is RefusalTest's.
 */
public final class ChainEdgeTest {
    private static final int NONE = DelegationClosure.NONE;
    private static final int OWNER = DelegationClosure.OWNER;
    private static final int LEAST = Edges.LEAST;
    private static final int MOST = Edges.MOST;
    private static final Due due = new Due();

    public static void main(String[] args) {
        promise13NoCertificateOfPermissionsOfOwner();
        promise13Revoked();
        promise13MoreThanOneSubject();
        promise13InPlaceOfOneThatThereMayBe();
        promise13StaysIfRefused();
        promise13WhateverItsTimesAre();
        promise13TheLastCertificate();
        promise14NoChain();
        promise14NoSuchCertificate();
        promise14Revoked();
        promise14IssuerAndFirstNameOfNames();
        promise14MoreThanFourNames();
        promise14NamesComeAhead();
        promise14IssuerNoNamesAndDelegates();
        promise14OneSubject();
        promise14DelegatesIfTheLastDoes();
        promise14OperationsInCommon();
        promise14NumbersInCommon();
        promise14TimesInCommon();
        promise15NoneIfThereIsNoChain();
        promise16NoSuchName();
        promise17NoChain();
        promise17WithoutNames();
        promise17NoOperation();
        promise17EdgesOfTagAndSpan();
        promise18NoChainAndTheFirst();
        promise18OneUsedTwice();
        promise19NoChain();
        due.end();
    }

    private static DelegationClosure begun(int subject) {
        DelegationClosure x = new DelegationClosure();
        x.permit(OWNER, subject, true, LEAST, MOST);
        x.begin(0);
        return x;
    }

    private static void dueChain(String call, DelegationClosure x, int key, int... names) {
        due.is(call + ": head", x.head(), key);
        for (int i = 0; i < names.length; i++) {
            due.is(call + ": name " + i, x.behind(i), names[i]);
        }
        for (int i = names.length; i <= 5; i++) {
            due.is(call + ": no name " + i, x.behind(i), NONE);
        }
    }

    /** "refused with false if c is no certificate of permissions of OWNER". */
    private static void promise13NoCertificateOfPermissionsOfOwner() {
        DelegationClosure x = new DelegationClosure();
        for (int key = 0; key < 8; key++) {
            x.permit(key, 1, true, 0, 9);
            x.name(key, 0, 1, 0, 9);
        }
        x.permit(OWNER, 1, true, 0, 9);
        for (int c = 0; c < 16; c++) {
            due.is("begin: not of OWNER, " + c, x.begin(c), false);
        }
        for (int wrong : Edges.noCertificates(17)) {
            due.is("begin: no certificate " + wrong, x.begin(wrong), false);
        }
        due.is("begin: no chain by all these", x.used(), 0);
        due.is("begin: of OWNER", x.begin(16), true);
    }

    /** "is revoked". */
    private static void promise13Revoked() {
        DelegationClosure x = new DelegationClosure();
        x.permit(OWNER, 1, true, 0, 9);
        x.permit(OWNER, 2, true, 0, 9);
        x.revoke(0);
        due.is("begin: revoked", x.begin(0), false);
        due.is("begin: not revoked", x.begin(1), true);
        x.revoke(1);
        due.is("begin: revoked since", x.begin(1), false);
        dueChain("begin: revoked since", x, 2);
    }

    /** "or has more than one subject". */
    private static void promise13MoreThanOneSubject() {
        DelegationClosure x = new DelegationClosure();
        x.permit(OWNER, 1, true, 0, 9);
        due.is("begin: one subject", x.begin(0), true);
        x.also(0, 1);
        due.is("begin: two subjects", x.begin(0), false);
        x.quorum(0, 2);
        due.is("begin: two subjects, both needed", x.begin(0), false);
        x.also(0, 1);
        due.is("begin: three subjects", x.begin(0), false);
        x.quorum(0, 3);
        due.is("begin: three subjects, all needed", x.begin(0), false);
        due.is("begin: only once", x.used(), 1);
    }

    /** "Begins a chain, in place of one that there may be". */
    private static void promise13InPlaceOfOneThatThereMayBe() {
        DelegationClosure x = begun(Due.subject(1, 0, 1));
        x.tag(0, 1, 5, 5);
        x.name(1, 0, Due.subject(1, 0, 2), 3, 3);
        x.permit(OWNER, 6, false, LEAST, MOST);
        x.begin(0);
        x.follow(1);
        x.follow(1);
        dueChain("in place: four names", x, 1, 0, 2, 2, 1);
        due.is("in place: begin", x.begin(2), true);
        dueChain("in place: no names", x, 6);
        due.is("in place: used", x.used(), 1);
        due.is("in place: delegates", x.delegates(), false);
        due.is("in place: all operations, numbers and times", x.grants(7, LEAST, MOST), true);
        due.is("in place: and back", x.begin(0), true);
        dueChain("in place: two names", x, 1, 0, 1);
        due.is("in place: it delegates", x.delegates(), true);
        x.name(1, 0, 1, LEAST, MOST);
        x.name(1, 1, 1, LEAST, MOST);
        due.is("in place: to the key", x.follow(3) && x.follow(4), true);
        due.is("in place: its own tag", x.grants(0, 5, 0), true);
        due.is("in place: no other operation", x.grants(1, 5, 0), false);
        due.is("in place: no other number", x.grants(0, 6, 0), false);
        due.is("in place: not the times of before", x.grants(0, 5, 4), true);
    }

    /** "(which stays if this is refused)". */
    private static void promise13StaysIfRefused() {
        DelegationClosure x = begun(Due.subject(1, 2, 3));
        x.name(1, 2, 4, 0, 9);
        x.permit(0, 5, false, 0, 9);
        x.permit(OWNER, 5, false, 0, 9);
        x.also(3, 6);
        x.permit(OWNER, 5, false, 0, 9);
        x.revoke(4);
        for (int c : new int[] {1, 2, 3, 4, 5, 24, -1, LEAST, MOST}) {
            due.is("stays: begin " + c, x.begin(c), false);
            dueChain("stays: after " + c, x, 1, 2, 3);
            due.is("stays: used after " + c, x.used(), 1);
            due.is("stays: delegates after " + c, x.delegates(), true);
        }
        due.is("stays: it goes on", x.follow(1), true);
        dueChain("stays: goes on", x, 4, 3);
    }

    /** "with certificate c, whatever its times are". */
    private static void promise13WhateverItsTimesAre() {
        int[][] spans = {{0, 9}, {9, 0}, {LEAST, LEAST}, {MOST, MOST}, {MOST, LEAST}, {LEAST, MOST}};
        for (int[] span : spans) {
            DelegationClosure x = new DelegationClosure();
            x.permit(OWNER, 3, true, span[0], span[1]);
            String call = "whatever times, " + span[0] + " .. " + span[1];
            due.is(call, x.begin(0), true);
            due.is(call + ": head", x.head(), 3);
            due.is(call + ": used", x.used(), 1);
            due.is(call + ": at from", x.grants(0, 0, span[0]), span[0] <= span[1]);
            due.is(call + ": at to", x.grants(0, 0, span[1]), span[0] <= span[1]);
        }
    }

    private static void promise13TheLastCertificate() {
        DelegationClosure x = new DelegationClosure();
        for (int i = 0; i < 22; i++) {
            x.name(0, 0, 1, 0, 9);
        }
        x.permit(5, 6, true, 0, 9);
        x.permit(OWNER, 5, true, 0, 9);
        due.is("begin: with 23", x.begin(23), true);
        due.is("begin: not with 24", x.begin(24), false);
        due.is("follow: 22", x.follow(22), true);
        due.is("follow: not 24", x.follow(24), false);
        dueChain("the last certificate", x, 6);
    }

    /** "refused with false if there is no chain". */
    private static void promise14NoChain() {
        DelegationClosure x = new DelegationClosure();
        for (int key = 0; key < 8; key++) {
            x.permit(key, 1, true, 0, 9);
            x.name(key, 0, 1, 0, 9);
        }
        x.permit(OWNER, 0, true, 0, 9);
        for (int c = -1; c <= 17; c++) {
            due.is("follow: no chain, " + c, x.follow(c), false);
        }
        due.is("follow: still none", x.head(), NONE);
        due.is("follow: with a chain", x.begin(16) && x.follow(0), true);
    }

    /** "c is none of these", as there is no such certificate. */
    private static void promise14NoSuchCertificate() {
        DelegationClosure x = begun(0);
        for (int wrong : Edges.noCertificates(1)) {
            due.is("follow: no certificate " + wrong, x.follow(wrong), false);
        }
        due.is("follow: that of OWNER again", x.follow(0), false);
        due.is("follow: used", x.used(), 1);
        due.is("follow: the one that is made", x.permit(0, 1, true, 0, 9) == 1 && x.follow(1), true);
    }

    /** "is revoked". */
    private static void promise14Revoked() {
        DelegationClosure x = begun(Due.subject(0, 0));
        x.name(0, 0, 1, 0, 9);
        x.name(0, 0, 2, 0, 9);
        x.permit(2, 3, true, 0, 9);
        x.permit(2, 4, true, 0, 9);
        x.revoke(1);
        x.revoke(3);
        due.is("follow: revoked names", x.follow(1), false);
        dueChain("follow: revoked names", x, 0, 0);
        due.is("follow: names", x.follow(2), true);
        due.is("follow: revoked permission", x.follow(3), false);
        dueChain("follow: revoked permission", x, 2);
        due.is("follow: permission", x.follow(4), true);
        dueChain("follow: permission", x, 4);
    }

    /** "the chain has its issuer as its key and its name as the first name behind it". */
    private static void promise14IssuerAndFirstNameOfNames() {
        for (int issuer = 0; issuer < 8; issuer++) {
            for (int name = 0; name < 4; name++) {
                DelegationClosure x = begun(Due.subject(5, 2, 3));
                x.name(issuer, name, 6, LEAST, MOST);
                boolean fits = issuer == 5 && name == 2;
                due.is("names: " + issuer + ", " + name, x.follow(1), fits);
                if (fits) {
                    dueChain("names: taken", x, 6, 3);
                } else {
                    dueChain("names: refused", x, 5, 2, 3);
                }
                DelegationClosure y = begun(5);
                y.name(issuer, name, 6, LEAST, MOST);
                due.is("names: no name behind, " + issuer + ", " + name, y.follow(1), false);
                dueChain("names: no name behind", y, 5);
            }
        }
    }

    /** "or there would be more than 4 names". */
    private static void promise14MoreThanFourNames() {
        for (int have = 1; have <= 4; have++) {
            for (int more = 0; more <= 2; more++) {
                DelegationClosure x = withNames(have);
                int[] subjects = {1, Due.subject(1, 2), Due.subject(1, 2, 1)};
                int c = x.name(0, 0, subjects[more], LEAST, MOST);
                String call = "names: " + more + " for the first of " + have;
                boolean fits = have - 1 + more <= 4;
                due.is(call, x.follow(c), fits);
                due.is(call + ": head", x.head(), fits ? 1 : 0);
                int names = fits ? have - 1 + more : have;
                due.is(call + ": so many names", names == 0 || x.behind(names - 1) != NONE, true);
                due.is(call + ": and no more", x.behind(names), NONE);
                due.is(call + ": used", x.used(), fits ? have + 1 : have);
            }
        }
    }

    /** A chain of key 0 with name 0 and then names 3 behind it, so many in all. */
    private static DelegationClosure withNames(int names) {
        DelegationClosure x = begun(Due.subject(0, 0));
        x.name(0, 0, Due.subject(0, 0, 3), LEAST, MOST);
        for (int have = 1; have < names; have++) {
            x.follow(1);
        }
        return x;
    }

    /** "(its names come ahead of those left)". */
    private static void promise14NamesComeAhead() {
        DelegationClosure x = begun(Due.subject(0, 0, 3));
        x.name(0, 0, Due.subject(1, 1, 2), LEAST, MOST);
        x.name(1, 1, Due.subject(2, 2, 0), LEAST, MOST);
        x.name(2, 2, Due.subject(3, 1), LEAST, MOST);
        x.name(3, 1, 4, LEAST, MOST);
        x.name(4, 0, Due.subject(5, 3, 1), LEAST, MOST);
        x.follow(1);
        dueChain("ahead: two of one that is left", x, 1, 1, 2, 3);
        x.follow(2);
        dueChain("ahead: two of two that are left", x, 2, 2, 0, 2, 3);
        x.follow(3);
        dueChain("ahead: one of three that are left", x, 3, 1, 0, 2, 3);
        x.follow(4);
        dueChain("ahead: none of three that are left", x, 4, 0, 2, 3);
        x.follow(5);
        dueChain("ahead: two of two again", x, 5, 3, 1, 2, 3);
    }

    /** "the chain has its issuer as its key, no names, and delegates". */
    private static void promise14IssuerNoNamesAndDelegates() {
        for (int issuer = 0; issuer <= OWNER; issuer++) {
            DelegationClosure x = begun(5);
            x.permit(issuer, 6, true, LEAST, MOST);
            due.is("permission: issuer " + issuer, x.follow(1), issuer == 5);
            dueChain("permission: issuer " + issuer, x, issuer == 5 ? 6 : 5);
        }
        for (int names = 1; names <= 4; names++) {
            DelegationClosure x = withNames(names);
            int c = x.permit(0, 6, true, LEAST, MOST);
            due.is("permission: with names, " + names, x.follow(c), false);
            due.is("permission: with names, head", x.head(), 0);
            due.is("permission: with names, used", x.used(), names);
        }
        DelegationClosure y = new DelegationClosure();
        y.permit(OWNER, 5, false, LEAST, MOST);
        y.permit(5, 6, true, LEAST, MOST);
        y.begin(0);
        due.is("permission: the chain does not delegate", y.follow(1), false);
        dueChain("permission: the chain does not delegate", y, 5);
        due.is("permission: and still grants", y.grants(0, 0, 0), true);
    }

    /** "one of permissions with one subject". */
    private static void promise14OneSubject() {
        DelegationClosure x = begun(5);
        x.permit(5, 5, true, LEAST, MOST);
        due.is("permission: one subject", x.follow(1), true);
        x.also(1, 5);
        due.is("permission: two subjects", x.follow(1), false);
        x.quorum(1, 2);
        due.is("permission: two subjects, both needed", x.follow(1), false);
        x.also(1, 5);
        due.is("permission: three subjects", x.follow(1), false);
        due.is("permission: used", x.used(), 2);
        due.is("permission: head", x.head(), 5);
    }

    /** "the chain delegates if c does"; certificates of names leave it. */
    private static void promise14DelegatesIfTheLastDoes() {
        DelegationClosure x = begun(Due.subject(0, 0));
        x.name(0, 0, 0, LEAST, MOST);
        x.permit(0, Due.subject(0, 0), true, LEAST, MOST);
        x.permit(0, Due.subject(0, 0), false, LEAST, MOST);
        due.is("delegates: at first", x.delegates(), true);
        x.follow(1);
        due.is("delegates: after a name", x.delegates(), true);
        x.follow(2);
        due.is("delegates: after one that does", x.delegates(), true);
        x.follow(1);
        x.follow(3);
        due.is("delegates: after one that does not", x.delegates(), false);
        due.is("delegates: a name can follow", x.follow(1), true);
        due.is("delegates: no more after the name", x.delegates(), false);
        due.is("delegates: no permission can follow", x.follow(2), false);
        dueChain("delegates: it ends here", x, 0);
    }

    /** "its tag becomes what it has in common with that of c (no operation". */
    private static void promise14OperationsInCommon() {
        int[] sets = {0, 1, 128, 129, 127, 254, 85, 170, 255};
        for (int first : sets) {
            for (int second : sets) {
                DelegationClosure x = begun(0);
                x.tag(0, first, 0, 0);
                x.permit(0, 1, true, LEAST, MOST);
                x.tag(1, second, 0, 0);
                x.begin(0);
                due.is("operations " + first + " and " + second, x.follow(1), true);
                for (int operation = 0; operation < 8; operation++) {
                    boolean both = (first >> operation) % 2 == 1 && (second >> operation) % 2 == 1;
                    String call = "operation " + operation + " of " + first + " and " + second;
                    due.is(call, x.grants(operation, 0, 0), both);
                }
            }
        }
    }

    /** "or no number when low is more than high, if there is none)". */
    private static void promise14NumbersInCommon() {
        int[][] ranges = {
            {0, 9}, {9, 12}, {10, 12}, {-3, 0}, {-3, -1}, {4, 5}, {LEAST, MOST}, {LEAST, LEAST},
            {MOST, MOST}, {LEAST, 0}, {9, MOST}};
        for (int[] first : ranges) {
            for (int[] second : ranges) {
                DelegationClosure x = begun(0);
                x.tag(0, 255, first[0], first[1]);
                x.permit(0, 1, true, LEAST, MOST);
                x.permit(1, 2, true, LEAST, MOST);
                x.tag(1, 255, second[0], second[1]);
                x.begin(0);
                due.is("numbers: follow", x.follow(1), true);
                dueInBoth("numbers", x, first, second, true);
                due.is("numbers: follow one of all numbers", x.follow(2), true);
                dueInBoth("numbers, then all", x, first, second, true);
            }
        }
    }

    /** "its times become those that it has in common with c, perhaps none". */
    private static void promise14TimesInCommon() {
        int[][] spans = {
            {0, 9}, {9, 12}, {10, 12}, {-3, 0}, {-3, -1}, {4, 5}, {5, 4}, {LEAST, MOST},
            {MOST, LEAST}, {LEAST, LEAST}, {MOST, MOST}, {LEAST, 0}, {9, MOST}};
        for (int[] first : spans) {
            for (int[] second : spans) {
                DelegationClosure x = new DelegationClosure();
                x.permit(OWNER, 0, true, first[0], first[1]);
                x.permit(0, Due.subject(1, 0), true, second[0], second[1]);
                x.name(1, 0, 1, LEAST, MOST);
                x.begin(0);
                due.is("times: follow", x.follow(1) && x.follow(2), true);
                dueInBoth("times of permissions", x, first, second, false);
                DelegationClosure y = new DelegationClosure();
                y.permit(OWNER, Due.subject(0, 0), true, first[0], first[1]);
                y.name(0, 0, 0, second[0], second[1]);
                y.permit(0, 1, true, LEAST, MOST);
                y.begin(0);
                due.is("times: follow names", y.follow(1), true);
                dueInBoth("times of names", y, first, second, false);
                due.is("times: follow one of all times", y.follow(2), true);
                dueInBoth("times of names, then all", y, first, second, false);
            }
        }
    }

    private static void dueInBoth(String call, DelegationClosure x, int[] first, int[] second, boolean numbers) {
        int[] tries = {
            LEAST, LEAST + 1, -4, -3, -1, 0, 1, 4, 5, 6, 8, 9, 10, 12, 13, MOST - 1, MOST};
        for (int tried : tries) {
            boolean inFirst = first[0] <= tried && tried <= first[1];
            boolean inSecond = second[0] <= tried && tried <= second[1];
            boolean grants = numbers ? x.grants(7, tried, 0) : x.grants(7, 0, tried);
            due.is(call + ": " + tried, grants, inFirst && inSecond);
        }
    }

    /** "NONE if there is none". */
    private static void promise15NoneIfThereIsNoChain() {
        DelegationClosure x = new DelegationClosure();
        due.is("head: new", x.head(), NONE);
        x.permit(OWNER, 0, true, 0, 9);
        x.permit(0, 1, true, 0, 9);
        due.is("head: certificates, but no chain", x.head(), NONE);
        x.begin(1);
        due.is("head: a refused beginning", x.head(), NONE);
        x.follow(1);
        due.is("head: a refused following", x.head(), NONE);
        x.begin(0);
        due.is("head: key 0", x.head(), 0);
        for (int key = 0; key < 8; key++) {
            due.is("head: key " + key, begun(Due.subject(key, 3, 3)).head(), key);
        }
    }

    /** "NONE if there is no such name or no chain". */
    private static void promise16NoSuchName() {
        int[] wrongs = {-1, 4, 5, -4, 256, 65536, LEAST, MOST};
        DelegationClosure x = new DelegationClosure();
        x.permit(OWNER, Due.subject(0, 0, 0), true, 0, 9);
        for (int i = 0; i < 4; i++) {
            due.is("behind: no chain, " + i, x.behind(i), NONE);
        }
        for (int wrong : wrongs) {
            due.is("behind: no chain, " + wrong, x.behind(wrong), NONE);
        }
        for (int names = 1; names <= 4; names++) {
            DelegationClosure y = withNames(names);
            for (int i = 0; i < names; i++) {
                due.is("behind: " + i + " of " + names, y.behind(i), i == 0 ? 0 : 3);
            }
            for (int i = names; i < 4; i++) {
                due.is("behind: " + i + " of " + names, y.behind(i), NONE);
            }
            for (int wrong : wrongs) {
                due.is("behind: " + wrong + " of " + names, y.behind(wrong), NONE);
            }
        }
        DelegationClosure z = begun(0);
        due.is("behind: 0 of none", z.behind(0), NONE);
    }

    /** "Whether there is a chain". */
    private static void promise17NoChain() {
        DelegationClosure x = new DelegationClosure();
        x.permit(OWNER, 0, true, LEAST, MOST);
        for (int operation = -1; operation <= 8; operation++) {
            due.is("grants: no chain, " + operation, x.grants(operation, 0, 0), false);
        }
        x.begin(0);
        due.is("grants: a chain", x.grants(0, 0, 0), true);
    }

    /** "without names behind its key". */
    private static void promise17WithoutNames() {
        for (int names = 1; names <= 4; names++) {
            DelegationClosure x = withNames(names);
            int first = x.name(0, 0, 1, LEAST, MOST);
            int rest = x.name(1, 3, 1, LEAST, MOST);
            for (int have = names; have >= 1; have--) {
                due.is("grants: names, " + have, x.grants(0, 0, 0), false);
                due.is("grants: one name less", x.follow(have == names ? first : rest), true);
            }
            due.is("grants: without names", x.grants(0, 0, 0), true);
        }
    }

    /** "(false for what is no operation)". */
    private static void promise17NoOperation() {
        DelegationClosure x = begun(0);
        for (int operation = 0; operation < 8; operation++) {
            due.is("grants: operation " + operation, x.grants(operation, 0, 0), true);
        }
        for (int wrong : Edges.outside(0, 7)) {
            due.is("grants: operation " + wrong, x.grants(wrong, 0, 0), false);
        }
        for (int wrong = 8; wrong <= 70; wrong++) {
            due.is("grants: operation " + wrong, x.grants(wrong, 0, 0), false);
            due.is("grants: operation " + -wrong, x.grants(-wrong, 0, 0), false);
        }
    }

    /** "its tag has the operation and the number, and the time is in its span". */
    private static void promise17EdgesOfTagAndSpan() {
        DelegationClosure x = new DelegationClosure();
        x.permit(OWNER, 0, true, -2, 3);
        x.tag(0, 8, 20, 22);
        x.begin(0);
        for (int operation = 2; operation <= 4; operation++) {
            for (int number = 19; number <= 23; number++) {
                for (int time = -3; time <= 4; time++) {
                    boolean inTag = operation == 3 && number >= 20 && number <= 22;
                    String call = "grants: " + operation + ", " + number + " at " + time;
                    due.is(call, x.grants(operation, number, time), inTag && time >= -2 && time <= 3);
                }
            }
        }
    }

    /** "(the first, too"; "0 if there is no chain". */
    private static void promise18NoChainAndTheFirst() {
        DelegationClosure x = new DelegationClosure();
        due.is("used: new", x.used(), 0);
        x.permit(OWNER, 0, true, 0, 9);
        x.permit(0, 0, true, 0, 9);
        due.is("used: no chain", x.used(), 0);
        x.follow(1);
        due.is("used: still no chain", x.used(), 0);
        x.begin(0);
        due.is("used: the first", x.used(), 1);
        x.follow(1);
        due.is("used: two", x.used(), 2);
        x.begin(0);
        due.is("used: the first again", x.used(), 1);
    }

    /** "one used twice counts twice)", to the last call of an object and of both kinds. */
    private static void promise18OneUsedTwice() {
        DelegationClosure x = begun(Due.subject(0, 0));
        x.name(0, 0, 0, LEAST, MOST);
        x.permit(0, Due.subject(0, 0), true, LEAST, MOST);
        int calls = 4;
        for (; calls < 511; calls++) {
            x.follow(calls % 2 == 0 ? 1 : 2);
        }
        due.is("used: to the last of 512 calls", x.used(), 1 + 511 - 4);
    }

    /** "Whether there is a chain". */
    private static void promise19NoChain() {
        DelegationClosure x = new DelegationClosure();
        due.is("delegates: new", x.delegates(), false);
        x.permit(OWNER, 0, true, 0, 9);
        x.permit(OWNER, 0, false, 0, 9);
        due.is("delegates: no chain", x.delegates(), false);
        x.begin(0);
        due.is("delegates: a chain that does", x.delegates(), true);
        x.begin(1);
        due.is("delegates: one that does not", x.delegates(), false);
        x.begin(0);
        x.begin(2);
        due.is("delegates: after a refused beginning", x.delegates(), true);
    }

    private ChainEdgeTest() {
    }
}
