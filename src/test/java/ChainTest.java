/** Promises 13 to 19: chains of certificates that are laid before the object. */
public final class ChainTest {
    private static final int NONE = DelegationClosure.NONE;
    private static final int OWNER = DelegationClosure.OWNER;
    private static final int LEAST = Integer.MIN_VALUE;
    private static final int MOST = Integer.MAX_VALUE;
    private static final Due due = new Due();

    public static void main(String[] args) {
        promise13Begin();
        promise13Again();
        promise13Refusals();
        promise14Names();
        promise14AtMostFourNames();
        promise14Permissions();
        promise14Tags();
        promise14Times();
        promise14Refusals();
        promise14RefusalsForWhatTheChainIs();
        promise15Head();
        promise16Behind();
        promise17Grants();
        promise18Used();
        promise19Delegates();
        chainStaysAsItWasMade();
        due.end();
    }

    private static void promise13Begin() {
        DelegationClosure x = new DelegationClosure();
        x.permit(OWNER, 5, true, 2, 4);
        x.tag(0, 2, 6, 8);
        due.is("begin: answers", x.begin(0), true);
        due.is("begin: head", x.head(), 5);
        due.is("begin: no names", x.behind(0), NONE);
        due.is("begin: used", x.used(), 1);
        due.is("begin: delegates", x.delegates(), true);
        due.is("begin: grants", x.grants(1, 6, 2), true);
        due.is("begin: grants to the ends", x.grants(1, 8, 4), true);
        due.is("begin: operation", x.grants(0, 6, 2), false);
        due.is("begin: number below", x.grants(1, 5, 2), false);
        due.is("begin: number above", x.grants(1, 9, 2), false);
        due.is("begin: time before", x.grants(1, 6, 1), false);
        due.is("begin: time after", x.grants(1, 6, 5), false);
        x.permit(OWNER, Due.subject(3, 1, 2), false, 5, 4);
        due.is("begin: whatever its times are", x.begin(1), true);
        due.is("begin: key", x.head(), 3);
        due.is("begin: first name", x.behind(0), 1);
        due.is("begin: second name", x.behind(1), 2);
        due.is("begin: no more", x.behind(2), NONE);
        due.is("begin: does not delegate", x.delegates(), false);
    }

    private static void promise13Again() {
        DelegationClosure x = new DelegationClosure();
        x.permit(OWNER, Due.subject(1, 0, 0), true, 0, 3);
        x.name(1, 0, Due.subject(1, 1, 2), 0, 2);
        x.permit(OWNER, Due.subject(4, 3), false, 5, 9);
        x.tag(0, 1, 1, 1);
        x.begin(0);
        x.follow(1);
        due.is("again: three names before", x.behind(2), 0);
        due.is("again: answers", x.begin(2), true);
        due.is("again: head", x.head(), 4);
        due.is("again: its name", x.behind(0), 3);
        due.is("again: no second name", x.behind(1), NONE);
        due.is("again: used", x.used(), 1);
        due.is("again: delegates", x.delegates(), false);
        x.name(4, 3, 6, LEAST, MOST);
        x.follow(3);
        due.is("again: tag and times are its own", x.grants(7, 99, 9), true);
        due.is("again: before its times", x.grants(7, 99, 4), false);
        due.is("again: with the same", x.begin(0) && x.begin(0), true);
        due.is("again: used 1", x.used(), 1);
    }

    private static void promise13Refusals() {
        DelegationClosure x = new DelegationClosure();
        x.permit(OWNER, 1, true, 0, 9);
        x.permit(0, 2, true, 0, 9);
        x.name(0, 0, 1, 0, 9);
        x.permit(OWNER, 3, true, 0, 9);
        x.also(3, 4);
        x.permit(OWNER, 5, true, 0, 9);
        x.revoke(4);
        int[] wrongs = {1, 2, 3, 4, 5, 24, -1, LEAST, MOST};
        for (int wrong : wrongs) {
            due.is("begin: " + wrong, x.begin(wrong), false);
            due.is("begin: no chain by " + wrong, x.head(), NONE);
        }
        x.begin(0);
        for (int wrong : wrongs) {
            due.is("begin: again " + wrong, x.begin(wrong), false);
            due.is("begin: the chain stays", x.head(), 1);
            due.is("begin: its number of certificates stays", x.used(), 1);
        }
        due.is("begin: two subjects at quorum 2", x.quorum(3, 2) && x.begin(3), false);
    }

    private static void promise14Names() {
        DelegationClosure x = new DelegationClosure();
        x.permit(OWNER, Due.subject(0, 0, 3), true, 0, 9);
        x.name(0, 0, Due.subject(1, 1, 2), 0, 9);
        x.name(1, 1, Due.subject(2, 0), 0, 9);
        x.name(2, 0, 4, 0, 9);
        x.name(4, 2, 5, 0, 9);
        x.name(5, 3, 6, 0, 9);
        x.begin(0);
        due.is("names: two for one", x.follow(1), true);
        dueChain("names: two for one", x, 1, 1, 2, 3);
        due.is("names: one for one", x.follow(2), true);
        dueChain("names: one for one", x, 2, 0, 2, 3);
        due.is("names: none for one", x.follow(3), true);
        dueChain("names: none for one", x, 4, 2, 3);
        due.is("names: the next", x.follow(4), true);
        dueChain("names: the next", x, 5, 3);
        due.is("names: the last", x.follow(5), true);
        dueChain("names: the last", x, 6);
        due.is("names: used", x.used(), 6);
        due.is("names: it delegates as before", x.delegates(), true);
        due.is("names: grants", x.grants(0, 0, 5), true);
    }

    private static void dueChain(String call, DelegationClosure x, int key, int... names) {
        due.is(call + ": head", x.head(), key);
        for (int i = 0; i < names.length; i++) {
            due.is(call + ": name " + i, x.behind(i), names[i]);
        }
        due.is(call + ": no more names", x.behind(names.length), NONE);
    }

    private static void promise14AtMostFourNames() {
        DelegationClosure x = new DelegationClosure();
        x.permit(OWNER, Due.subject(0, 0, 1), true, 0, 9);
        x.name(0, 0, Due.subject(0, 0, 2), 0, 9);
        x.name(0, 0, Due.subject(0, 0), 0, 9);
        x.name(0, 0, 0, 5, 9);
        x.begin(0);
        due.is("four: to three", x.follow(1), true);
        due.is("four: to four", x.follow(1), true);
        dueChain("four", x, 0, 0, 2, 2, 1);
        due.is("four: not to five", x.follow(1), false);
        dueChain("four, refused", x, 0, 0, 2, 2, 1);
        due.is("four: used", x.used(), 3);
        due.is("four: four to four", x.follow(2), true);
        dueChain("four to four", x, 0, 0, 2, 2, 1);
        due.is("four: used again", x.used(), 4);
        due.is("four: to three again", x.follow(3), true);
        dueChain("three", x, 0, 2, 2, 1);
    }

    private static void promise14Permissions() {
        DelegationClosure x = new DelegationClosure();
        x.permit(OWNER, 0, true, 0, 9);
        x.permit(0, Due.subject(1, 2, 3), true, 0, 9);
        x.name(1, 2, 2, 0, 9);
        x.name(2, 3, 3, 0, 9);
        x.permit(3, 4, false, 0, 9);
        x.permit(4, 5, true, 0, 9);
        x.begin(0);
        due.is("permissions: first", x.follow(1), true);
        dueChain("permissions: first", x, 1, 2, 3);
        x.follow(2);
        x.follow(3);
        due.is("permissions: second", x.follow(4), true);
        dueChain("permissions: second", x, 4);
        due.is("permissions: used", x.used(), 5);
        due.is("permissions: it delegates no more", x.delegates(), false);
        due.is("permissions: not on", x.follow(5), false);
        dueChain("permissions: as before", x, 4);
        due.is("permissions: grants", x.grants(0, 0, 5), true);
    }

    private static void promise14Tags() {
        DelegationClosure x = new DelegationClosure();
        x.permit(OWNER, 0, true, 0, 9);
        x.permit(0, 0, true, 0, 9);
        x.permit(0, 0, true, 0, 9);
        x.permit(0, 0, true, 0, 9);
        x.tag(0, 7, 0, 10);
        x.tag(1, 6, 5, 20);
        x.tag(2, 3, 11, 12);
        x.tag(3, 8, 0, 20);
        x.begin(0);
        x.follow(1);
        due.is("tags: in common", x.grants(1, 5, 5), true);
        due.is("tags: high", x.grants(2, 10, 5), true);
        due.is("tags: below low", x.grants(1, 4, 5), false);
        due.is("tags: above high", x.grants(1, 11, 5), false);
        due.is("tags: an operation that is not in the second", x.grants(0, 5, 5), false);
        due.is("tags: no number in common", x.follow(2), true);
        for (int number = -1; number <= 21; number++) {
            due.is("tags: none, " + number, x.grants(1, number, 5), false);
        }
        due.is("tags: goes on", x.follow(1), true);
        due.is("tags: none again", x.grants(1, 11, 5), false);
        x.begin(0);
        due.is("tags: no operation in common", x.follow(3), true);
        for (int operation = 0; operation < 8; operation++) {
            due.is("tags: none of the operations", x.grants(operation, 5, 5), false);
        }
        due.is("tags: used", x.used(), 2);
        DelegationClosure y = new DelegationClosure();
        y.permit(OWNER, 0, true, 0, 9);
        y.permit(0, 0, true, 0, 9);
        y.begin(0);
        y.follow(1);
        due.is("tags: all, least", y.grants(0, LEAST, 5), true);
        due.is("tags: all, greatest", y.grants(7, MOST, 5), true);
    }

    private static void promise14Times() {
        DelegationClosure x = new DelegationClosure();
        x.permit(OWNER, Due.subject(0, 0), true, 0, 20);
        x.name(0, 0, 1, 5, 30);
        x.permit(1, 1, true, -9, 15);
        x.permit(1, 1, true, 16, 40);
        x.begin(0);
        x.follow(1);
        due.is("times: from of the name", x.grants(0, 0, 5), true);
        due.is("times: before it", x.grants(0, 0, 4), false);
        due.is("times: to of the first", x.grants(0, 0, 20), true);
        due.is("times: after it", x.grants(0, 0, 21), false);
        x.follow(2);
        due.is("times: to of the permission", x.grants(0, 0, 15), true);
        due.is("times: after that", x.grants(0, 0, 16), false);
        due.is("times: from as before", x.grants(0, 0, 4), false);
        due.is("times: none in common", x.follow(3), true);
        for (int time = -10; time <= 41; time++) {
            due.is("times: none, " + time, x.grants(0, 0, time), false);
        }
        due.is("times: used", x.used(), 4);
        due.is("times: head", x.head(), 1);
    }

    private static void promise14Refusals() {
        DelegationClosure x = new DelegationClosure();
        x.permit(OWNER, 0, true, 0, 9);
        x.permit(0, 1, true, 0, 9);
        x.permit(0, 2, true, 0, 9);
        x.also(2, 3);
        x.permit(0, 4, true, 0, 9);
        x.revoke(3);
        x.permit(5, 6, true, 0, 9);
        x.name(0, 0, 7, 0, 9);
        due.is("follow: no chain", x.follow(1), false);
        due.is("follow: no chain, names", x.follow(5), false);
        due.is("follow: still none", x.used(), 0);
        x.begin(0);
        due.is("follow: of OWNER", x.follow(0), false);
        due.is("follow: two subjects", x.follow(2), false);
        due.is("follow: revoked", x.follow(3), false);
        due.is("follow: another issuer", x.follow(4), false);
        due.is("follow: names where there is none", x.follow(5), false);
        for (int wrong : new int[] {6, 24, -1, LEAST, MOST}) {
            due.is("follow: " + wrong, x.follow(wrong), false);
        }
        dueChain("follow: as before", x, 0);
        due.is("follow: used as before", x.used(), 1);
        due.is("follow: the right one", x.follow(1), true);
    }

    private static void promise14RefusalsForWhatTheChainIs() {
        DelegationClosure x = new DelegationClosure();
        x.permit(OWNER, Due.subject(0, 0, 1), true, 0, 9);
        x.permit(0, 1, true, 0, 9);
        x.name(0, 1, 2, 5, 5);
        x.name(1, 0, 3, 5, 5);
        x.name(0, 0, 4, 0, 9);
        x.revoke(4);
        x.permit(OWNER, 0, false, 0, 9);
        x.begin(0);
        due.is("follow: a permission where names are", x.follow(1), false);
        due.is("follow: the second name", x.follow(2), false);
        due.is("follow: the name of another key", x.follow(3), false);
        due.is("follow: a revoked name", x.follow(4), false);
        dueChain("follow: names as before", x, 0, 0, 1);
        due.is("follow: used 1", x.used(), 1);
        x.begin(5);
        due.is("follow: a chain that does not delegate", x.follow(1), false);
        due.is("follow: times as before", x.grants(0, 0, 9), true);
        // The first name of the chain before is still in the row, but not behind the key.
        x.name(0, 0, 4, 0, 9);
        due.is("follow: a name of the chain before", x.follow(6), false);
        due.is("follow: head as before", x.head(), 0);
    }

    private static void promise15Head() {
        for (int key = 0; key < 8; key++) {
            DelegationClosure x = new DelegationClosure();
            due.is("head: none", x.head(), NONE);
            x.permit(OWNER, Due.subject(key, 3, 3), false, 0, 9);
            due.is("head: none yet", x.head(), NONE);
            x.begin(0);
            due.is("head: key", x.head(), key);
            due.is("head: asked again", x.head(), key);
        }
    }

    private static void promise16Behind() {
        DelegationClosure x = new DelegationClosure();
        due.is("behind: no chain", x.behind(0), NONE);
        x.permit(OWNER, Due.subject(0, 3, 0), false, 0, 9);
        x.begin(0);
        due.is("behind: 0", x.behind(0), 3);
        due.is("behind: 1", x.behind(1), 0);
        for (int wrong : new int[] {-1, 2, 3, 4, 5, LEAST, MOST}) {
            due.is("behind: " + wrong, x.behind(wrong), NONE);
        }
        x.name(0, 3, Due.subject(1, 1, 2), 0, 9);
        x.name(1, 1, Due.subject(2, 0, 1), 0, 9);
        x.follow(1);
        x.follow(2);
        dueChain("behind: four", x, 2, 0, 1, 2, 0);
        due.is("behind: -1 of four", x.behind(-1), NONE);
    }

    private static void promise17Grants() {
        DelegationClosure x = new DelegationClosure();
        due.is("grants: no chain", x.grants(0, 0, 0), false);
        x.permit(OWNER, Due.subject(0, 0), false, LEAST, MOST);
        x.name(0, 0, 1, LEAST, MOST);
        x.begin(0);
        due.is("grants: a name behind", x.grants(0, 0, 0), false);
        x.follow(1);
        due.is("grants: none", x.grants(0, 0, 0), true);
        due.is("grants: all at their least", x.grants(0, LEAST, LEAST), true);
        due.is("grants: all at their most", x.grants(7, MOST, MOST), true);
        for (int wrong : new int[] {-1, 8, 9, 32, -32, LEAST, MOST}) {
            due.is("grants: operation " + wrong, x.grants(wrong, 0, 0), false);
        }
        x.permit(OWNER, 5, false, 6, 5);
        x.begin(2);
        due.is("grants: never valid, 5", x.grants(0, 0, 5), false);
        due.is("grants: never valid, 6", x.grants(0, 0, 6), false);
    }

    private static void promise18Used() {
        DelegationClosure x = new DelegationClosure();
        due.is("used: no chain", x.used(), 0);
        x.permit(OWNER, 0, true, 0, 9);
        x.permit(0, 0, true, 0, 9);
        due.is("used: no chain yet", x.used(), 0);
        x.begin(0);
        for (int times = 1; times <= 200; times++) {
            due.is("used: " + times, x.used(), times);
            due.is("used: the same again", x.follow(1), true);
        }
        x.follow(9);
        due.is("used: a refused one does not count", x.used(), 201);
        x.begin(0);
        due.is("used: from the beginning", x.used(), 1);
    }

    private static void promise19Delegates() {
        DelegationClosure x = new DelegationClosure();
        due.is("delegates: no chain", x.delegates(), false);
        x.permit(OWNER, 0, true, 0, 9);
        due.is("delegates: no chain yet", x.delegates(), false);
        x.permit(0, Due.subject(1, 0), true, 0, 9);
        x.name(1, 0, 2, 0, 9);
        x.permit(2, Due.subject(1, 0), false, 0, 9);
        x.begin(0);
        due.is("delegates: the first does", x.delegates(), true);
        x.follow(1);
        due.is("delegates: the second does", x.delegates(), true);
        x.follow(2);
        due.is("delegates: names change nothing", x.delegates(), true);
        x.follow(3);
        due.is("delegates: the last does not", x.delegates(), false);
        x.follow(2);
        due.is("delegates: names change nothing again", x.delegates(), false);
        x.begin(0);
        due.is("delegates: begun again", x.delegates(), true);
    }

    private static void chainStaysAsItWasMade() {
        DelegationClosure x = new DelegationClosure();
        x.permit(OWNER, 0, true, 0, 9);
        x.permit(0, 1, true, 0, 9);
        x.tag(0, 3, 0, 9);
        x.begin(0);
        x.tag(0, 4, 20, 29);
        x.also(0, 5);
        x.quorum(0, 2);
        x.revoke(0);
        due.is("stays: grants after the first is gone", x.grants(0, 9, 5), true);
        due.is("stays: not the later tag", x.grants(2, 20, 5), false);
        due.is("stays: goes on", x.follow(1), true);
        x.tag(1, 0, 0, 0);
        x.also(1, 6);
        x.revoke(1);
        due.is("stays: grants after the second is gone", x.grants(1, 9, 5), true);
        due.is("stays: head", x.head(), 1);
        due.is("stays: used", x.used(), 2);
        due.is("stays: delegates", x.delegates(), true);
        due.is("stays: but not for who holds", x.holders(1, 9, 5), 0);
    }

    private ChainTest() {
    }
}
