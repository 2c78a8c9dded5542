import java.util.ArrayList;
import java.util.List;

/**
 * What later calls answer, in parts: each for an object of its own, as an object is used for at
 * most 512 calls and the last parts change it.
 */
final class Later {
    static final int PARTS = 6;
    private static final int OWNER = DelegationClosure.OWNER;
    private static final int[] TIMES = {Edges.LEAST, 0, 3, 5, 20};
    private static final int[] NUMBERS = {Edges.LEAST, -5, 0, 6};

    private final List<String> answers = new ArrayList<>();
    private final DelegationClosure x;

    private Later(DelegationClosure x) {
        this.x = x;
    }

    static List<String> answers(DelegationClosure x, int part) {
        Later later = new Later(x);
        switch (part) {
            case 0:
                later.meanings();
                break;
            case 1:
                later.costs();
                break;
            case 2:
                later.leads();
                break;
            case 3:
                later.chain();
                break;
            case 4:
                later.chainsToCome();
                break;
            default:
                later.changesToCome();
                break;
        }
        return later.answers;
    }

    private void note(String call, int answer) {
        answers.add(call + " = " + answer);
    }

    private void note(String call, boolean answer) {
        answers.add(call + " = " + answer);
    }

    private void meanings() {
        note("certificates", x.certificates());
        for (int number = 0; number < 200; number++) {
            if (Due.isSubject(number)) {
                note("meant(" + number + ", 5)", x.meant(number, 5));
                note("meant(" + number + ", 20)", x.meant(number, 20));
            }
        }
    }

    private void costs() {
        for (int subject = 8; subject < 40; subject++) {
            for (int key = 0; key < 8; key++) {
                note("cost(" + subject + ", " + key + ", 5)", x.cost(subject, key, 5));
            }
        }
    }

    private void leads() {
        for (int time : TIMES) {
            for (int number : NUMBERS) {
                for (int operation = 0; operation < 8; operation++) {
                    String call = "(" + operation + ", " + number + ", " + time + ")";
                    note("holders" + call, x.holders(operation, number, time));
                }
                for (int key = 0; key < 8; key++) {
                    String call = "(" + key + ", 0, " + number + ", " + time + ")";
                    note("may" + call, x.may(key, 0, number, time));
                }
            }
        }
    }

    private void chain() {
        noteChain();
        for (int time : TIMES) {
            for (int number : NUMBERS) {
                for (int operation = 0; operation < 8; operation++) {
                    String call = "(" + operation + ", " + number + ", " + time + ")";
                    note("grants" + call, x.grants(operation, number, time));
                }
            }
        }
    }

    private void noteChain() {
        note("head", x.head());
        for (int i = 0; i < 5; i++) {
            note("behind(" + i + ")", x.behind(i));
        }
        note("used", x.used());
        note("delegates", x.delegates());
    }

    /** On by all certificates as far as it goes, then anew with each that can begin one. */
    private void chainsToCome() {
        for (int round = 0; round < 4; round++) {
            for (int c = 0; c <= 24; c++) {
                note("follow(" + c + ")", x.follow(c));
            }
            noteChain();
            for (int time : TIMES) {
                note("grants(0, 0, " + time + ")", x.grants(0, 0, time));
                note("grants(7, 6, " + time + ")", x.grants(7, 6, time));
            }
        }
        for (int c = 0; c < 24; c++) {
            note("begin(" + c + ")", x.begin(c));
            noteChain();
            note("grants(0, 0, 3)", x.grants(0, 0, 3));
        }
    }

    private void changesToCome() {
        for (int c = 0; c < 24; c++) {
            note("quorum(" + c + ", 2)", x.quorum(c, 2));
            note("quorum(" + c + ", 3)", x.quorum(c, 3));
            note("also(" + c + ", 1)", x.also(c, 1));
            note("holders(0, 0, 5)", x.holders(0, 0, 5));
        }
        for (int i = 0; i < 10; i++) {
            note("name", x.name(0, 0, 4, 0, 20));
            note("permit", x.permit(OWNER, 3, true, 0, 20));
            note("certificates", x.certificates());
        }
        note("holders(0, 0, 5)", x.holders(0, 0, 5));
        note("meant(8, 5)", x.meant(Due.subject(0, 0), 5));
        for (int c = 0; c <= 24; c++) {
            note("tag(" + c + ")", x.tag(c, 3, 0, 0));
            note("revoke(" + c + ")", x.revoke(c));
            note("holders(0, 0, 5)", x.holders(0, 0, 5));
        }
        noteChain();
    }
}
