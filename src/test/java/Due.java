/** Collects the calls whose answer is not the one that is due. */
final class Due {
    private int wrong = 0;
    private int asked = 0;

    void is(String call, long got, long want) {
        asked++;
        if (got != want) {
            wrong++;
            System.out.println(call + " answered " + got + ", due is " + want);
        }
    }

    void is(String call, boolean got, boolean want) {
        asked++;
        if (got != want) {
            wrong++;
            System.out.println(call + " answered " + got + ", due is " + want);
        }
    }

    void is(String call, String got, String want) {
        asked++;
        if (!got.equals(want)) {
            wrong++;
            System.out.println(call + " answered " + got + ", due is " + want);
        }
    }

    int wrong() {
        return wrong;
    }

    void end() {
        System.out.println(asked + " answers, " + wrong + " of them not as due");
        if (wrong != 0) {
            System.exit(1);
        }
    }

    static int subject(int key) {
        return key;
    }

    static int subject(int key, int first) {
        return key + 8 * (first + 1);
    }

    static int subject(int key, int first, int second) {
        return key + 8 * (first + 1 + 5 * (second + 1));
    }

    static int setOf(int... keys) {
        int set = 0;
        for (int key : keys) {
            set |= 1 << key;
        }
        return set;
    }

    /** By trying all subjects, so that it shares no arithmetic with the class. */
    static boolean isSubject(int number) {
        for (int key = 0; key < 8; key++) {
            if (number == subject(key)) {
                return true;
            }
            for (int first = 0; first < 4; first++) {
                if (number == subject(key, first)) {
                    return true;
                }
                for (int second = 0; second < 4; second++) {
                    if (number == subject(key, first, second)) {
                        return true;
                    }
                }
            }
        }
        return false;
    }
}
