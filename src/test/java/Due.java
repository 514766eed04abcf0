/** Counts the answers that are not as due, and prints them. */
final class Due {
    interface Call {
        long answer();
    }

    private int wrong = 0;
    private int asked = 0;

    void equal(String what, long got, long want) {
        asked++;
        if (got != want) {
            tell(what + " answered " + got + ", due is " + want);
        }
    }

    void equal(String what, boolean got, boolean want) {
        equal(what, got ? 1 : 0, want ? 1 : 0);
    }

    void equal(String what, String got, String want) {
        asked++;
        if (!got.equals(want)) {
            tell(what + " answered " + got + ", due is " + want);
        }
    }

    void refuses(String what, Class<? extends RuntimeException> due, Call call) {
        asked++;
        String got;
        try {
            got = "answer " + call.answer();
        } catch (RuntimeException e) {
            if (e.getClass() == due) {
                return;
            }
            got = e.getClass().getName();
        }
        tell(what + " gave " + got + ", due is " + due.getName());
    }

    boolean anyWrong() {
        return wrong != 0;
    }

    void end() {
        if (asked == 0) {
            tell("nothing was asked");
        }
        System.out.println(asked + " asked, " + wrong + " not as due");
        if (wrong != 0) {
            System.exit(1);
        }
    }

    private void tell(String text) {
        wrong++;
        System.out.println(text);
    }
}
