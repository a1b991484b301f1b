/** Counts the answers that are not as due, and ends a test with exit code 1 if there was one. */
final class Check {
    private static int wrong = 0;
    private static String sentence = "";

    private Check() {
    }

    /** Tells which words of the document the next checks are for; they must stand there. */
    static void about(String words) {
        sentence = "";
        same("the document says \"" + words + "\"", Document.says(words), true);
        sentence = "\"" + words + "\": ";
    }

    static void same(String what, long got, long due) {
        if (got != due) {
            report(what, String.valueOf(got), String.valueOf(due));
        }
    }

    static void same(String what, boolean got, boolean due) {
        if (got != due) {
            report(what, String.valueOf(got), String.valueOf(due));
        }
    }

    static void same(String what, double got, double due) {
        if (Double.compare(got, due) != 0) {
            report(what, String.valueOf(got), String.valueOf(due));
        }
    }

    static void same(String what, String got, String due) {
        if (!got.equals(due)) {
            report(what, got, due);
        }
    }

    /** The very class is due: a subclass would be thrown by the machine. */
    static void fails(String what, Class<? extends RuntimeException> due, Runnable call) {
        String got = "nothing";
        try {
            call.run();
        } catch (RuntimeException e) {
            got = e.getClass().getName();
        }
        same(what + " throws", got, due.getName());
    }

    private static void report(String what, String got, String due) {
        wrong++;
        if (wrong <= 50) {
            System.out.println(sentence + what + " answered " + got + ", due is " + due);
        }
    }

    static void end() {
        if (wrong != 0) {
            System.out.println(wrong + " answers are not as due");
            System.exit(1);
        }
    }
}
