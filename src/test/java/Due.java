/** Counts the answers that are not the ones that are due, and tells them. */
final class Due {
    private static int wrong = 0;
    private static int asked = 0;

    private Due() { }

    static void is(String call, long got, long want) {
        asked++;
        if (got != want) {
            tell(call + " answered " + got + ", due is " + want);
        }
    }

    static void isNot(String call, long got, long... never) {
        asked++;
        for (long n : never) {
            if (got == n) {
                tell(call + " answered " + got + ", which is not due");
            }
        }
    }

    /** Of two texts of many lines, tells the first line in which they part. */
    static void same(String call, String got, String want) {
        asked++;
        if (got.equals(want)) {
            return;
        }
        String[] gotLines = got.split("\n");
        String[] wantLines = want.split("\n");
        int line = 0;
        while (line < gotLines.length && line < wantLines.length && gotLines[line].equals(wantLines[line])) {
            line++;
        }
        tell(call + ": " + at(gotLines, line) + ", due is " + at(wantLines, line));
    }

    private static String at(String[] lines, int line) {
        return line < lines.length ? lines[line] : "nothing";
    }

    private static void tell(String what) {
        wrong++;
        if (wrong <= 40) {
            System.out.println(what);
        }
    }

    /** Ends the program: with exit code 1 if an answer was wrong. */
    static void end() {
        System.out.println(wrong == 0 ? asked + " answers are as due" : wrong + " answers are not as due");
        System.exit(wrong == 0 ? 0 : 1);
    }
}
