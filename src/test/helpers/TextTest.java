/** What the tests share: texts for objects of JobText, what these tell as texts, and checks that are counted. */
abstract class TextTest {
    // No answer is asked for more signs or rows than this, so that a test of a broken class ends too.
    private static final int MOST = 5000;
    private static int checks = 0;
    private static int wrong = 0;

    /** Tells how many checks were wrong, and ends the program with 1 if one was. */
    static void end() {
        System.out.println(checks + " checks, " + wrong + " wrong");
        if (wrong != 0) {
            System.exit(1);
        }
    }

    static void due(String what, Object got, Object want) {
        checks++;
        if (!got.equals(want)) {
            wrong++;
            System.out.println(what + " answered " + got + ", due is " + want);
        }
    }

    static void load(JobText x, String text) {
        for (int i = 0; i < text.length(); i += 8) {
            long c = 0;
            for (int k = i; k < i + 8; k++) {
                c = c << 8 | (k < text.length() ? text.charAt(k) : 0);
            }
            x.sign(c);
        }
    }

    static String text(String... lines) {
        return String.join("\n", lines) + "\n";
    }

    static int readOf(JobText x, String... lines) {
        load(x, text(lines));
        return x.read();
    }

    static JobText of(String... lines) {
        JobText x = new JobText();
        readOf(x, lines);
        return x;
    }

    /** The faults as line:column:kind, and :nearest if there is one. */
    static String faultsOf(String... lines) {
        return faultList(of(lines));
    }

    static String faultList(JobText x) {
        StringBuilder all = new StringBuilder();
        for (int i = 0; i < MOST && x.fault(i, 0) != JobText.NONE; i++) {
            all.append(i == 0 ? "" : " ").append(x.fault(i, 0)).append(':').append(x.fault(i, 1)).append(':').append(x.fault(i, 2));
            if (x.fault(i, 3) != 0) {
                all.append(':').append(x.fault(i, 3));
            }
        }
        return all.toString();
    }

    static String parameterOf(JobText x, int i, int which) {
        StringBuilder all = new StringBuilder();
        for (int k = 0; k < MOST && x.parameter(i, which, k) != JobText.NONE; k++) {
            all.append((char) x.parameter(i, which, k));
        }
        return all.toString();
    }

    /** The parameters of a statement, parted by |. */
    static String parametersOf(JobText x, int i) {
        StringBuilder all = new StringBuilder();
        for (int which = 0; which < x.statement(i, 2); which++) {
            all.append(which == 0 ? "" : "|").append(parameterOf(x, i, which));
        }
        return all.toString();
    }

    /** The lines of a statement's data, parted by blanks. */
    static String dataOf(JobText x, int i) {
        StringBuilder all = new StringBuilder();
        for (int k = 0; k < MOST && x.data(i, k) != JobText.NONE; k++) {
            all.append(k == 0 ? "" : " ").append(x.data(i, k));
        }
        return all.toString();
    }

    static String lettersOf(JobText x, int i) {
        StringBuilder all = new StringBuilder();
        for (int k = 0; k < MOST && x.letter(i, k) != JobText.NONE; k++) {
            all.append((char) x.letter(i, k));
        }
        return all.toString();
    }

    static String ringOf(JobText x) {
        StringBuilder all = new StringBuilder();
        for (int k = 0; k < MOST && x.ring(k) != JobText.NONE; k++) {
            all.append((char) x.ring(k));
        }
        return all.toString();
    }

    /** The lines as line/operation/depth/count/changed and the letters, parted by |. */
    static String listing(JobText x) {
        StringBuilder all = new StringBuilder();
        for (int i = 0; i < MOST && x.at(i, 0) != JobText.NONE; i++) {
            all.append(i == 0 ? "" : "|");
            for (int what = 0; what < 5; what++) {
                all.append(what == 0 ? "" : "/").append(x.at(i, what));
            }
            all.append(' ').append(lettersOf(x, i));
        }
        return all.toString();
    }

    /** The letters alone of all lines but the job's. */
    static String expandedLetters(String... lines) {
        JobText x = of(lines);
        int n = x.expand();
        StringBuilder all = new StringBuilder();
        for (int i = 1; i < n; i++) {
            all.append(i == 1 ? "" : "|").append(lettersOf(x, i));
        }
        return n < 0 ? "" + n : all.toString();
    }

    static int expandOf(String... lines) {
        JobText x = of(lines);
        return x.expand();
    }

    /** What expand() answers, how many symbols are missing, and the ring's name. */
    static String outcomeOf(String... lines) {
        JobText x = of(lines);
        return x.expand() + " " + x.count(5) + " " + ringOf(x);
    }

    static String[] joined(String[] head, String... tail) {
        String[] all = new String[head.length + tail.length];
        System.arraycopy(head, 0, all, 0, head.length);
        System.arraycopy(tail, 0, all, head.length, tail.length);
        return all;
    }

    /** A line so many times. */
    static String[] times(int n, String line) {
        String[] all = new String[n];
        java.util.Arrays.fill(all, line);
        return all;
    }
}
