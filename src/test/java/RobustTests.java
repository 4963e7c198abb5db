import java.util.Random;

/** Calls of any kind with any arguments, in any order: none throws, and none answers what no call may. */
public final class RobustTests {
    private static final int[] EDGES = {0, 1, 2, 3, 4, 5, 6, 7, 29, 30, 31, 99, 100, 101, -1, -2, Integer.MAX_VALUE, Integer.MIN_VALUE, Integer.MAX_VALUE - 1};
    private static final String[] PARTS = {"//", "//J JOB", "//P PROC", "//Q PROC", "// PEND", " EXEC ", "//S", "//D DD ", "// SET ", "// IF A", "// ELSE", "// ENDIF", "PGM=X", "PROC=P", "P", "Q", "A=", "&A", "&B.", ",", "=", "'", "(", ")", " ", "\n", "\n", "\n", "*", "DATA", "/*", "X", "1", ".", "LONGNAMES", "~", "//*"};
    private static int wrong = 0;

    public static void main(String[] args) {
        for (int seed = 0; seed < 3000 && wrong < 5; seed++) {
            try {
                run(new Random(seed * 0x9E3779B97F4A7C15L));
            } catch (RuntimeException e) {
                wrong++;
                System.out.println("seed " + seed + " threw " + e);
                e.printStackTrace(System.out);
            }
        }
        longTexts();
        System.out.println(wrong == 0 ? "nothing threw" : wrong + " wrong");
        if (wrong != 0) {
            System.exit(1);
        }
    }

    private static void due(String what, boolean holds) {
        if (!holds) {
            wrong++;
            System.out.println("not so: " + what);
        }
    }

    private static int edge(Random random) {
        return random.nextInt(4) == 0 ? random.nextInt() : EDGES[random.nextInt(EDGES.length)];
    }

    private static void run(Random random) {
        JobText x = new JobText();
        for (int call = 0; call < 700; call++) {
            switch (random.nextInt(14)) {
                case 0: x.sign(random.nextLong()); break;
                case 1: case 2: case 3: TextTest.load(x, PARTS[random.nextInt(PARTS.length)] + PARTS[random.nextInt(PARTS.length)]); break;
                case 4: TextTest.load(x, "//J JOB\n".substring(x.count(0) == 0 ? 0 : 7)); break;
                case 5: {
                    int read = random.nextInt(4) == 0 ? x.read() : 0;
                    due("read " + read, read >= 0 ? read == x.count(2) || read == 0 : x.count(2) == 0 && x.count(6) == 0);
                    break;
                }
                case 6: {
                    int lines = x.expand();
                    due("expand " + lines, lines >= -7 && lines <= 100 && (lines == -2 || x.count(4) == Math.max(lines, 0)));
                    break;
                }
                case 7: x.statement(edge(random), edge(random)); break;
                case 8: x.parameter(edge(random), edge(random), edge(random)); break;
                case 9: x.data(edge(random), edge(random)); break;
                case 10: x.fault(edge(random), edge(random)); break;
                case 11: x.at(edge(random), edge(random)); break;
                case 12: x.letter(edge(random), edge(random)); break;
                default: x.ring(edge(random)); x.count(edge(random));
            }
        }
    }

    /** Texts of 3000 signs that make the most of one thing each. */
    private static void longTexts() {
        String[] heads = {"", "", "//J JOB\n", "//J JOB\n// EXEC PGM=A\n//D DD\n", "//J JOB\n// EXEC PGM=A\n//D DD\n", "//J JOB\n", "//J JOB\n", "//P PROC\n", "//J JOB ", "//J JOB\n", "//J JOB\n//P PROC\n// EXEC Q\n// PEND\n//Q PROC\n// SET A=&A,B=&B,C=&C,D=&D,E=&E,F=&F\n// PEND\n"};
        String[] again = {"\n", "X\n", "// SET A=,B=,C=,D=,E=,F=,G=,H=,I=,J=\n", "// DD\n", "// DD ,,,,,,,,,1\n", "// IF A\n// ENDIF\n", "//", "// IF 1\n", "A,\n// ", "// EXEC P\n", "// EXEC P\n"};
        for (int i = 0; i < heads.length; i++) {
            StringBuilder text = new StringBuilder(heads[i]);
            while (text.length() < 3000) {
                text.append(again[i]);
            }
            JobText x = new JobText();
            for (int n = 0; n < 3; n++) {
                TextTest.load(x, text.toString());
                due("the text is full", x.count(0) == 3000);
                x.read();
                x.expand();
            }
        }
    }
}
