/** A test of its own for each sentence of the promises that names a boundary: each method quotes its sentence. */
public final class PromiseBoundaries extends TextTest {
    private static final int[] FAR = {-1, -2, -8, Integer.MIN_VALUE, Integer.MIN_VALUE + 1, Integer.MAX_VALUE, Integer.MAX_VALUE - 1, 1 << 16, 3001};
    private static final String TWENTY_NINE = "ABCDEFGHIJKLMNOPQRSTUVWXYZ123";
    private static final String THIRTY = TWENTY_NINE + "4";

    public static void main(String[] args) {
        noTextNoLibrary();
        upToEightSigns();
        othersAreLeftOut();
        beyond3000();
        howManyStatements();
        theTextIsEmptyThen();
        howManyFaults();
        notThereForWhatComes();
        soIsTheTextAndTheJob();
        aJobAtHandThen();
        toTheLibrary();
        atMost12();
        statementOrNone();
        parameterOrNone();
        dataOrNone();
        faultOrNone();
        nearestOperation();
        linesInTheirOrder();
        overridesAreTheNext();
        textAheadOfLibrary();
        symbolsAsLongAsTheyGo();
        symbolsOfExecProcAndSet();
        symbolsOfSets();
        symbolsMissing();
        valuesBetweenQuotes();
        overrideOfWhichStep();
        overridesOfThatCall();
        overrideOfParameters();
        overrideThatIsAdded();
        withoutAJob();
        ring1();
        moreThan100Lines();
        moreThan30Signs();
        notThere();
        noSuchStep();
        moreThan10Parameters();
        theFirstOfThem();
        thenThereAreNoLines();
        atOrNone();
        howManyCalls();
        letterOrNone();
        ringOrNone();
        countOrNone();
        end();
    }

    private static String linesOf(String... lines) {
        JobText x = of(lines);
        int n = x.expand();
        return n < 0 ? "" + n : listing(x);
    }

    // ---- promise 1

    // No text, no library.
    private static void noTextNoLibrary() {
        JobText x = new JobText();
        due("counts", "" + x.count(0) + x.count(1) + x.count(2) + x.count(3) + x.count(4) + x.count(5) + x.count(6), "0000000");
        due("nothing is told", x.statement(0, 0) + x.parameter(0, 0, 0) + x.data(0, 0) + x.fault(0, 0) + x.at(0, 0) + x.letter(0, 0) + x.ring(0), -7);
        due("no job", x.expand(), -2);
        due("no line then", x.at(0, 0) + x.count(4), -1);
        due("an empty text", x.read(), 0);
        JobText other = of("//P PROC", "// PEND");
        due("no object knows another's library", "" + other.count(1) + new JobText().count(1) + x.count(1), "100");
    }

    // ---- promise 2

    // Up to eight signs at the text's end, those of c from its highest byte on.
    private static void upToEightSigns() {
        for (int n = 0; n <= 8; n++) {
            JobText x = new JobText();
            x.sign(n == 0 ? 0 : 0x4142434445464748L >>> (64 - 8 * n));
            due(n + " signs", x.count(0), n);
            x.sign(0x4142434445464748L);
            due("and eight more", x.count(0), n + 8);
        }
        JobText x = new JobText();
        x.sign(0x2F2F4A204A4F4220L);
        x.sign(0x4142434445464748L);
        x.read();
        due("from the highest byte on", parametersOf(x, 0), "ABCDEFGH");
        x.sign(0x2F2F4A204A4F4220L);
        for (int n = 0; n < 8; n++) {
            x.sign((long) ('A' + n) << (8 * n));
        }
        x.read();
        due("each in a byte of its own", parametersOf(x, 0), "ABCDEFGH");
    }

    // Others are left out.
    private static void othersAreLeftOut() {
        JobText x = new JobText();
        x.sign(0xFF2F002F804A0920L);
        x.sign(0x1F4A7F4F0B420D20L);
        x.sign(0x4100FF42001B4300L);
        due("those between", x.count(0), 11);
        x.read();
        due("the others come one behind another", parametersOf(x, 0), "ABC");
        x.sign(-1L);
        x.sign(0L);
        x.sign(Long.MIN_VALUE);
        due("none at all", x.count(0), 0);
    }

    // What is beyond 3000, too.
    private static void beyond3000() {
        String head = "//J JOB\n// EXEC PGM=A\n//D DD DATA\n";
        for (int length = 2990; length <= 3010; length++) {
            JobText x = new JobText();
            load(x, head + "X".repeat(length - head.length()));
            due(length + " signs", x.count(0), Math.min(length, 3000));
        }
        JobText x = new JobText();
        String nearly = head + "X".repeat(2999 - 9 - head.length()) + "\n/*\n//E D";
        load(x, nearly + "D");
        due("the 3000th sign", x.read() + faultList(x), "4");
        load(x, nearly.replace("XX\n", "XXX\n") + "D");
        due("the 3001st sign", x.read() + faultList(x), "-26:5:2:3");
        load(x, "A".repeat(2999));
        x.sign(0x0A42434445464748L);
        due("one of eight signs", x.count(0), 3000);
        x.sign(0x41L);
        due("full", x.count(0), 3000);
        due("one line, for its end is the 3000th", x.read(), -2);
        due("empty then", x.count(0), 0);
        load(x, "\n".repeat(3000));
        due("full again", x.count(0), 3000);
        due("as many lines", x.read(), -3001);
        due("how many faults", x.count(3), 3000);
    }

    // ---- promise 3

    // The text .. is read: how many statements.
    private static void howManyStatements() {
        JobText x = new JobText();
        due("none", x.read(), 0);
        due("comments alone", readOf(x, "//*", "//"), 0);
        due("one", readOf(x, "//J JOB"), 1);
        due("those of procedures too", readOf(x, "//J JOB", "//P PROC", "// SET A=B", "// PEND"), 4);
        due("a continued one is one", readOf(x, "//J JOB A,", "//*", "// B"), 1);
        due("as many as 3000 signs have", readOf(x, joined(new String[] {"//J JOB"}, times(271, "// SET A=B"))), 272);
        due("the last", x.statement(271, 0), 272);
        due("behind the last", x.statement(272, 0), -1);
    }

    // The text (which is empty then).
    private static void theTextIsEmptyThen() {
        JobText x = of("//J JOB");
        due("no sign", x.count(0), 0);
        due("read again", x.read(), 0);
        due("no statement", x.count(2), 0);
        due("no job", x.count(6), 0);
        readOf(x, "X");
        due("behind a fault too", x.count(0), 0);
        due("no fault then", x.read() + x.count(3), 0);
    }

    // -1 minus how many faults it has (at most 30 are listed).
    private static void howManyFaults() {
        for (int n = 1; n <= 32; n++) {
            JobText x = new JobText();
            due(n + " faults", readOf(x, times(n, "X")), -1 - n);
            due("counted", x.count(3), n);
            due("the last that is listed", x.fault(Math.min(n, 30) - 1, 0), Math.min(n, 30));
            due("the one behind", x.fault(Math.min(n, 30), 0), -1);
        }
        JobText x = of(joined(times(30, "X"), "//J JOBB"));
        due("the first ones are listed", x.fault(29, 2), 1);
        readOf(x, joined(times(29, "X"), "//J JOBB", "Y"));
        due("the 30th is", "" + x.fault(29, 0) + x.fault(29, 1) + x.fault(29, 2) + x.fault(29, 3), "30521");
        readOf(x, "Y");
        due("none of the read ahead is left", x.fault(1, 0), -1);
    }

    // A faulty line or statement is not there for what comes.
    private static void notThereForWhatComes() {
        due("a JOB", faultsOf("//J JOB )", "// EXEC PGM=A", "//K JOB"), "1:9:3 2:4:4");
        due("an EXEC", faultsOf("//J JOB", "//S EXEC", "//D DD", "//S EXEC PGM=A", "//D DD"), "2:5:6 3:5:4");
        due("an EXEC that calls", faultsOf("//J JOB", "//S EXEC PGM=A", "//S EXEC P", "//A.B DD"), "3:3:5 4:7:4");
        due("a DD", faultsOf("//J JOB", "// EXEC PGM=A", "//D DD )", "//D DD", "//D DD )", "// DD"), "3:8:3 5:8:3");
        due("a DD ahead of one without a name", faultsOf("//J JOB", "// EXEC PGM=A", "//D DD )", "// DD"), "3:8:3 4:3:5");
        due("another statement behind a DD", faultsOf("//J JOB", "// EXEC PGM=A", "//D DD", "// SET", "// DD"), "4:4:6");
        due("a PROC", faultsOf("//P PROC )", "// SET A=B", "// PEND", "//P PROC", "// PEND"), "1:10:3 2:4:4 3:4:4");
        due("a PEND", faultsOf("//P PROC", "// PEND )", "//Q PROC", "// PEND"), "2:9:3 3:5:4");
        due("an IF", faultsOf("//J JOB", "// IF", "// ELSE", "// ENDIF"), "2:4:6 3:4:4 4:4:4");
        due("an ELSE", faultsOf("//J JOB", "// IF A", "// ELSE )", "// ELSE", "// ENDIF"), "3:9:3");
        due("an ENDIF", faultsOf("//J JOB", "// IF A", "// ENDIF )", "// ELSE", "// ENDIF"), "3:10:3");
    }

    // So is then the text, and the job at hand.
    private static void soIsTheTextAndTheJob() {
        JobText x = of("//J JOB A", "// EXEC PGM=A", "//D DD *", "X");
        due("at hand", "" + x.count(2) + x.count(6), "31");
        due("one fault", readOf(x, "//J JOB A", "// EXEC PGM=A", "//D DD *", "X", "/*", "X"), -2);
        due("no text and no job", "" + x.count(2) + x.count(6), "00");
        due("no statement, parameter or data", x.statement(0, 0) + x.parameter(0, 0, 0) + x.data(2, 0), -3);
        due("no expansion", x.expand(), -2);
        due("a faulty text brings no procedure", readOf(x, "//P PROC", "// PEND", "X") * 10 + x.count(1), -20);
    }

    // A job is AT HAND then; procedures without one (then none is at hand) ..
    private static void aJobAtHandThen() {
        JobText x = of("//J JOB");
        due("a job", x.count(6), 1);
        due("procedures", readOf(x, "//P PROC", "// PEND") + x.count(6), 2);
        due("a job again", readOf(x, "//J JOB") + x.count(6), 2);
        due("an empty text", x.read() + x.count(6), 0);
        due("comments", readOf(x, "//J JOB") + readOf(x, "//*") + x.count(6), 1);
    }

    // .. come to the LIBRARY, in place of those of their names.
    private static void toTheLibrary() {
        JobText x = of("//P PROC", "// EXEC PGM=OLD", "// PEND", "//Q PROC", "// EXEC PGM=Q", "// PEND");
        due("two", x.count(1), 2);
        readOf(x, "//*", "//P PROC", "// EXEC PGM=NEW", "// PEND");
        due("in place", x.count(1), 2);
        readOf(x, "//J JOB", "// EXEC P", "// EXEC Q", "//R PROC", "// PEND");
        due("a job's procedure does not come", x.count(1), 2);
        x.expand();
        due("the new one, and the other", listing(x), "1/1/0/0/0 |2/2/0/1/0 P|3/2/1/1/0 PGM=NEW|3/2/0/1/0 Q|5/2/1/1/0 PGM=Q");
        readOf(x, "//K JOB", "// EXEC R");
        due("the job's procedure is gone", x.expand(), -5);
    }

    private static String[] procedures(int from, int to, String program) {
        String[] all = {};
        for (int i = from; i <= to; i++) {
            all = joined(all, "//P" + i + " PROC", "// EXEC PGM=" + program, "// PEND");
        }
        return all;
    }

    // At most 12: -1, and there is no text, if there would be more.
    private static void atMost12() {
        JobText x = new JobText();
        due("thirteen at once", readOf(x, procedures(1, 13, "A")), -1);
        due("none comes", x.count(1), 0);
        due("twelve at once", readOf(x, procedures(1, 12, "A")), 36);
        due("all come", x.count(1), 12);
        due("twelve in place of twelve", readOf(x, procedures(1, 12, "B")), 36);
        due("twelve", x.count(1), 12);
        due("one more", readOf(x, procedures(13, 13, "C")), -1);
        due("no text", "" + x.count(2) + x.statement(0, 0), "0-1");
        due("no fault", "" + x.count(3) + x.fault(0, 0), "0-1");
        due("one more behind one in place", readOf(x, procedures(12, 13, "C")), -1);
        due("twelve still", x.count(1), 12);
        readOf(x, "//J JOB", "// EXEC P12", "// EXEC P13");
        due("the one more isn't there", x.expand(), -5);
        due("it is the 13th", ringOf(x), "P13");
        readOf(x, "//J JOB", "// EXEC P12", "// EXEC P1");
        x.expand();
        due("the one in place isn't either", lettersOf(x, 2) + lettersOf(x, 4), "PGM=BPGM=B");
        due("none is at hand behind it", readOf(x, procedures(13, 13, "C")) * 10 + x.count(6), -10);
        due("a job with procedures more", readOf(x, joined(joined(new String[] {"//J JOB"}, procedures(13, 20, "D")), "// EXEC P20")), 26);
        due("is at hand", x.expand(), 3);
        x = of(procedures(1, 11, "A"));
        due("two more behind eleven", readOf(x, procedures(12, 13, "A")), -1);
        due("eleven still", x.count(1), 11);
        due("one more behind eleven", readOf(x, procedures(11, 12, "A")), 6);
        due("twelve then", x.count(1), 12);
    }

    // ---- promise 4

    // NONE for others, or without it.
    private static void statementOrNone() {
        JobText x = of("//J JOB A,B=C,D", "// EXEC P", "//S.DD1 DD *", "X", "X");
        due("of the first", tell(x, 0), "1 1 3 2 1 0");
        due("of the second", tell(x, 1), "2 2 1 1 0 0");
        due("of the last", tell(x, 2), "3 3 1 1 5 2");
        for (int far : FAR) {
            due("statement " + far, x.statement(far, 0) + x.statement(far, 5), -2);
            due("what " + far, x.statement(0, far), -1);
        }
        due("what 6", x.statement(0, 6), -1);
        due("behind the last", x.statement(3, 0), -1);
        x.read();
        due("without a text", x.statement(0, 0), -1);
    }

    private static String tell(JobText x, int i) {
        return x.statement(i, 0) + " " + x.statement(i, 1) + " " + x.statement(i, 2) + " " + x.statement(i, 3) + " " + x.statement(i, 4) + " " + x.statement(i, 5);
    }

    // ---- promise 5

    // The k-th sign of a parameter .., with its key; NONE without one.
    private static void parameterOrNone() {
        JobText x = of("//J JOB A,,KEY=V,L=,", "// ABCDEFGH=" + THIRTY + ",", "// " + THIRTY, "// EXEC PGM=X");
        due("the first and last sign by place", "" + (char) x.parameter(0, 0, 0) + x.parameter(0, 0, 1), "A-1");
        due("an empty one", x.parameter(0, 1, 0), -1);
        due("with its key", "" + (char) x.parameter(0, 2, 0) + (char) x.parameter(0, 2, 3) + (char) x.parameter(0, 2, 4) + x.parameter(0, 2, 5), "K=V-1");
        due("an empty one with its key", "" + (char) x.parameter(0, 3, 0) + (char) x.parameter(0, 3, 1) + x.parameter(0, 3, 2), "L=-1");
        due("the longest", parameterOf(x, 0, 4), "ABCDEFGH=" + THIRTY);
        due("its last sign", "" + (char) x.parameter(0, 4, 38) + x.parameter(0, 4, 39), "4-1");
        due("the longest by place", "" + (char) x.parameter(0, 5, 29) + x.parameter(0, 5, 30), "4-1");
        due("behind the last parameter", x.parameter(0, 6, 0), -1);
        due("which is not the next statement's", x.parameter(1, 1, 0) + x.parameter(1, -1, 0), -2);
        for (int far : FAR) {
            due("statement " + far, x.parameter(far, 0, 0), -1);
            due("which " + far, x.parameter(0, far, 0), -1);
            due("k " + far, x.parameter(0, 0, far) + x.parameter(0, 2, far) + x.parameter(0, 4, far), -3);
        }
        due("behind the last statement", x.parameter(2, 0, 0), -1);
        due("without parameters", of("//J JOB").parameter(0, 0, 0), -1);
    }

    // ---- promise 6

    // The line of the k-th line of data of the i-th statement; NONE without one.
    private static void dataOrNone() {
        JobText x = of("//J JOB", "// EXEC PGM=A", "//D DD *", "X", "X", "/*", "//E DD DATA", "//X", "/*", "//F DD *", "/*", "//G DD");
        due("of a *", dataOf(x, 2), "4 5");
        due("of DATA", dataOf(x, 3), "8");
        due("none", x.data(4, 0) + x.data(5, 0) + x.data(0, 0) + x.data(1, 0), -4);
        due("behind the last", x.data(2, 2) + x.data(3, 1), -2);
        due("behind the last statement", x.data(6, 0), -1);
        for (int far : FAR) {
            due("statement " + far, x.data(far, 0), -1);
            due("k " + far, x.data(2, far) + x.data(3, far), -2);
        }
    }

    // ---- promise 7

    // Of the i-th fault of the latest read(), by lines: .. NONE for others, or without it.
    private static void faultOrNone() {
        JobText x = of("//J JOB", "X", "//K  EXE PGM=A", "// IF A", "// SET A=B,");
        due("line, column, kind, nearest", told(x, 0) + "|" + told(x, 1) + "|" + told(x, 2) + "|" + told(x, 3), "2 1 1 0|3 6 2 2|5 1 3 0|5 1 4 0");
        due("behind the last", x.fault(4, 0), -1);
        due("what 4", x.fault(0, 4), -1);
        for (int far : FAR) {
            due("fault " + far, x.fault(far, 0) + x.fault(far, 3), -2);
            due("what " + far, x.fault(0, far), -1);
        }
        readOf(x, "//J JOB");
        due("without a fault", x.fault(0, 0) + x.fault(0, 3), -2);
        x.expand();
        due("expand lists none", x.fault(0, 0), -1);
        readOf(x, "X");
        x.expand();
        due("the latest read's stay behind expand", told(x, 0), "1 1 1 0");
    }

    private static String told(JobText x, int i) {
        return x.fault(i, 0) + " " + x.fault(i, 1) + " " + x.fault(i, 2) + " " + x.fault(i, 3);
    }

    // .. the operation that is nearest: with the most signs alike at the beginning, the first of several (0 for other faults).
    private static void nearestOperation() {
        String[] words = {"Q", "J", "JO", "JOBS", "E", "EX", "EXE", "EXECS", "EN", "END", "ENDIFS", "EL", "ELS", "ELSES", "D", "DX", "DDS", "P", "PR", "PRO", "PROCS", "PE", "PEN", "PENDS", "S", "SE", "SETS", "I", "IX", "IFS", "OB", "XEC", "1", "ABCDEFGHIJKLMNOPQRSTUVWXYZ"};
        int[] nearest = {1, 1, 1, 1, 2, 2, 2, 2, 9, 9, 9, 8, 8, 8, 3, 3, 3, 4, 4, 4, 4, 5, 5, 5, 6, 6, 6, 7, 7, 7, 1, 1, 1, 1};
        for (int i = 0; i < words.length; i++) {
            due("nearest to " + words[i], of("// " + words[i]).fault(0, 3), nearest[i]);
        }
        due("of other faults", told(of("X"), 0) + "|" + told(of("//1 EXE"), 0) + "|" + told(of("//A.B EXE"), 0) + "|" + told(of("// JOB )"), 0) + "|" + told(of("// EXEC PGM=A"), 0) + "|" + told(of("// JOB"), 0) + "|" + told(of("//J JOB", "// SET"), 0),
            "1 1 1 0|1 3 2 0|1 3 2 0|1 8 3 0|1 4 4 0|1 3 5 0|2 4 6 0");
    }

    // ---- promise 8

    // How many lines. Statements come in their order, but PROC to PEND and SET.
    private static void linesInTheirOrder() {
        due("a job alone", linesOf("//J JOB"), "1/1/0/0/0 ");
        due("all but PROC to PEND and SET", linesOf("//J JOB A", "// SET A=B", "//P PROC", "// EXEC PGM=A", "// PEND", "// IF A", "// EXEC PGM=B", "//D DD", "// ELSE", "// ENDIF"), "1/1/0/1/0 A|6/7/0/1/0 A|7/2/0/1/0 PGM=B|8/3/0/0/0 |9/8/0/0/0 |10/9/0/0/0 ");
        due("an empty procedure", linesOf("//J JOB", "//P PROC", "// PEND", "// EXEC P", "// EXEC PGM=A"), "1/1/0/0/0 |4/2/0/1/0 P|5/2/0/1/0 PGM=A");
        due("a procedure behind its call", linesOf("//J JOB", "// EXEC P", "//P PROC", "// EXEC PGM=A", "// PEND"), "1/1/0/0/0 |2/2/0/1/0 P|4/2/1/1/0 PGM=A");
        JobText x = of("//J JOB", "// EXEC PGM=&A");
        due("again and again", x.expand() + x.expand() + x.expand(), 6);
        due("the same lines", listing(x), "1/1/0/0/0 |2/2/0/1/0 PGM=");
    }

    // Behind an EXEC that calls (after the DDs that are its next statements there, PROC to PEND aside, which are OVERRIDES) the procedure's statements.
    private static void overridesAreTheNext() {
        String[] head = {"//J JOB", "//P PROC", "// EXEC PGM=A", "// PEND", "// EXEC P"};
        due("none", linesOf(joined(head, "// EXEC PGM=B", "//D DD")), "1/1/0/0/0 |5/2/0/1/0 P|3/2/1/1/0 PGM=A|6/2/0/1/0 PGM=B|7/3/0/0/0 ");
        due("at the end", linesOf(joined(head, "//D DD")), "1/1/0/0/0 |5/2/0/1/0 P|3/2/1/1/0 PGM=A|6/3/1/0/1 ");
        due("PROC to PEND aside", linesOf(joined(head, "//Q PROC", "// EXEC PGM=Q", "//Q DD", "// PEND", "//D DD", "//R PROC", "// PEND", "//E DD")), "1/1/0/0/0 |5/2/0/1/0 P|3/2/1/1/0 PGM=A|10/3/1/0/1 |13/3/1/0/1 ");
        for (String between : new String[] {"// SET A=B", "// IF A", "// EXEC PGM=B"}) {
            String end = between.equals("// IF A") ? "// ENDIF" : "//";
            String listed = linesOf(joined(head, "//D DD 1", between, "//E DD 2", end));
            due("up to " + between, listed.startsWith("1/1/0/0/0 |5/2/0/1/0 P|3/2/1/1/0 PGM=A|6/3/1/1/1 1|") && listed.contains("8/3/0/1/0 2"), true);
        }
        due("comments and data aside", linesOf(joined(head, "//D DD *", "X", "/*", "//*", "//E DD")), "1/1/0/0/0 |5/2/0/1/0 P|3/2/1/1/0 PGM=A|6/3/1/1/1 *|10/3/1/0/1 ");
        due("behind one that runs a program they are no overrides", linesOf("//J JOB", "// EXEC PGM=A", "//D DD"), "1/1/0/0/0 |2/2/0/1/0 PGM=A|3/3/0/0/0 ");
        due("the procedure's last DDs are not the job's", linesOf("//J JOB", "//P PROC", "// EXEC Q", "// PEND", "//Q PROC", "// EXEC PGM=A", "// PEND", "// EXEC P"), "1/1/0/0/0 |8/2/0/1/0 P|3/2/1/1/0 Q|6/2/2/1/0 PGM=A");
    }

    // .. the procedure's statements: one of the text ahead of the library's.
    private static void textAheadOfLibrary() {
        JobText x = of("//P PROC", "// EXEC PGM=LIB", "// PEND", "//Q PROC", "// EXEC P", "// PEND");
        readOf(x, "//J JOB", "// EXEC Q", "//P PROC", "// EXEC PGM=TEXT", "// PEND");
        x.expand();
        due("also for the library's", listing(x), "1/1/0/0/0 |2/2/0/1/0 Q|5/2/1/1/0 P|4/2/2/1/0 PGM=TEXT");
        readOf(x, "//J JOB", "// EXEC Q");
        x.expand();
        due("the library's without one", listing(x), "1/1/0/0/0 |2/2/0/1/0 Q|5/2/1/1/0 P|2/2/2/1/0 PGM=LIB");
        readOf(x, "//P PROC", "// EXEC PGM=LATER", "// PEND");
        due("the job is not at hand any more", x.expand(), -2);
    }

    private static String set(String value) {
        return expandedLetters("//J JOB", "// SET A=1,AB=2,ABCDEFGH=3", "// EXEC PGM=" + value).substring(4);
    }

    // In values & and a name (as long as it goes) are a SYMBOL, replaced by its value, a point at once behind it too.
    private static void symbolsAsLongAsTheyGo() {
        String[] values = {"&A", "&AB", "&ABC", "&A.B", "&A..B", "&A...", "&A-B", "&ABCDEFGH", "&ABCDEFGHI", "&ABCDEFGH.I", "&ABCDEFGH..", "&A&A", "&A.&A", "&&A", "&A&", "&", "&.", "&1", "&a", "&-A", "X&A", "X&AX", "(&A,K=&AB)", "'&A. &A'", "&A(B)", "&A'B'", ".&A", "&&", "A&.B"};
        String[] want = {"1", "2", "", "1B", "1.B", "1..", "1-B", "3", "3I", "3I", "3.", "11", "11", "&1", "1&", "&", "&.", "&1", "&a", "&-A", "X1", "X", "(1,K=2)", "'1 1'", "1(B)", "1'B'", ".1", "&&", "A&.B"};
        for (int i = 0; i < values.length; i++) {
            due("symbols in " + values[i], set(values[i]), want[i]);
        }
        due("of each operation but SET and PROC", expandedLetters("//J JOB", "// SET A=1", "// IF (&A),K=&A", "// EXEC PGM=&A", "//D DD &A,K=&A", "// ELSE &A", "// ENDIF &A"), "(1),K=1|PGM=1|1,K=1|1|1");
        JobText x = of("//J JOB &A,K='&B'");
        due("of the JOB", x.expand() + lettersOf(x, 0) + x.count(5), "1,K=''2");
        due("what replaces is not looked at again", expandedLetters("//J JOB", "// SET A='&',B=B", "// SET C='&A.B'", "// EXEC PGM=&C"), "PGM=&B");
    }

    // In a procedure by that of the key of the EXEC that called it (not PGM, PROC; the first of several; as it is replaced there),
    // else by that of PROC's key, as it stands; else, and in the job, by the latest SET's.
    private static void symbolsOfExecProcAndSet() {
        String[] head = {"//J JOB", "// SET A=S,B=S,C=S", "//P PROC A=R,B=R,D=R", "// EXEC PGM=&A&B&C&D&E", "// PEND"};
        due("each", expandedLetters(joined(head, "// EXEC P,A=X,E=X")), "P,A=X,E=X|PGM=XRSRX");
        due("an empty one is one", expandedLetters(joined(head, "// EXEC P,A=,D=,C=")), "P,A=,D=,C=|PGM=R");
        due("the first of several", expandedLetters(joined(head, "// EXEC P,A=1,A=2,D=3,D=4")), "P,A=1,A=2,D=3,D=4|PGM=1RS3");
        due("as it is replaced there", expandedLetters(joined(head, "// EXEC P,A=&B,B=&A&D")), "P,A=S,B=S|PGM=SSSR");
        due("in the job by SET's alone", expandedLetters(joined(head, "// EXEC P,A=1", "// EXEC PGM=&A&D")), "P,A=1|PGM=1RSR|PGM=S");
        due("not by the JOB's keys", outcomeOf("//J JOB A=1", "// EXEC PGM=&A") + expandedLetters("//J JOB A=1", "//P PROC", "// EXEC PGM=&A", "// PEND", "// EXEC P"), "2 1 P|PGM=");
        String[] special = {"//J JOB", "//P PROC", "// EXEC PGM=A&PGM&PROC", "// PEND"};
        due("not PROC", expandedLetters(joined(special, "// EXEC PROC=P")), "PROC=P|PGM=A");
        due("but PROC's keys PGM and PROC", expandedLetters("//J JOB", "//P PROC PGM=1,PROC=2", "// EXEC PGM=A&PGM&PROC", "// PEND", "// EXEC PROC=P"), "PROC=P|PGM=A12");
        due("and SET's", expandedLetters(joined(special, "// SET PGM=3,PROC=4", "// EXEC PROC=P")), "PROC=P|PGM=A34");
        due("PROC's as it stands", expandedLetters("//J JOB", "// SET A=1,B=2", "//P PROC A=&B", "// EXEC PGM=&A", "// PEND", "// EXEC P"), "P|PGM=&B");
        due("the first of PROC's", expandedLetters("//J JOB", "//P PROC A=1,A=2", "// EXEC PGM=&A", "// PEND", "// EXEC P"), "P|PGM=1");
        due("of the EXEC that called it, not of one ahead", expandedLetters("//J JOB", "//P PROC A=1", "// EXEC Q", "// EXEC Q,A=&A.3", "// PEND", "//Q PROC", "// EXEC PGM=&A", "// PEND", "// EXEC P,A=2"), "P,A=2|Q|PGM=|Q,A=23|PGM=23");
        due("its own again behind a call", expandedLetters("//J JOB", "//P PROC A=1", "// EXEC Q,A=3", "// EXEC PGM=&A", "// PEND", "//Q PROC", "// PEND", "// EXEC P,A=2"), "P,A=2|Q,A=3|PGM=2");
        due("by place it is no key", expandedLetters("//J JOB", "//P PROC", "// EXEC PGM=&A&P", "// PEND", "// EXEC P,A"), "P,A|PGM=");
    }

    // .. by the latest SET's that was passed (replaced there; all of a SET at once).
    private static void symbolsOfSets() {
        due("ahead of it", expandedLetters("//J JOB", "// EXEC PGM=&A", "// SET A=1"), "PGM=");
        due("the latest", expandedLetters("//J JOB", "// SET A=1,B=2", "// SET A=3", "// EXEC PGM=&A&B"), "PGM=32");
        due("an empty one", expandedLetters("//J JOB", "// SET A=1", "// SET A=", "// EXEC PGM=&A"), "PGM=");
        due("replaced there", expandedLetters("//J JOB", "// SET A=1", "// SET B=&A", "// SET A=2", "// EXEC PGM=&A&B"), "PGM=21");
        due("of itself", expandedLetters("//J JOB", "// SET A=1", "// SET A=&A&A", "// SET A=&A&A", "// EXEC PGM=&A"), "PGM=1111");
        due("all at once", expandedLetters("//J JOB", "// SET A=1,B=&A", "// SET A=2,B=&A,C=&B", "// EXEC PGM=(&A,&B,&C)"), "PGM=(2,1,)");
        due("one in a procedure that is not called", expandedLetters("//J JOB", "//P PROC", "// SET A=1", "// PEND", "// EXEC PGM=&A"), "PGM=");
        due("one in a procedure that was called", expandedLetters("//J JOB", "//P PROC B=1", "// SET A=&B&C", "// PEND", "// EXEC P,C=2", "// EXEC PGM=&A"), "P,C=2|PGM=12");
        due("one in an IF", expandedLetters("//J JOB", "// IF A", "// SET A=1", "// ELSE", "// SET A=2", "// ENDIF", "// EXEC PGM=&A"), "A|||PGM=2");
        due("ten keys", expandedLetters("//J JOB", "// SET A=0,B=1,C=2,D=3,E=4,F=5,G=6,H=7,I=8,J=9", "// EXEC PGM=&J&I&H&G&F&E&D&C&B&A"), "PGM=9876543210");
        JobText x = of("//J JOB", "// EXEC PGM=&A", "// SET A=1");
        x.expand();
        x.expand();
        due("none is left of the expansion ahead", lettersOf(x, 1) + x.count(5), "PGM=1");
    }

    // .. else by nothing (MISSING).
    private static void symbolsMissing() {
        due("none", outcomeOf("//J JOB", "// SET A=", "// EXEC PGM=&A&A"), "2 0 ");
        due("each of them", outcomeOf("//J JOB", "// EXEC PGM=&A&A.&B,K=&A"), "2 4 ");
        due("in a SET", outcomeOf("//J JOB", "// SET A=&A,B=&A"), "1 2 ");
        due("in the JOB", outcomeOf("//J JOB &A"), "1 1 ");
        due("not in a PROC", outcomeOf("//J JOB", "//P PROC A=&B", "// PEND", "// EXEC P"), "2 0 ");
        due("not in what isn't called", outcomeOf("//J JOB", "//P PROC", "// EXEC PGM=&A", "// PEND"), "1 0 ");
        due("as often as it is called", outcomeOf("//J JOB", "//P PROC", "// EXEC PGM=&A", "// PEND", "// EXEC P", "// EXEC P"), "5 2 ");
        due("in an override", outcomeOf("//J JOB", "//P PROC", "// EXEC PGM=A", "//D DD &A", "// PEND", "// EXEC P", "//D DD &B", "//E DD &C"), "5 3 ");
        due("& alone is none", outcomeOf("//J JOB &,&1,&&"), "1 0 ");
        due("up to where it fails", outcomeOf("//J JOB &A", "// EXEC NONE,B=&B", "//D DD &C", "// EXEC PGM=&D"), "-5 3 NONE");
    }

    // A value that is all between two ' counts without them, its doubled ones as one.
    private static void valuesBetweenQuotes() {
        String[] values = {"''", "'A'", "'A B'", "''''", "''''''", "'A''B'", "'''A'", "'A'''", "(''),B=2", "A''", "''A"};
        String[] want = {"", "A", "A B", "'", "''", "A'B", "'A", "A'", "('')", "A''", "''A"};
        for (int i = 0; i < values.length; i++) {
            due("SET of " + values[i], expandedLetters("//J JOB", "// SET A=" + values[i], "// EXEC PGM=<&A>"), "PGM=<" + want[i] + ">");
            due("EXEC of " + values[i], expandedLetters("//J JOB", "//P PROC", "// EXEC PGM=<&A>", "// PEND", "// EXEC P,A=" + values[i]), "P,A=" + values[i] + "|PGM=<" + want[i] + ">");
            due("PROC of " + values[i], expandedLetters("//J JOB", "//P PROC A=" + values[i], "// EXEC PGM=<&A>", "// PEND", "// EXEC P"), "P|PGM=<" + want[i] + ">");
        }
        due("one alone is not between two", expandedLetters("//J JOB", "// SET A=''''", "// SET B=&A", "// EXEC PGM=<&B>"), "PGM=<'>");
        due("a line's own stay", expandedLetters("//J JOB", "// EXEC PGM='A''B'"), "PGM='A''B'");
        due("as it is replaced", expandedLetters("//J JOB", "// SET A='X Y'", "// SET B='&A'", "// EXEC PGM='&B'"), "PGM='X Y'");
    }

    private static final String[] TWO_STEPS = {"//J JOB", "//P PROC", "//R EXEC Q", "//S EXEC PGM=S", "//D DD 1,K=1", "//T EXEC PGM=T", "//D DD 2,K=2", "//E DD", "// PEND", "//Q PROC", "//U EXEC PGM=U", "// PEND", "// EXEC P"};

    /** The lines of the steps S and T only. */
    private static String steps(String... overrides) {
        String all = linesOf(joined(TWO_STEPS, overrides));
        return all.contains("|4/2") ? all.substring(all.indexOf("|4/2") + 1) : all;
    }

    // An override D or S.D changes DD D of the procedure's step S that runs a program (without S of the first one that does).
    private static void overrideOfWhichStep() {
        due("none", steps(), "4/2/1/1/0 PGM=S|5/3/1/2/0 1,K=1|6/2/1/1/0 PGM=T|7/3/1/2/0 2,K=2|8/3/1/0/0 ");
        due("without S", steps("//D DD X"), "4/2/1/1/0 PGM=S|5/3/1/2/1 X,K=1|6/2/1/1/0 PGM=T|7/3/1/2/0 2,K=2|8/3/1/0/0 ");
        due("the first", steps("//S.D DD X"), "4/2/1/1/0 PGM=S|5/3/1/2/1 X,K=1|6/2/1/1/0 PGM=T|7/3/1/2/0 2,K=2|8/3/1/0/0 ");
        due("the second", steps("//T.D DD X"), "4/2/1/1/0 PGM=S|5/3/1/2/0 1,K=1|6/2/1/1/0 PGM=T|7/3/1/2/1 X,K=2|8/3/1/0/0 ");
        due("both", steps("//T.D DD X", "//D DD Y"), "4/2/1/1/0 PGM=S|5/3/1/2/1 Y,K=1|6/2/1/1/0 PGM=T|7/3/1/2/1 X,K=2|8/3/1/0/0 ");
        due("a name of the second alone, without S", steps("//E DD X"), "4/2/1/1/0 PGM=S|5/3/1/2/0 1,K=1|14/3/1/1/1 X|6/2/1/1/0 PGM=T|7/3/1/2/0 2,K=2|8/3/1/0/0 ");
        due("a step without a name", linesOf("//J JOB", "//P PROC", "// EXEC PGM=A", "//D DD", "// PEND", "// EXEC P", "//D DD X"), "1/1/0/0/0 |6/2/0/1/0 P|3/2/1/1/0 PGM=A|4/3/1/1/1 X");
    }

    // .. an EXEC that calls (after the DDs that are its next statements there ..): they are overrides of that call and of no other.
    private static void overridesOfThatCall() {
        String[] head = {"//J JOB", "//P PROC", "//S EXEC PGM=A", "//D DD 1", "// PEND", "//Q PROC", "//T EXEC PGM=B", "// PEND", "// EXEC P"};
        String plain = "/2/0/1/0 P|3/2/1/1/0 PGM=A|4/3/1/1/0 1";
        due("a change", linesOf(joined(head, "//D DD 2", "// EXEC P")), "1/1/0/0/0 |9/2/0/1/0 P|3/2/1/1/0 PGM=A|4/3/1/1/1 2|11" + plain);
        due("one that is added", linesOf(joined(head, "//X DD 2", "//Y DD 3", "// EXEC P")), "1/1/0/0/0 |9/2/0/1/0 P|3/2/1/1/0 PGM=A|4/3/1/1/0 1|10/3/1/1/1 2|11/3/1/1/1 3|12" + plain);
        due("one of a step that another procedure has not", linesOf(joined(head, "//S.D DD 2", "// EXEC Q")), "1/1/0/0/0 |9/2/0/1/0 P|3/2/1/1/0 PGM=A|4/3/1/1/1 2|11/2/0/1/0 Q|7/2/1/1/0 PGM=B");
        due("its missing symbols", outcomeOf(joined(head, "//D DD &A", "//E DD &B", "// EXEC P", "// EXEC P", "//E DD &B")), "12 3 ");
        String[] nested = {"//J JOB", "//P PROC", "// EXEC Q", "//X DD 7", "// EXEC Q", "//Y DD 8", "//S EXEC PGM=A", "//D DD 1", "// PEND", "//Q PROC", "//T EXEC PGM=B", "// PEND", "// EXEC P", "//D DD 2", "//E DD 3"};
        due("it stays over calls in the procedure", linesOf(nested), "1/1/0/0/0 |13/2/0/1/0 P|3/2/1/1/0 Q|11/2/2/1/0 PGM=B|4/3/2/1/1 7|5/2/1/1/0 Q|11/2/2/1/0 PGM=B|6/3/2/1/1 8|7/2/1/1/0 PGM=A|8/3/1/1/1 2|15/3/1/1/1 3");
    }

    private static String merged(String dd, String override) {
        JobText x = of("//J JOB", "//P PROC", "//S EXEC PGM=A", "//D DD " + dd, "// PEND", "// EXEC P", "//D DD " + override);
        int n = x.expand();
        return n != 4 ? "" + n : x.at(3, 3) + " " + lettersOf(x, 3);
    }

    // Its parameters by place, if there are some, take the place of all such, those by key of those of their keys (the first of several of a key), or come behind (all by place ahead of all by key then).
    private static void overrideOfParameters() {
        String[] dds = {"", "A", "A,B", "A,B", "K=1", "K=1", "K=1", "A,K=1", "A,K=1,B", "K=1,A", "K=1,K=2", "K=1,L=2", "K=1,L=2", "A,K=1", "K=1,A,L=2,B", "A", "K=1", "", "", "A,B,C", "A,B"};
        String[] overrides = {"", "", "X", "X,Y,Z", "X", "K=9", "L=9", "", "", "K=2", "K=9", "L=9", "M=9,K=8", "X,K=9", "L=9,X", ",X", "K=", "X", "L=9,X,K=8", ",X", "''"};
        String[] want = {"0 ", "1 A", "1 X", "3 X,Y,Z", "2 X,K=1", "1 K=9", "2 K=1,L=9", "2 A,K=1", "3 A,B,K=1", "2 A,K=2", "2 K=9,K=2", "2 K=1,L=9", "3 K=8,L=2,M=9", "2 X,K=9", "3 X,K=1,L=9", "2 ,X", "1 K=", "1 X", "3 X,L=9,K=8", "2 ,X", "1 ''"};
        for (int i = 0; i < dds.length; i++) {
            due(dds[i] + " by " + overrides[i], merged(dds[i], overrides[i]), want[i]);
        }
        due("a key twice, of one that is there", merged("K=1,K=2", "K=8,K=9"), "2 K=9,K=2");
        due("a key twice, of none that is there", merged("A", "K=8,L=7,K=9"), "3 A,K=9,L=7");
        due("a key twice, added", steps("//T.X DD K=8,K=9"), "4/2/1/1/0 PGM=S|5/3/1/2/0 1,K=1|6/2/1/1/0 PGM=T|7/3/1/2/0 2,K=2|8/3/1/0/0 |14/3/1/2/1 K=8,K=9");
        due("two of one DD, one behind another", linesOf("//J JOB", "//P PROC", "//S EXEC PGM=A", "//D DD A,K=1", "// PEND", "// EXEC P", "//D DD B,K=2,L=3", "//S.D DD L=4,C"), "1/1/0/0/0 |6/2/0/1/0 P|3/2/1/1/0 PGM=A|4/3/1/3/1 C,K=2,L=4");
    }

    // A D that isn't there (also one without a name) comes behind the step's last DD (behind the EXEC without one).
    private static void overrideThatIsAdded() {
        due("behind the last DD", steps("//X DD 9,K=8,7"), "4/2/1/1/0 PGM=S|5/3/1/2/0 1,K=1|14/3/1/3/1 9,K=8,7|6/2/1/1/0 PGM=T|7/3/1/2/0 2,K=2|8/3/1/0/0 ");
        due("behind the last of several", steps("//T.X DD"), "4/2/1/1/0 PGM=S|5/3/1/2/0 1,K=1|6/2/1/1/0 PGM=T|7/3/1/2/0 2,K=2|8/3/1/0/0 |14/3/1/0/1 ");
        due("one without a name", steps("//D DD X", "// DD Y", "// DD Z"), "4/2/1/1/0 PGM=S|5/3/1/2/1 X,K=1|15/3/1/1/1 Y|16/3/1/1/1 Z|6/2/1/1/0 PGM=T|7/3/1/2/0 2,K=2|8/3/1/0/0 ");
        due("one without a name where one is there", linesOf("//J JOB", "//P PROC", "//S EXEC PGM=A", "//D DD", "// DD 1", "// PEND", "// EXEC P", "//D DD", "// DD 2"), "1/1/0/0/0 |7/2/0/1/0 P|3/2/1/1/0 PGM=A|4/3/1/0/1 |5/3/1/1/0 1|9/3/1/1/1 2");
        due("behind the EXEC without one", linesOf("//J JOB", "//P PROC", "//S EXEC PGM=A", "// IF A", "// ENDIF", "// PEND", "// EXEC P", "//D DD X", "//S.E DD Y"), "1/1/0/0/0 |7/2/0/1/0 P|3/2/1/1/0 PGM=A|8/3/1/1/1 X|9/3/1/1/1 Y|4/7/1/1/0 A|5/9/1/0/0 ");
        due("behind a last DD in an IF", linesOf("//J JOB", "//P PROC", "//S EXEC PGM=A", "//D DD", "// IF A", "//E DD", "// ENDIF", "// PEND", "// EXEC P", "//F DD X"), "1/1/0/0/0 |9/2/0/1/0 P|3/2/1/1/0 PGM=A|4/3/1/0/0 |5/7/1/1/0 A|6/3/1/0/0 |10/3/1/1/1 X|7/9/1/0/0 ");
        due("the same that isn't there twice", steps("//X DD 1", "//S.X DD 2"), "4/2/1/1/0 PGM=S|5/3/1/2/0 1,K=1|14/3/1/1/1 1|15/3/1/1/1 2|6/2/1/1/0 PGM=T|7/3/1/2/0 2,K=2|8/3/1/0/0 ");
        due("an override in a procedure", linesOf("//J JOB", "//P PROC", "//R EXEC Q", "//X DD &A", "// PEND", "//Q PROC", "//U EXEC PGM=U", "// PEND", "// EXEC P,A=1"), "1/1/0/0/0 |9/2/0/2/0 P,A=1|3/2/1/1/0 Q|7/2/2/1/0 PGM=U|4/3/2/1/1 1");
    }

    // Without a job at hand -2, and all stays.
    private static void withoutAJob() {
        JobText x = of("//P PROC", "// PEND");
        due("behind procedures", x.expand(), -2);
        due("all stays", "" + x.count(0) + x.count(1) + x.count(2) + x.count(3) + x.count(4) + x.count(5) + x.count(6), "0120000");
        readOf(x, "//J JOB &A", "// EXEC P");
        x.expand();
        String lines = listing(x);
        for (String text : new String[] {"//Q PROC\n// PEND\n", "X\n", "//*\n", ""}) {
            load(x, text);
            x.read();
            due("without one", x.expand(), -2);
            due("the lines stay", listing(x), lines);
            due("counts stay", "" + x.count(4) + x.count(5) + ringOf(x), "21");
        }
        readOf(x, "//J JOB", "// EXEC NONE");
        x.expand();
        x.read();
        due("without one", x.expand(), -2);
        due("the name stays", ringOf(x) + x.count(4), "NONE0");
        load(x, "//");
        due("without one, with signs", x.expand(), -2);
        due("the signs stay", x.count(0), 2);
    }

    // NONE a procedure that is being expanded already is called (a ring).
    private static void ring1() {
        due("of one", outcomeOf("//J JOB", "//P PROC", "// EXEC P", "// PEND", "// EXEC P"), "-1 0 P");
        due("of two", outcomeOf("//J JOB", "//P PROC", "// EXEC Q", "// PEND", "//Q PROC", "// EXEC P", "// PEND", "// EXEC P"), "-1 0 P");
        due("of two, entered by the other", outcomeOf("//J JOB", "//P PROC", "// EXEC Q", "// PEND", "//Q PROC", "// EXEC P", "// PEND", "// EXEC Q"), "-1 0 Q");
        due("behind one that is in none", outcomeOf("//J JOB", "//P PROC", "// EXEC Q", "// PEND", "//Q PROC", "// EXEC R", "// PEND", "//R PROC", "// EXEC Q", "// PEND", "// EXEC P"), "-1 0 Q");
        due("twice, one behind another, is none", outcomeOf("//J JOB", "//P PROC", "// EXEC Q", "// EXEC Q", "// PEND", "//Q PROC", "// PEND", "// EXEC P", "// EXEC Q"), "5 0 ");
        due("a call that has ended is none", outcomeOf("//J JOB", "//P PROC", "// PEND", "//Q PROC", "// EXEC P", "// PEND", "// EXEC P", "// EXEC Q", "// EXEC P"), "5 0 ");
        due("no call, no ring", outcomeOf("//J JOB", "//P PROC", "// EXEC P", "// PEND"), "1 0 ");
        due("a step that runs a program of its name", outcomeOf("//J JOB", "//P PROC", "// EXEC P,PGM=P,PROC=P", "// PEND", "// EXEC P"), "3 0 ");
        JobText x = of("//P PROC", "// EXEC Q", "// PEND");
        readOf(x, "//J JOB", "// EXEC P", "//Q PROC", "// EXEC P", "// PEND");
        due("of the text and the library", x.expand() + ringOf(x), "-1P");
        x = of("//Q PROC", "// EXEC P", "// PEND", "//P PROC", "// EXEC Q", "// PEND");
        readOf(x, "//J JOB", "// EXEC Q", "//P PROC", "// PEND");
        due("none, for the text's is ahead", x.expand() + ringOf(x), "3");
    }

    private static String[] hundred(int more) {
        return joined(new String[] {"//J JOB", "//P PROC", "// EXEC PGM=A", "// EXEC PGM=A", "// EXEC PGM=A", "// EXEC PGM=A", "// PEND", "// SET A=B"}, joined(times(19, "// EXEC P"), times(4 + more, "// EXEC PGM=B")));
    }

    // -3 more than 100 lines.
    private static void moreThan100Lines() {
        due("100", expandOf(hundred(0)), 100);
        due("101", expandOf(hundred(1)), -3);
        due("99", expandOf(hundred(-1)), 99);
        due("SET and PROC to PEND are none", expandOf(joined(hundred(0), "// SET A=B", "//Q PROC", "// EXEC PGM=A", "// PEND", "// SET A=C")), 100);
        due("an IF", expandOf(joined(hundred(0), "// IF A", "// ENDIF")), -3);
        due("a DD", expandOf(joined(hundred(0), "//D DD")), -3);
        due("an EXEC that calls", expandOf(joined(hundred(0), "// EXEC P")), -3);
        due("an EXEC that calls what isn't there", expandOf(joined(hundred(0), "// EXEC NONE")), -3);
        due("an EXEC that calls what isn't there as the 100th", expandOf(joined(hundred(-1), "// EXEC NONE")), -5);
        due("a procedure's line", expandOf(joined(hundred(-1), "// EXEC P")), -3);
        due("an empty procedure", expandOf(joined(hundred(-1), "//Q PROC", "// PEND", "// EXEC Q")), 100);
        String[] added = {"//Q PROC", "// EXEC PGM=A", "// PEND", "// EXEC Q", "//D DD"};
        due("a line added as the 100th", expandOf(joined(hundred(-3), added)), 100);
        due("a line added as the 101st", expandOf(joined(hundred(-2), added)), -3);
        String[] changed = {"//Q PROC", "// EXEC PGM=A", "//D DD", "// PEND", "// EXEC Q", "//D DD X"};
        due("a line changed as the 100th", expandOf(joined(hundred(-3), changed)), 100);
        due("a line changed as the 101st", expandOf(joined(hundred(-2), changed)), -3);
        JobText x = of(hundred(0));
        due("100 again", x.expand() + x.expand(), 200);
        due("the 100th line", lettersOf(x, 99) + x.at(99, 0), "PGM=B31");
        due("no line behind", x.at(100, 0) + x.letter(100, 0), -2);
        x = of(chain(98, "// SET A=B"));
        due("98 calls within one another", x.expand(), 100);
        due("the last one's depth", x.at(99, 2), 98);
        due("a line more in the last one", expandOf(chain(98, "// EXEC PGM=A")), -3);
    }

    /** A job and calls within one another: as many procedures, the last one with a line of its own. */
    private static String[] chain(int calls, String last) {
        String[] all = {"//J JOB", "// EXEC " + chained(0)};
        for (int i = 0; i < calls; i++) {
            all = joined(all, "//" + chained(i) + " PROC", "// EXEC " + chained(i + 1), "// PEND");
        }
        return joined(all, "//" + chained(calls) + " PROC", last, "// PEND");
    }

    private static String chained(int i) {
        return "" + (char) ('A' + i / 26) + (char) ('A' + i % 26);
    }

    // -4 a value of more than 30 signs.
    private static void moreThan30Signs() {
        String[] head = {"//J JOB", "// SET A=" + TWENTY_NINE + ",B=" + THIRTY, "// SET C=1,D=12,F=" + TWENTY_NINE.substring(1)};
        String[] well = {"// EXEC PGM=&A&C", "// EXEC PGM=&B", "// EXEC PGM=&B.&X", "// EXEC PGM=A,&C&A", "// SET E=&A&C", "// IF &A&C", "// IF (&F)", "// EXEC PGM=A,ABCDEFGH=&B"};
        String[] wrong = {"// EXEC PGM=&A&D", "// EXEC PGM=&B.X", "// EXEC PGM=&B.&C", "// EXEC PGM=A,&D&A", "// SET E=&A&D", "// IF &A&D", "// IF (&A)", "// EXEC PGM=A,ABCDEFGH=X&B"};
        for (int i = 0; i < well.length; i++) {
            String end = well[i].startsWith("// IF") ? "// ENDIF" : "//";
            due("30: " + well[i], expandOf(joined(head, well[i], end)), well[i].startsWith("// SET") ? 1 : end.equals("//") ? 2 : 3);
            due("31: " + wrong[i], expandOf(joined(head, wrong[i], end)), -4);
        }
        due("the quotes of what replaces do not count", expandedLetters("//J JOB", "// SET A='" + TWENTY_NINE.substring(1) + "'", "// EXEC PGM=(&A)"), "PGM=(" + TWENTY_NINE.substring(1) + ")");
        due("those of the value do", expandedLetters("//J JOB", "// SET A='" + TWENTY_NINE.substring(1) + "'", "// EXEC PGM='&A'"), "PGM='" + TWENTY_NINE.substring(1) + "'");
        due("and make it too long", expandOf("//J JOB", "// SET A='" + TWENTY_NINE.substring(1) + "'", "// EXEC PGM='&A.1'"), -4);
        due("30 signs with symbols may become none", expandedLetters("//J JOB", "// EXEC PGM=&A&A&A&A&A&A&A&A&A&A&A&A&A&A&A"), "PGM=");
        for (int n = 0; n < 10; n++) {
            due("31 in the parameter " + n, expandOf(joined(head, "// EXEC " + "A=,".repeat(n) + "PGM=&B.1" + ",A=".repeat(9 - n))), -4);
        }
        due("far more", expandOf(joined(head, "// EXEC PGM=&B&B&B&B&B&B&B&B&B&B&B&B&B&B&B")), -4);
        due("in a procedure", expandOf(joined(head, "//P PROC", "// EXEC PGM=&A&C", "// PEND", "// EXEC P,C=12")), -4);
        due("30 in a procedure", expandOf(joined(head, "//P PROC", "// EXEC PGM=&A&C", "// PEND", "// EXEC P")), 3);
        String[] call = joined(head, "//P PROC", "// EXEC PGM=A", "//D DD X", "// PEND", "// EXEC P");
        due("30 in an override", expandOf(joined(call, "//D DD &B,K=&A&C", "//E DD &B")), 5);
        due("31 in an override", expandOf(joined(call, "//D DD K=&B.1")), -4);
        due("31 in one that is added", expandOf(joined(call, "//E DD &B&C")), -4);
        due("31 in a DD that an override changes", expandOf(joined(head, "//P PROC", "// EXEC PGM=A", "//D DD &B.1", "// PEND", "// EXEC P", "//D DD X")), -4);
    }

    // -5 a procedure that isn't there.
    private static void notThere() {
        due("of no text", outcomeOf("//J JOB", "// EXEC P"), "-5 0 P");
        due("by key", outcomeOf("//J JOB", "// EXEC PROC=ABCDEFGH"), "-5 0 ABCDEFGH");
        due("one sign apart", outcomeOf("//J JOB", "//ABCDEFG PROC", "// PEND", "//ABCDEFGI PROC", "// PEND", "// EXEC ABCDEFGH"), "-5 0 ABCDEFGH");
        due("in a procedure", outcomeOf("//J JOB", "//P PROC", "// EXEC Q", "// PEND", "// EXEC P"), "-5 0 Q");
        due("in a procedure that isn't called", outcomeOf("//J JOB", "//P PROC", "// EXEC Q", "// PEND"), "1 0 ");
        due("of a step's or the job's name", outcomeOf("//J JOB", "//S EXEC PGM=A", "// EXEC J"), "-5 0 J");
    }

    // -6 an override of a step that isn't there, or runs no program (told when its procedure is called, behind -5 and a ring).
    private static void noSuchStep() {
        due("isn't there", steps("//X.D DD"), "-6");
        due("runs no program", steps("//R.D DD"), "-6");
        due("is of the procedure that is called there", steps("//U.D DD"), "-6");
        due("the second override", steps("//S.D DD", "//X.D DD"), "-6");
        due("no step that runs a program", expandOf("//J JOB", "//P PROC", "// EXEC Q", "// PEND", "//Q PROC", "// EXEC PGM=A", "// PEND", "// EXEC P", "//D DD"), -6);
        due("no step at all", expandOf("//J JOB", "//P PROC", "// PEND", "// EXEC P", "//D DD"), -6);
        due("no step at all, and no override", expandOf("//J JOB", "//P PROC", "// PEND", "// EXEC P"), 2);
        due("told when its procedure is called: ahead of -5 in it", outcomeOf("//J JOB", "//P PROC", "// EXEC Q", "// PEND", "// EXEC P", "//S.D DD"), "-6 0 ");
        due("ahead of -4 in it", outcomeOf("//J JOB", "// SET A=" + THIRTY, "//P PROC", "// EXEC PGM=&A.1", "// PEND", "// EXEC P", "//S.D DD"), "-6 0 ");
        due("not ahead of what comes first", outcomeOf("//J JOB", "// EXEC NONE", "//P PROC", "// PEND", "// EXEC P", "//S.D DD"), "-5 0 NONE");
        due("behind -5", outcomeOf("//J JOB", "// EXEC P", "//S.D DD"), "-5 0 P");
        due("behind a ring", outcomeOf("//J JOB", "//P PROC", "// EXEC P", "//S.D DD", "// PEND", "// EXEC P"), "-1 0 P");
    }

    // -7 a statement of more than 10 parameters.
    private static void moreThan10Parameters() {
        due("ten by place and key", merged("1,2,3,4,5", "A=,B=,C=,D=,E="), "10 1,2,3,4,5,A=,B=,C=,D=,E=");
        due("eleven by place and key", merged("1,2,3,4,5", "A=,B=,C=,D=,E=,F="), "-7");
        due("eleven by place and key, the other way round", merged("A=,B=,C=,D=,E=", "1,2,3,4,5,6"), "-7");
        due("ten by place in place of ten", merged("1,2,3,4,5,6,7,8,9,10", "A,B,C,D,E,F,G,H,I,J"), "10 A,B,C,D,E,F,G,H,I,J");
        due("ten by key in place of ten", merged("A=1,B=1,C=1,D=1,E=1,F=1,G=1,H=1,I=1,J=1", "J=2,I=2,H=2,G=2,F=2,E=2,D=2,C=2,B=2,A=2"), "10 A=2,B=2,C=2,D=2,E=2,F=2,G=2,H=2,I=2,J=2");
        due("an eleventh key", merged("A=1,B=1,C=1,D=1,E=1,F=1,G=1,H=1,I=1,J=1", "K=1"), "-7");
        due("-4 in a line that would have eleven", expandOf("//J JOB", "// SET A=" + THIRTY, "//P PROC", "//S EXEC PGM=A", "//D DD 1,2,3,4,5,6,7,8,9,&A.1", "// PEND", "// EXEC P", "//D DD K=1"), -4);
        due("twenty", merged("A=1,B=1,C=1,D=1,E=1,F=1,G=1,H=1,I=1,J=1", "K=1,L=1,M=1,N=1,O=1,P=1,Q=1,R=1,S=1,T=1"), "-7");
        due("an eleventh, though one goes", merged("1,A=1,B=1,C=1,D=1,E=1,F=1,G=1,H=1,I=1", "2,A=2,B=2"), "10 2,A=2,B=2,C=1,D=1,E=1,F=1,G=1,H=1,I=1");
        due("ten of one that is added", steps("//X DD 1,2,3,4,5,6,7,8,9,0").contains("|14/3/1/10/1 1,2,3,4,5,6,7,8,9,0|"), true);
        String[] two = {"//J JOB", "//P PROC", "//S EXEC PGM=A", "//D DD 1,2,3,4,5,6,7", "// PEND", "// EXEC P"};
        due("ten by two overrides", expandOf(joined(two, "//D DD A=1,B=1", "//S.D DD C=1")), 4);
        due("eleven by two overrides", expandOf(joined(two, "//D DD A=1,B=1", "//S.D DD C=1,D=1")), -7);
    }

    // Else the first of ..
    private static void theFirstOfThem() {
        String[] head = {"//J JOB", "// SET A=" + THIRTY, "//P PROC", "// EXEC P", "// PEND", "//Q PROC", "//S EXEC PGM=A", "//D DD 1,2,3,4,5,6,7,8,9,0", "// PEND"};
        String[] fails = {"// EXEC P", "// EXEC PGM=&A.1", "// EXEC NONE", "// EXEC Q\n//X.D DD", "// EXEC Q\n//D DD K=1"};
        int[] codes = {-1, -4, -5, -6, -7};
        for (int i = 0; i < fails.length; i++) {
            for (int k = 0; k < fails.length; k++) {
                due("the first of " + codes[i] + " and " + codes[k], expandOf(joined(head, fails[i], fails[k])), codes[i]);
            }
        }
    }

    // Then there are no lines.
    private static void thenThereAreNoLines() {
        String[] ends = {"// EXEC P", "// EXEC PGM=&A.1", "// EXEC NONE", "// EXEC Q\n//X.D DD", "// EXEC Q\n//D DD K=1", String.join("\n", times(101, "// EXEC PGM=A"))};
        int[] codes = {-1, -4, -5, -6, -7, -3};
        String[] names = {"P", "", "NONE", "", "", ""};
        JobText x = new JobText();
        for (int i = 0; i < ends.length; i++) {
            readOf(x, "//J JOB", "// EXEC PGM=A");
            due("lines", x.expand(), 2);
            due("no name", ringOf(x), "");
            readOf(x, "//J JOB", "// SET A=" + THIRTY, "//P PROC", "// EXEC P", "// PEND", "//Q PROC", "//S EXEC PGM=A", "//D DD 1,2,3,4,5,6,7,8,9,0", "// PEND", ends[i]);
            due("the lines stay up to the next expand", x.count(4), 2);
            due("fails", x.expand(), codes[i]);
            due("no lines by " + codes[i], x.count(4), 0);
            due("none is told", x.at(0, 0) + x.at(1, 0) + x.letter(0, 0) + x.letter(1, 0), -4);
            due("the name by " + codes[i], ringOf(x), names[i]);
            due("the job is at hand still", x.count(6), 1);
            due("and fails again", x.expand(), codes[i]);
        }
    }

    // ---- promise 9

    // NONE for others, or without it.
    private static void atOrNone() {
        JobText x = of("//J JOB", "//P PROC", "//S EXEC PGM=A", "//D DD A,B", "// PEND", "// EXEC P", "//D DD K=V", "//E DD");
        due("lines", x.expand(), 5);
        due("all", listing(x), "1/1/0/0/0 |6/2/0/1/0 P|3/2/1/1/0 PGM=A|4/3/1/3/1 A,B,K=V|8/3/1/0/1 ");
        due("behind the last", x.at(5, 0), -1);
        due("what 5", x.at(0, 5), -1);
        for (int far : FAR) {
            due("line " + far, x.at(far, 0) + x.at(far, 4), -2);
            due("what " + far, x.at(0, far), -1);
        }
        readOf(x, "//K JOB");
        due("of the latest expand, not of the latest read", x.at(4, 0), 8);
        x.expand();
        due("one line now", x.at(0, 0) + x.at(1, 0), 0);
    }

    // .. how many calls it came by (an added override as its step).
    private static void howManyCalls() {
        JobText x = of("//J JOB", "//P PROC", "// EXEC Q", "//D DD", "//S EXEC PGM=A", "// PEND", "//Q PROC", "// EXEC R", "// EXEC PGM=A", "// PEND", "//R PROC", "// IF A", "// ENDIF", "// PEND", "// EXEC P", "//D DD", "// EXEC PGM=B", "//D DD");
        x.expand();
        StringBuilder depths = new StringBuilder();
        for (int i = 0; i < x.count(4); i++) {
            depths.append(x.at(i, 0)).append(':').append(x.at(i, 2)).append(' ');
        }
        due("calls", depths.toString(), "1:0 15:0 3:1 8:2 12:3 13:3 9:2 4:2 5:1 16:1 17:0 18:0 ");
    }

    // ---- promise 10

    // The k-th sign of the i-th line's parameters, with commas between; NONE without one.
    private static void letterOrNone() {
        JobText x = of("//J JOB", "// IF ,A,,B=,", "// C", "// ENDIF &A", "// EXEC PGM=A,&A,K=&A");
        due("lines", x.expand(), 4);
        due("none", x.letter(0, 0), -1);
        due("empty ones", lettersOf(x, 1), ",A,,B=,C");
        due("the first and the last", "" + x.letter(1, 0) + x.letter(1, 7) + x.letter(1, 8), "4467-1");
        due("one that is empty", x.at(2, 3) + lettersOf(x, 2), "1");
        due("some that became empty", x.at(3, 3) + lettersOf(x, 3), "3PGM=A,,K=");
        due("behind the last line", x.letter(4, 0), -1);
        for (int far : FAR) {
            due("line " + far, x.letter(far, 0), -1);
            due("k " + far, x.letter(0, far) + x.letter(1, far) + x.letter(3, far), -3);
        }
        StringBuilder longest = new StringBuilder();
        String job = "//J JOB ";
        for (int i = 0; i < 10; i++) {
            longest.append(i == 0 ? "" : ",").append("ABCDEFG").append(i).append('=').append(THIRTY);
        }
        x = of((job + longest.toString().replace(",", ",\n// ")).split("\n"));
        x.expand();
        due("the longest", lettersOf(x, 0), longest.toString());
        due("its last sign", "" + (char) x.letter(0, 398) + x.letter(0, 399), "4-1");
    }

    // ---- promise 11

    // The name of the procedure that closed the latest expand()'s ring, or wasn't there; NONE without one.
    private static void ringOrNone() {
        JobText x = of("//J JOB", "// EXEC ABCDEFGH");
        due("none yet", x.ring(0), -1);
        due("isn't there", x.expand(), -5);
        due("all signs", ringOf(x), "ABCDEFGH");
        due("the first, the last, the one behind", "" + x.ring(0) + x.ring(7) + x.ring(8), "6572-1");
        for (int far : FAR) {
            due("k " + far, x.ring(far), -1);
        }
        readOf(x, "//J JOB", "//Q PROC", "// EXEC Q", "// PEND", "// EXEC Q");
        due("of the latest expand, not of the latest read", ringOf(x), "ABCDEFGH");
        due("a ring", x.expand(), -1);
        due("its name", "" + (char) x.ring(0) + x.ring(1), "Q-1");
        readOf(x, "//J JOB");
        x.expand();
        due("none then", x.ring(0), -1);
    }

    // ---- promise 12

    // NONE for others.
    private static void countOrNone() {
        JobText x = new JobText();
        for (int far : FAR) {
            due("count " + far, x.count(far), -1);
        }
        due("count 7", x.count(7), -1);
        readOf(x, "//P PROC", "// PEND");
        readOf(x, "X", "X", "X");
        load(x, "12345");
        due("signs, library, statements, faults", "" + x.count(0) + x.count(1) + x.count(2) + x.count(3), "5103");
        x = of("//J JOB &A&B", "// SET A=1", "// EXEC PGM=&C");
        due("statements and no lines yet", "" + x.count(2) + x.count(4) + x.count(5) + x.count(6), "3001");
        x.expand();
        due("lines and missing", "" + x.count(4) + x.count(5), "23");
        readOf(x, "//J JOB");
        due("they stay behind read", "" + x.count(4) + x.count(5), "23");
        x.expand();
        due("and change with expand", "" + x.count(4) + x.count(5), "10");
    }
}
