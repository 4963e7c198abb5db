/** Tests of the document's promises, one method or more for each; prints every answer that is not due. */
public final class PromiseTests extends TextTest {
    public static void main(String[] args) {
        newObject();
        signs();
        readCounts();
        readOutcomes();
        library();
        statements();
        names();
        parameters();
        continuedLines();
        data();
        faultsOfLinesAndWords();
        faultsOfParameters();
        faultsOfPlaces();
        faultsOfNames();
        faultsOfChoices();
        faultsListed();
        nearestOperations();
        expandOrder();
        expandSymbols();
        expandSets();
        expandQuotes();
        overridesChange();
        overridesAdd();
        overridesOfSteps();
        overridesAheadOfTheCall();
        expandFailures();
        expandLimits();
        rings();
        linesStay();
        counts();
        end();
    }

    // ---- promise 1

    private static void newObject() {
        JobText x = new JobText();
        for (int what = 0; what <= 6; what++) {
            due("new count " + what, x.count(what), 0);
        }
        due("new expand", x.expand(), -2);
        due("new statement", x.statement(0, 0), -1);
        due("new parameter", x.parameter(0, 0, 0), -1);
        due("new data", x.data(0, 0), -1);
        due("new fault", x.fault(0, 0), -1);
        due("new at", x.at(0, 0), -1);
        due("new letter", x.letter(0, 0), -1);
        due("new ring", x.ring(0), -1);
        due("new read", x.read(), 0);
    }

    // ---- promise 2

    private static void signs() {
        JobText x = new JobText();
        x.sign(0L);
        due("zero bytes are left out", x.count(0), 0);
        x.sign(-1L);
        due("bytes of 255 are left out", x.count(0), 0);
        x.sign(0x1F207E7F0A0B2080L);
        due("32, 126, 10 and 32 are kept", x.count(0), 4);
        x.sign(0x2020202020202020L);
        due("eight signs", x.count(0), 12);
        x = new JobText();
        x.sign(0x2F2F4A004A4F420AL);
        due("the highest byte comes first", x.read(), 0 - 2);
        due("which is seen in the operation's place", faultList(x), "1:7:2");
        x = new JobText();
        for (int i = 0; i < 374; i++) {
            x.sign(0x4141414141414141L);
        }
        due("2992 signs", x.count(0), 2992);
        x.sign(0x0041414141414141L);
        due("2999 signs", x.count(0), 2999);
        x.sign(0x0A41414141414141L);
        due("what is beyond 3000 is left out", x.count(0), 3000);
        x.sign(0x41L);
        due("and stays so", x.count(0), 3000);
        due("read of one line", x.read(), -2);
        due("the text is empty then", x.count(0), 0);
    }

    // ---- promise 3

    private static void readCounts() {
        JobText x = new JobText();
        load(x, "//J JOB");
        due("the last line may stand without its end", x.read(), 1);
        due("comments and silent lines are no statements", readOf(x, "//* C", "//", "//   ", "//J JOB", "//*"), 1);
        due("job at hand", x.count(6), 1);
        due("an empty line is a fault", readOf(x, "//J JOB", "", "//* C"), -2);
        due("its line", x.fault(0, 0), 2);
        String blanks = " ".repeat(69);
        due("only 71 columns count", readOf(x, "//J JOB", "//" + blanks + "X"), 1);
        due("what is behind the parameters is nothing", readOf(x, "//J JOB A  'B (C=,"), 1);
        due("nothing but PROC to PEND", readOf(x, "//P PROC", "// PEND", "//Q PROC", "// PEND"), 4);
    }

    private static void readOutcomes() {
        JobText x = of("//J JOB", "// EXEC PGM=A");
        due("a job is at hand", x.count(6), 1);
        due("expands", x.expand(), 2);
        due("a text with a fault", readOf(x, "//J JOB", "X"), -2);
        due("no job at hand then", x.count(6), 0);
        due("no text then", x.count(2), 0);
        due("no statement then", x.statement(0, 0), -1);
        due("faults", x.count(3), 1);
        due("a good text", readOf(x, "//J JOB"), 1);
        due("no faults then", x.count(3), 0);
        due("and no fault", x.fault(0, 0), -1);
        due("an empty text", x.read(), 0);
        due("no job then", x.count(6), 0);
        due("procedures", readOf(x, "//J JOB"), 1);
        due("procedures alone", readOf(x, "//P PROC", "// PEND"), 2);
        due("no job at hand behind procedures", x.count(6), 0);
        due("but a text", x.statement(1, 1), 5);
    }

    private static void library() {
        JobText x = new JobText();
        StringBuilder eleven = new StringBuilder();
        for (int i = 0; i < 11; i++) {
            eleven.append("//P").append(i).append(" PROC\n// PEND\n");
        }
        load(x, eleven.toString());
        due("eleven procedures", x.read(), 22);
        due("are in the library", x.count(1), 11);
        due("two more are too many", readOf(x, "//Q PROC", "// PEND", "//R PROC", "// PEND"), -1);
        due("the library stays", x.count(1), 11);
        due("there is no text", x.count(2), 0);
        due("there is no fault", x.count(3), 0);
        due("one more and one in place of another", readOf(x, "//Q PROC", "// PEND", "//P3 PROC", "//S EXEC PGM=NEW", "// PEND"), 5);
        due("are twelve", x.count(1), 12);
        due("a job's procedures do not come there", readOf(x, "//J JOB", "//T PROC", "// PEND", "// EXEC P3"), 4);
        due("library is as it was", x.count(1), 12);
        due("the procedure in place of the old one", x.expand(), 3);
        due("its line in its own text", x.at(2, 0), 4);
        due("one too many leaves no job at hand", readOf(x, "//Z PROC", "// PEND"), -1);
        due("none is at hand", x.count(6), 0);
        due("a faulty text brings no procedure", readOf(x, "//P3 PROC", "// PEND", "X"), -2);
        due("and takes none away", x.count(1), 12);
    }

    // ---- promise 4

    private static void statements() {
        JobText x = of("//* C", "//JOB1 JOB (A,B),'C D',K=V,E,L=", "//S EXEC P", "//S.DD12 DD *", "D", "E", "//P PROC", "//A EXEC PGM=X", "// DD", "// PEND");
        due("a DD without a name at the step's beginning", faultList(x), "9:3:5");
        x = of("//* C", "//JOB1 JOB (A,B),'C D',K=V,E,L=", "//S EXEC P", "//S.DD12 DD *", "D", "E", "//P PROC", "//A EXEC PGM=X", "//B DD", "// PEND");
        due("line", x.statement(0, 0), 2);
        due("line of another", x.statement(3, 0), 7);
        due("operations", "" + x.statement(0, 1) + x.statement(1, 1) + x.statement(2, 1) + x.statement(3, 1) + x.statement(5, 1) + x.statement(6, 1), "123435");
        due("parameters", x.statement(0, 2), 5);
        due("by place", x.statement(0, 3), 3);
        due("none", x.statement(3, 2), 0);
        due("signs of a name", x.statement(0, 4), 4);
        due("signs of two names", x.statement(2, 4), 6);
        due("signs of none", x.statement(6, 4), 0);
        due("lines of data", x.statement(2, 5), 2);
        due("no data", x.statement(1, 5), 0);
        due("other what", x.statement(0, 6), -1);
        due("negative what", x.statement(0, -1), -1);
        due("behind the last", x.statement(7, 0), -1);
        due("ahead of the first", x.statement(-1, 0), -1);
        due("far", x.statement(Integer.MAX_VALUE, 0) + x.statement(Integer.MIN_VALUE, 0), -2);
        x = of("//J JOB", "// SET A=1", "// IF A", "// ELSE", "// ENDIF");
        due("more operations", "" + x.statement(1, 1) + x.statement(2, 1) + x.statement(3, 1) + x.statement(4, 1), "6789");
    }

    private static void names() {
        due("names of 1 to 8 letters and digits", faultsOf("//A2345678 JOB", "//Z EXEC PGM=A", "//A0Z9 DD"), "");
        due("nine signs", faultsOf("//A23456789 JOB"), "1:3:2");
        due("a digit first", faultsOf("//1 JOB"), "1:3:2");
        due("a small letter", faultsOf("//a JOB"), "1:3:2");
        due("another sign", faultsOf("//A-B JOB"), "1:3:2");
        due("two names", faultsOf("//J JOB", "// EXEC P", "//A2345678.B2345678 DD"), "");
        due("second name wrong", faultsOf("//J JOB", "// EXEC P", "//A.1 DD"), "3:3:2");
        due("second name missing", faultsOf("//J JOB", "// EXEC P", "//A. DD"), "3:3:2");
        due("first name missing", faultsOf("//J JOB", "// EXEC P", "//.A DD"), "3:3:2");
        due("three names", faultsOf("//J JOB", "// EXEC P", "//A.B.C DD"), "3:3:2");
    }

    // ---- promise 5

    private static void parameters() {
        String thirty = "A23456789012345678901234567890";
        JobText x = of("//J JOB A,K=V,'B ''C'' ,=()',(A,B=(C,'D E'),F),,L=," + "M", "//S EXEC PGM=" + thirty, "//D DD A(B)'C D'E,12345678=");
        due("a key that is no name", faultList(x), "3:27:3");
        x = of("//J JOB A,K=V,'B ''C'' ,=()',(A,B=(C,'D E'),F),,L=,M", "//S EXEC PGM=" + thirty + ",", "// " + thirty, "//D DD A(B)'C D'E");
        due("how many", x.statement(0, 2), 7);
        due("by place", x.statement(0, 3), 5);
        due("0", parameterOf(x, 0, 0), "A");
        due("1", parameterOf(x, 0, 1), "K=V");
        due("2", parameterOf(x, 0, 2), "'B ''C'' ,=()'");
        due("3", parameterOf(x, 0, 3), "(A,B=(C,'D E'),F)");
        due("4", parameterOf(x, 0, 4), "");
        due("5", parameterOf(x, 0, 5), "L=");
        due("6", parameterOf(x, 0, 6), "M");
        due("7", parameterOf(x, 0, 7), "");
        due("thirty signs behind a key", parameterOf(x, 1, 0), "PGM=" + thirty);
        due("thirty signs", parameterOf(x, 1, 1), thirty);
        due("parts of several sorts", parameterOf(x, 2, 0), "A(B)'C D'E");
        due("k below 0", x.parameter(0, 0, -1), -1);
        due("k below 0 with a key", x.parameter(0, 1, -1), -1);
        due("k far", x.parameter(0, 1, Integer.MAX_VALUE), -1);
        due("which below 0", x.parameter(0, -1, 0), -1);
        due("which far", x.parameter(0, Integer.MAX_VALUE, 0), -1);
        due("i far", x.parameter(3, 0, 0), -1);
        due("i below 0", x.parameter(-1, 0, 0), -1);
        x = of("//J JOB ABCDEFGH=1,A1=2");
        due("keys of eight signs", parameterOf(x, 0, 0) + x.statement(0, 3), "ABCDEFGH=10");
        x = of("//J JOB 1,2,3,4,5,6,7,8,9,10");
        due("ten", x.statement(0, 2), 10);
        due("a key of nine signs", faultsOf("//J JOB ABCDEFGHI=1"), "1:18:3");
        due("no key", faultsOf("//J JOB =1"), "1:9:3");
    }

    private static void continuedLines() {
        JobText x = of("//J JOB A,", "//* C", "//   K=V,  NOTE", "// (B,", "//*", "//  C),D  MORE", "// EXEC PGM=X");
        due("statements", x.count(2), 2);
        due("four parameters", x.statement(0, 2), 4);
        due("over two lines", parameterOf(x, 0, 2), "(B,C)");
        due("the last", parameterOf(x, 0, 3), "D");
        due("line of the next", x.statement(1, 0), 7);
        String wide = "//J JOB " + "A".repeat(30) + "," + "B".repeat(30) + ",";
        due("wide has 70 columns", wide.length(), 70);
        x = of("//J  JOB " + "A".repeat(30) + "," + "B".repeat(30) + ",IGNORED", "// C");
        due("a comma in column 71", x.statement(0, 2), 3);
        due("what is in column 72 does not count", parameterOf(of(wide + "CD"), 0, 2), "C");
        due("a comma in column 72 does not count", faultsOf(wide + "C,", "// E"), "2:4:2:2");
        x = of("//J JOB", "//S EXEC PGM=A", "//D DD *,", "// K=V", "DATA", "/*");
        due("data behind a continued line", x.data(2, 0), 5);
        due("a first parameter that is empty", parameterOf(of("//J JOB ,A"), 0, 1), "A");
    }

    // ---- promise 6

    private static void data() {
        JobText x = of("//J JOB", "// EXEC PGM=A", "//D DD *", "ONE", "", "/ /", "/*", "//E DD DATA,K=V", "//F DD", "//* C", "NO", "/* END", "//G DD *", "LAST", "//H DD *", "/*", "//I DD K=V,*");
        due("no fault", faultList(x), "");
        due("three lines", x.statement(2, 5), 3);
        due("first", x.data(2, 0), 4);
        due("last", x.data(2, 2), 6);
        due("behind the last", x.data(2, 3), -1);
        due("ahead of the first", x.data(2, -1), -1);
        due("of DATA", x.statement(3, 5), 3);
        due("with slashes", x.data(3, 0), 9);
        due("of a * up to //", x.statement(4, 5), 1);
        due("its line", x.data(4, 0), 14);
        due("none", x.statement(5, 5), 0);
        due("not the first parameter", x.statement(6, 5), 0);
        due("of no statement", x.data(7, 0) + x.data(-1, 0), -2);
        due("of a statement that is no DD", x.data(0, 0), -1);
        due("data up to the text's end", of("//J JOB", "// EXEC PGM=A", "//D DD DATA", "// ELSE", "X").statement(2, 5), 2);
        due("no data behind a faulty DD", faultsOf("//J JOB", "//D DD *", "X", "/*"), "2:5:4 3:1:1 4:1:1");
        due("an end of data behind //", faultsOf("//J JOB", "// EXEC PGM=A", "//D DD *", "X", "//*", "/*"), "6:1:1");
        due("a key of that value", faultsOf("//J JOB", "// EXEC PGM=A", "//D DD K=*", "X"), "4:1:1");
        due("no DD", faultsOf("//J JOB *", "X"), "2:1:1");
        due("other values", faultsOf("//J JOB", "// EXEC PGM=A", "//D DD +", "X", "//E DD XATA", "X", "//F DD DATE", "X", "//G DD **", "X"), "4:1:1 6:1:1 8:1:1 10:1:1");
        due("a quoted *", faultsOf("//J JOB", "// EXEC PGM=A", "//D DD '*'", "X"), "4:1:1");
    }

    // ---- promise 7

    private static void faultsOfLinesAndWords() {
        due("lines that do not begin with //", faultsOf("J", "/", "/ /J JOB", " //J JOB", "//J JOB", "/*"), "1:1:1 2:1:1 3:1:1 4:1:1 6:1:1");
        due("two names where it is no DD", faultsOf("//A.B JOB", "//A.B FOO"), "1:3:2 2:3:2");
        due("no operation", faultsOf("//NAME", "//NAME   "), "1:7:2 2:10:2");
        due("another operation", faultsOf("//J   JOBS A"), "1:7:2:1");
        due("a name that isn't so goes ahead", faultsOf("//1 JOBS A"), "1:3:2");
        due("operations in small letters", faultsOf("//J job"), "1:5:2:1");
        due("no operation in 71 columns", faultsOf("//J" + " ".repeat(68) + "JOB"), "1:72:2");
        due("what goes on behind a faulty statement stands for itself", faultsOf("//1 JOB A,", "//J JOB"), "1:3:2");
    }

    private static void faultsOfParameters() {
        due("a second =", faultsOf("//J JOB A=B=C"), "1:12:3");
        due("an open bracket", faultsOf("//J JOB (A"), "1:11:3");
        due("a blank between brackets", faultsOf("//J JOB (A B)"), "1:11:3");
        due("a closed one", faultsOf("//J JOB A)"), "1:10:3");
        due("one closed too often", faultsOf("//J JOB (A))"), "1:12:3");
        due("an open quote", faultsOf("//J JOB 'A  "), "1:13:3");
        due("an open quote behind a doubled one", faultsOf("//J JOB 'A''"), "1:13:3");
        due("an open quote in 71 columns", faultsOf("//J                                                 JOB 'A B C D E F G H I J'"), "1:72:3");
        due("the 31st sign", faultsOf("//J JOB " + "A".repeat(31)), "1:39:3");
        due("the 31st sign behind a key", faultsOf("//J JOB K=" + "A".repeat(31)), "1:41:3");
        due("the 31st sign with quotes", faultsOf("//J JOB '" + "A".repeat(29) + "'"), "1:39:3");
        due("the 31st sign with brackets", faultsOf("//J JOB (" + "A".repeat(29) + ")"), "1:39:3");
        due("an 11th", faultsOf("//J JOB 1,2,3,4,5,6,7,8,9,0,X=Y=Z"), "1:29:3");
        due("an 11th in the next line", faultsOf("//J JOB 1,2,3,4,5,6,7,8,9,0,", "//  A"), "2:5:3");
        due("a fault in the next line", faultsOf("//J JOB 1,", "//*", "//  A=B=C"), "3:8:3");
        due("they don't go on: a statement, which is not read", faultsOf("//J JOB A,", "//K JOB", "//L JOB"), "2:1:3");
        due("they don't go on: no slashes", faultsOf("//J JOB A,", "X", "//L JOB"), "2:1:3");
        due("they don't go on: blanks alone", faultsOf("//J JOB A,", "//  ", "//L JOB"), "2:1:3");
        due("they don't go on: slashes alone", faultsOf("//J JOB A,", "//", "//L JOB"), "2:1:3");
        due("they don't go on between brackets", faultsOf("//J JOB (A,", "//B)", "//L JOB"), "2:1:3");
        due("the text's end", faultsOf("//L JOB", "//J SET A=B,"), "2:1:3");
        due("the text's end behind comments", faultsOf("//L JOB", "//J SET A=B,", "//*", "//* C"), "4:1:3");
        due("kind 3 goes ahead of kind 4", faultsOf("//J PEND A=B=C"), "1:13:3");
    }

    private static void faultsOfPlaces() {
        due("statements without a job", faultsOf("//S EXEC PGM=A", "//D DD", "// SET A=1", "// IF A", "// ELSE", "// ENDIF", "// PEND"), "1:5:4 2:5:4 3:4:4 4:4:4 5:4:4 6:4:4 7:4:4");
        due("a second job", faultsOf("//J JOB", "//K JOB"), "2:5:4");
        due("a job behind a faulty statement", faultsOf("// EXEC PGM=A", "//J JOB", "// EXEC PGM=A"), "1:4:4");
        due("a job behind procedures", faultsOf("//P PROC", "// PEND", "//J JOB"), "3:5:4");
        due("a job in a procedure", faultsOf("//P PROC", "//J JOB", "// PEND"), "2:5:4");
        due("a statement between procedures", faultsOf("//P PROC", "// PEND", "// SET A=1", "//Q PROC", "// PEND"), "3:4:4");
        due("a procedure in another", faultsOf("//P PROC", "//Q PROC", "// PEND"), "2:5:4");
        due("a procedure in an IF", faultsOf("//J JOB", "// IF A", "//Q PROC", "// ENDIF"), "3:5:4");
        due("PEND without PROC", faultsOf("//J JOB", "// PEND"), "2:4:4");
        due("PEND in an IF", faultsOf("//P PROC", "// IF A", "// PEND", "// ENDIF", "// PEND"), "3:4:4");
        due("a DD without a step", faultsOf("//J JOB", "//D DD"), "2:5:4");
        due("a DD without a step in a procedure", faultsOf("//J JOB", "// EXEC PGM=A", "//P PROC", "//D DD", "// PEND", "//D DD"), "4:5:4");
        due("a DD with two names where nothing is called", faultsOf("//J JOB", "// EXEC PGM=A", "//A.B DD", "// EXEC P", "//A.B DD"), "3:7:4");
        due("a DD behind an IF is of the latest step", faultsOf("//J JOB", "// EXEC PGM=A", "// IF A", "//D DD", "// ENDIF"), "");
        due("ELSE without IF", faultsOf("//J JOB", "// ELSE"), "2:4:4");
        due("a second ELSE", faultsOf("//J JOB", "// IF A", "// ELSE", "// ELSE", "// ENDIF"), "4:4:4");
        due("ELSE of both IFs", faultsOf("//J JOB", "// IF A", "// IF A", "// ELSE", "// ENDIF", "// ELSE", "// ENDIF"), "");
        due("ELSE of two IFs one behind another", faultsOf("//J JOB", "// IF A", "// ELSE", "// ENDIF", "// IF A", "// ELSE", "// ENDIF"), "");
        due("ENDIF without IF", faultsOf("//J JOB", "// ENDIF"), "2:4:4");
        String[] eight = joined(new String[] {"//J JOB"}, "// IF A", "// IF A", "// IF A", "// IF A", "// IF A", "// IF A", "// IF A", "// IF A");
        String[] ends = {"// ENDIF", "// ENDIF", "// ENDIF", "// ENDIF", "// ENDIF", "// ENDIF", "// ENDIF", "// ENDIF"};
        due("eight IFs", faultsOf(joined(eight, ends)), "");
        due("nine IFs", faultsOf(joined(joined(eight, "// IF A"), ends)), "10:4:4");
        due("an open IF", faultsOf("//J JOB", "// IF A", "//* END"), "3:1:4");
        due("two open IFs", faultsOf("//J JOB", "// IF A", "// IF A"), "3:1:4");
        due("an open PROC", faultsOf("//P PROC", "//"), "2:1:4");
        due("an open IF and a faulty last line", faultsOf("//J JOB", "// IF A", "X"), "3:1:1 3:1:4");
    }

    private static void faultsOfNames() {
        due("a JOB without a name", faultsOf("// JOB"), "1:3:5");
        due("a PROC without a name", faultsOf("// PROC"), "1:3:5");
        due("a DD without a name", faultsOf("//J JOB", "// EXEC PGM=A", "// DD", "//A DD", "// DD", "// DD"), "3:3:5");
        due("a DD without a name behind another statement", faultsOf("//J JOB", "// EXEC PGM=A", "//A DD", "// SET A=B", "// DD"), "5:3:5");
        due("a DD without a name behind one with two", faultsOf("//J JOB", "// EXEC P", "//A.B DD", "// DD"), "4:3:5");
        due("a DD without a name behind one with a fault", faultsOf("//J JOB", "// EXEC PGM=A", "//A DD", "//1 DD", "// DD"), "4:3:2");
        due("the same PROC", faultsOf("//P PROC", "// PEND", "//P PROC", "// PEND"), "3:3:5 4:4:4");
        due("the same EXEC", faultsOf("//J JOB", "//S EXEC PGM=A", "//P PROC", "//S EXEC PGM=A", "// PEND", "//Q PROC", "//S EXEC PGM=A", "//S EXEC PGM=A", "// PEND", "//S EXEC PGM=A", "// EXEC PGM=A", "// EXEC PGM=A"), "8:3:5 10:3:5");
        due("the same DD", faultsOf("//J JOB", "//S EXEC PGM=A", "//D DD", "//D DD", "//T EXEC P", "//D DD", "//S.D DD", "//T.D DD", "//S.D DD", "//D DD"), "4:3:5 9:3:5 10:3:5");
        due("the same DD across an IF", faultsOf("//J JOB", "//S EXEC PGM=A", "//D DD", "// IF A", "//D DD", "// ENDIF"), "5:3:5");
        due("kind 4 goes ahead of kind 5", faultsOf("//J JOB", "// JOB", "// DD"), "2:4:4 3:4:4");
        due("kind 5 goes ahead of kind 6", faultsOf("//J JOB", "//S EXEC PGM=A", "//S EXEC"), "3:3:5");
        due("other names may come again", faultsOf("//J JOB", "//J SET A=1", "//J SET A=1", "//J IF A", "//J ENDIF", "//J EXEC PGM=A"), "");
    }

    private static void faultsOfChoices() {
        due("EXEC", faultsOf("//J JOB", "//A EXEC", "//B EXEC C=D", "//C EXEC C=D,E", "//D EXEC PROC=P", "//E EXEC PGM=P", "//F EXEC P"), "2:5:6 3:5:6");
        due("SET", faultsOf("//J JOB", "// SET", "// SET A", "// SET A=B,C", "// SET A=B", "// SET A="), "2:4:6 3:4:6 4:4:6");
        due("IF", faultsOf("//J JOB", "// IF", "// IF A=B", "// IF A=B,(C=D)", "// ENDIF"), "2:4:6 3:4:6");
        due("a continued statement is told in its first line", faultsOf("//J JOB", "// SET A=B,", "//  C"), "2:4:6");
        due("a name to call", faultsOf("//J JOB", "// EXEC A2345678", "// EXEC PROC=A2345678", "// EXEC A=&B,Z,'C',PROC=", "// EXEC X,&A", "// EXEC PROC=P,&A", "// EXEC PROC=P,PROC=&A"), "4:4:6");
        due("what is no name by place", faultsOf("//J JOB", "// EXEC \"", "// EXEC &A", "// EXEC P&A", "// EXEC 1A", "// EXEC A23456789", "// EXEC a", "// EXEC 'P'", "// EXEC (P)", "// EXEC ,P", "// EXEC &A,P", "// EXEC P.Q"),
                "2:4:6 3:4:6 4:4:6 5:4:6 6:4:6 7:4:6 8:4:6 9:4:6 10:4:6 11:4:6 12:4:6");
        due("what is no name by key", faultsOf("//J JOB", "// EXEC PROC=", "// EXEC PROC=&A", "// EXEC PROC='P'", "// EXEC PROC=A23456789", "// EXEC PROC=&A,PROC=P", "// EXEC PROC=&A,P"),
                "2:4:6 3:4:6 4:4:6 5:4:6 6:4:6 7:4:6");
        due("a program may be any", faultsOf("//J JOB", "// EXEC PGM=", "// EXEC PGM=&A", "// EXEC PGM='A B',PROC=&A,&B"), "");
        due("a faulty statement is not there", faultsOf("//J JOB", "// EXEC", "//D DD", "// EXEC &A", "//D DD"), "2:4:6 3:5:4 4:4:6 5:5:4");
        due("a faulty IF is not there", faultsOf("//J JOB", "// IF", "// ENDIF"), "2:4:6 3:4:4");
    }

    private static void faultsListed() {
        String[] lines = new String[35];
        for (int i = 0; i < lines.length; i++) {
            lines[i] = "X";
        }
        JobText x = new JobText();
        due("all faults are counted", readOf(x, lines), -36);
        due("in count too", x.count(3), 35);
        due("thirty are listed", x.fault(29, 0), 30);
        due("and no more", x.fault(30, 0), -1);
        due("other what", x.fault(0, 4), -1);
        due("negative what", x.fault(0, -1), -1);
        due("negative i", x.fault(-1, 0), -1);
        due("far", x.fault(Integer.MAX_VALUE, 0) + x.fault(Integer.MIN_VALUE, 0), -2);
        due("of other faults nothing is nearest", x.fault(0, 3), 0);
        x.read();
        due("only those of the latest read", x.fault(0, 0), -1);
    }

    private static void nearestOperations() {
        String[] words = {"X", "JO", "E", "EL", "EN", "D", "P", "PE", "S", "I", "IFF", "PROCS", "DDD", "EXCE", "SETUP", "j", "*"};
        int[] nearest = {1, 1, 2, 8, 9, 3, 4, 5, 6, 7, 7, 4, 3, 2, 6, 1, 1};
        for (int i = 0; i < words.length; i++) {
            due("nearest to " + words[i], faultsOf("// " + words[i]), "1:4:2:" + nearest[i]);
        }
    }

    // ---- promises 8, 9 and 10

    private static void expandOrder() {
        JobText x = of("//J JOB A", "//P PROC", "// IF (X=1),Y", "//S EXEC PGM=A", "// ELSE", "//D DD E", "// ENDIF", "// PEND", "// SET Z=1", "//T EXEC P", "//U EXEC PROC=Q,P", "//Q PROC", "// EXEC P", "//V EXEC PGM=B,PROC=P", "// PEND", "//N DD");
        due("expand", x.expand(), 16);
        due("all lines", listing(x), "1/1/0/1/0 A|10/2/0/1/0 P|3/7/1/2/0 (X=1),Y|4/2/1/1/0 PGM=A|5/8/1/0/0 |6/3/1/1/0 E|7/9/1/0/0 "
            + "|11/2/0/2/0 PROC=Q,P|13/2/1/1/0 P|3/7/2/2/0 (X=1),Y|4/2/2/1/0 PGM=A|5/8/2/0/0 |6/3/2/1/0 E|7/9/2/0/0 |14/2/1/2/0 PGM=B,PROC=P|16/3/1/0/1 ");
        due("again the same", x.expand(), 16);
        due("behind the last", x.at(16, 0) + x.letter(16, 0), -2);
        due("ahead of the first", x.at(-1, 0) + x.letter(-1, 0), -2);
        due("other what", x.at(0, 5) + x.at(0, -1), -2);
        due("k below 0", x.letter(0, -1), -1);
        due("k behind", x.letter(0, 1), -1);
        due("k far", x.letter(1, Integer.MAX_VALUE), -1);
        x = of("//P PROC", "//S EXEC PGM=LIB", "// PEND");
        readOf(x, "//J JOB", "// EXEC P", "//P PROC", "//S EXEC PGM=OWN", "// PEND");
        x.expand();
        due("one of the text is ahead of the library's", lettersOf(x, 2), "PGM=OWN");
        x = of("//P PROC", "// EXEC Q", "// PEND", "//Q PROC", "//S EXEC PGM=LIB", "// PEND");
        readOf(x, "//J JOB", "//Q PROC", "//S EXEC PGM=OWN", "// PEND", "// EXEC P");
        x.expand();
        due("for the library's calls too", lettersOf(x, 3) + x.at(3, 2) + x.at(3, 0), "PGM=OWN23");
        due("the first parameter by place is called", expandedLetters("//J JOB", "//P PROC", "// PEND", "// EXEC A=1,P,Q"), "A=1,P,Q");
    }

    private static void expandSymbols() {
        String[] head = {"//J JOB", "// SET S=1,LONGNAME=X,PGM=PS,PROC=RS"};
        due("in the job", expandedLetters(joined(head, "// EXEC PGM=A&S.B&S..C&S,&LONGNAME.&LONGNAMEA,&,&1,&s,(&S,'&S')")), "PGM=A1B1.C1,XXA,&,&1,&s,(1,'1')");
        due("keys are no values", expandedLetters(joined(head, "// EXEC PGM=A,S=&S")), "PGM=A,S=1");
        JobText x = of(joined(head, "// EXEC PGM=&A.&B..&S,K=&A"));
        due("missing ones are nothing", x.expand(), 2);
        due("with the point", lettersOf(x, 1), "PGM=.1,K=");
        due("each counts", x.count(5), 3);
        String[] procedure = joined(head, "//P PROC A=&S,B='D''E',C=PC,PGM=PP", "//X EXEC PGM=&A/&B/&C/&S/&PGM/&PROC", "// PEND");
        due("PROC's keys as they stand", expandedLetters(joined(procedure, "// EXEC P")), "P|PGM=&S/D'E/PC/1/PP/RS");
        due("EXEC's keys as they are replaced, the first of several", expandedLetters(joined(procedure, "// EXEC PROC=P,S=2,C=&S.&S,C=4,A=")), "PROC=P,S=2,C=11,C=4,A=|PGM=/D'E/11/2/PP/RS");
        String[] nested = joined(head, "//P PROC A=D", "// EXEC Q,B=&A", "// PEND", "//Q PROC", "// EXEC PGM=&A.(&B)", "// PEND");
        x = of(joined(nested, "// EXEC P,A=E"));
        due("a procedure's symbols are its own", x.expand(), 4);
        due("its caller's is not seen", lettersOf(x, 3), "PGM=(E)");
        due("and is missing", x.count(5), 1);
        due("behind a name to call", expandedLetters(joined(nested, "// SET N=1", "// EXEC A=&N,Q,&N,B=2")), "A=1,Q,1,B=2|PGM=1(2)");
        due("symbols in IF", expandedLetters(joined(head, "// IF (&S=1)", "// ENDIF")), "(1=1)|");
    }

    private static void expandSets() {
        due("the latest that was passed", expandedLetters("//J JOB", "// EXEC PGM=&A", "// SET A=1", "// EXEC PGM=&A", "// SET A=2&A", "// EXEC PGM=&A"), "PGM=|PGM=1|PGM=21");
        due("all of a SET at once", expandedLetters("//J JOB", "// SET A=1,B=2", "// SET A=&B,B=&A", "// EXEC PGM=&A&B"), "PGM=21");
        due("a SET of a procedure that was passed", expandedLetters("//J JOB", "//P PROC X=0", "// SET A=&X,X=9", "// EXEC PGM=&X", "// PEND", "// EXEC P,X=5", "// EXEC PGM=&A&X"), "P,X=5|PGM=5|PGM=59");
        due("a SET behind a call", expandedLetters("//J JOB", "//P PROC", "// EXEC PGM=&A", "// PEND", "// EXEC P", "// SET A=1", "// EXEC P"), "P|PGM=|P|PGM=1");
        JobText x = of("//J JOB", "// SET A=&B", "// EXEC PGM=&A");
        x.expand();
        due("missing in a SET", x.count(5), 1);
        x.expand();
        due("each expand counts anew", x.count(5), 1);
        x = of("//J JOB", "// EXEC PGM=&A", "// SET A=1");
        x.expand();
        due("expand again", x.expand(), 2);
        due("no SET is left of the expand ahead", lettersOf(x, 1) + x.count(5), "PGM=1");
    }

    private static void expandQuotes() {
        due("without quotes", expandedLetters("//J JOB", "// SET A='X Y',B='',C='''',D='I''M',E=('X'),F=X'Y'", "// EXEC PGM='&A',K=&A-&B-&C-&D-&E-&F"), "PGM='X Y',K=X Y--'-I'M-('X')-X'Y'");
        due("of EXEC and PROC", expandedLetters("//J JOB", "//P PROC A='1 2',B='3 4'", "// EXEC PGM=&A&B", "// PEND", "// EXEC P,A='5 ''6'"), "P,A='5 ''6'|PGM=5 '63 4");
        due("replaced between quotes", expandedLetters("//J JOB", "// SET A=1", "// SET B='&A &A'", "// EXEC PGM=&B"), "PGM=1 1");
    }

    private static final String[] STEPS = {"//J JOB", "// SET V=1", "//P PROC V=2", "// EXEC Q,W=&V", "//S EXEC PGM=A", "//D DD A,K=&V,B,L=W", "//E DD K=1,K=2", "//T EXEC PGM=B", "// SET V=3", "//D DD", "// IF A", "//F DD G", "// ENDIF", "// PEND", "//Q PROC", "//S EXEC PGM=&W", "// PEND", "// EXEC P"};

    private static void overridesChange() {
        due("by place and by key", overridden("//S.D DD X,K=&V", 5), "X,K=1,L=W");
        due("by key alone", overridden("//S.D DD L=&V", 5), "A,B,K=2,L=1");
        due("by place alone", overridden("//S.D DD X,Y,Z", 5), "X,Y,Z,K=2,L=W");
        due("those that come behind", overridden("//S.D DD M=1,L=,N=2", 5), "A,B,K=2,L=,M=1,N=2");
        due("without a step", overridden("//D DD X", 5), "X,K=2,L=W");
        due("the first of several of a key", overridden("//E DD K=9", 6), "K=9,K=2");
        due("of another step, as it was ahead of the procedure's SET", overridden("//T.D DD K=&V", 8), "K=1");
        due("in an IF", overridden("//T.F DD H", 10), "H");
        JobText x = of(joined(STEPS, "//S.D DD L=&V", "//D DD Z,M=&V.2"));
        x.expand();
        due("two of one DD", lettersOf(x, 5), "Z,K=2,L=1,M=12");
        due("changed", "" + x.at(4, 4) + x.at(5, 4) + x.at(6, 4), "010");
        due("its own line", x.at(5, 0), 6);
        due("its calls", x.at(5, 2), 1);
        due("its parameters", x.at(5, 3), 4);
        x = of(joined(STEPS, "//D DD"));
        x.expand();
        due("without parameters", lettersOf(x, 5) + x.at(5, 4), "A,B,K=2,L=W1");
        x = of(joined(STEPS, "//P2 PROC", "//D DD", "// PEND"));
        due("a DD of no step", faultList(x), "20:5:4");
        x = of(joined(STEPS, "//P2 PROC", "// PEND", "//D DD X"));
        x.expand();
        due("PROC to PEND aside", lettersOf(x, 5), "X,K=2,L=W");
        x = of(joined(STEPS, "// SET A=B", "//D DD X"));
        due("a DD behind a SET is none", x.expand(), 13);
        due("but comes in its order", lettersOf(x, 12) + x.at(12, 2) + x.at(12, 4), "X00");
    }

    private static String overridden(String override, int line) {
        JobText x = of(joined(STEPS, override));
        int n = x.expand();
        return n == 12 ? lettersOf(x, line) : "lines " + n + " " + faultList(x);
    }

    private static void overridesAdd() {
        JobText x = of(joined(STEPS, "//N DD Y,K=&V,Z", "// DD &V", "//S.M DD", "//T.N DD Q"));
        due("added lines", x.expand(), 16);
        due("where they come", listing(x).substring(listing(x).indexOf("5/2/1")), "5/2/1/1/0 PGM=A|6/3/1/4/0 A,K=2,B,L=W|7/3/1/2/0 K=1,K=2|19/3/1/3/1 Y,K=1,Z|20/3/1/1/1 1|21/3/1/0/1 "
            + "|8/2/1/1/0 PGM=B|10/3/1/0/0 |11/7/1/1/0 A|12/3/1/1/0 G|22/3/1/1/1 Q|13/9/1/0/0 ");
        x = of("//J JOB", "//P PROC", "//S EXEC PGM=A", "//T EXEC PGM=B", "//D DD", "// PEND", "// EXEC P", "//S.D DD 1", "//T.E DD 2");
        due("behind the EXEC without one", x.expand(), 7);
        due("the lines", listing(x), "1/1/0/0/0 |7/2/0/1/0 P|3/2/1/1/0 PGM=A|8/3/1/1/1 1|4/2/1/1/0 PGM=B|5/3/1/0/0 |9/3/1/1/1 2");
        x = of("//J JOB", "//P PROC A=1", "// EXEC Q", "//D DD &A", "//S.E DD &A.&B", "//T EXEC PGM=X", "// PEND", "//Q PROC A=2", "//S EXEC PGM=Y", "//D DD Z", "// PEND", "// SET B=7", "// EXEC P,A=5", "//D DD &A&B");
        due("in a procedure", x.expand(), 8);
        due("each as it stands", listing(x), "1/1/0/0/0 |13/2/0/2/0 P,A=5|3/2/1/1/0 Q|9/2/2/1/0 PGM=Y|10/3/2/1/1 5|5/3/2/1/1 57|6/2/1/1/0 PGM=X|14/3/1/1/1 7");
        due("and missing", x.count(5), 1);
        x = of("//J JOB", "//P PROC", "//S EXEC PGM=A", "//D DD", "// DD 1", "// PEND", "// EXEC P", "//D DD X", "// DD Y");
        x.expand();
        due("a DD without a name changes none", listing(x), "1/1/0/0/0 |7/2/0/1/0 P|3/2/1/1/0 PGM=A|4/3/1/1/1 X|5/3/1/1/0 1|9/3/1/1/1 Y");
    }

    private static void overridesOfSteps() {
        due("a step that isn't there", expandOf(joined(STEPS, "//U.D DD")), -6);
        due("a step that runs no program", expandOf("//J JOB", "//P PROC", "//S EXEC Q", "//T EXEC PGM=A", "// PEND", "//Q PROC", "// PEND", "// EXEC P", "//S.D DD"), -6);
        due("a step of a procedure called there", expandOf("//J JOB", "//P PROC", "// EXEC Q", "// PEND", "//Q PROC", "//S EXEC PGM=A", "// PEND", "// EXEC P", "//S.D DD"), -6);
        due("no step that runs a program", expandOf("//J JOB", "//P PROC", "// EXEC Q", "// PEND", "//Q PROC", "//S EXEC PGM=A", "// PEND", "// EXEC P", "//D DD"), -6);
        due("told ahead of what is in the procedure", expandOf("//J JOB", "//P PROC", "// EXEC NONE", "// PEND", "// EXEC P", "//S.D DD"), -6);
        due("behind -5", expandOf("//J JOB", "// EXEC P", "//S.D DD"), -5);
        due("behind a ring", expandOf("//J JOB", "//P PROC", "// EXEC P", "//S.D DD", "// PEND", "// EXEC P"), -1);
        JobText x = of(joined(STEPS, "//U.D DD"));
        x.expand();
        due("no name then", x.ring(0), -1);
        due("no lines then", x.count(4), 0);
    }

    /** The overrides' values are met ahead of the procedure's turn, so ahead of -5, a ring and -6. */
    private static void overridesAheadOfTheCall() {
        due("missing ahead of -5", outcomeOf("//J JOB", "// EXEC PROC", "//M DD E,A=&B"), "-5 1 PROC");
        due("of all overrides", outcomeOf("//J JOB", "// EXEC N,K=&A", "//M DD &B", "// DD &C.&D", "//S.M DD"), "-5 4 N");
        due("PROC to PEND aside", outcomeOf("//J JOB", "// EXEC N", "//M DD &B", "//P PROC A=&X", "// EXEC PGM=&Y", "// PEND", "//O DD &C"), "-5 2 N");
        due("not of a DD that is no override", outcomeOf("//J JOB", "// EXEC N", "// SET A=1", "//M DD &B"), "-5 0 N");
        due("not what is replaced", outcomeOf("//J JOB", "// SET B=1", "// EXEC N", "//M DD &B&C"), "-5 1 N");
        due("in a procedure", outcomeOf("//J JOB", "//P PROC A=1", "// EXEC N", "//M DD &A&B&C", "// PEND", "// EXEC P,B=2", "//S.M DD &A"), "-6 1 ");
        due("in a procedure that is called", outcomeOf("//J JOB", "//P PROC A=1", "// EXEC N", "//M DD &A&B&C", "// PEND", "// EXEC P,B=2"), "-5 1 N");
        due("ahead of a ring", outcomeOf("//J JOB", "//P PROC", "// EXEC P", "//S.D DD &A", "// PEND", "// EXEC P"), "-1 1 P");
        due("ahead of -6", outcomeOf("//J JOB", "//P PROC", "// EXEC PGM=&A", "// PEND", "// EXEC P", "//D DD &A", "//U.D DD &B"), "-6 2 ");
        String[] head = {"//J JOB", "// SET B=ABCDEFGHIJKLMNOPQRSTUVWXYZ1234"};
        due("-4 ahead of -5", outcomeOf(joined(head, "// EXEC N", "//M DD &A,&B.5,&A")), "-4 1 ");
        due("-4 ahead of a ring", outcomeOf(joined(head, "//P PROC", "// EXEC P", "//D DD &B.5", "// PEND", "// EXEC P")), "-4 0 ");
        due("-4 ahead of -6", outcomeOf(joined(head, "//P PROC", "// PEND", "// EXEC P", "//S.D DD", "//S.E DD &B.5")), "-4 0 ");
        due("-4 of the EXEC ahead of its overrides", outcomeOf(joined(head, "// EXEC N,A=&B.5", "//M DD &A")), "-4 0 ");
    }

    private static void expandFailures() {
        String fifteen = "ABCDEFGHIJKLMNO";
        String[] head = {"//J JOB", "// SET A=" + fifteen, "// SET B=&A&A"};
        due("thirty signs", expandedLetters(joined(head, "// EXEC PGM=&B")), "PGM=" + fifteen + fifteen);
        due("31 signs", expandOf(joined(head, "// EXEC PGM=&B.1")), -4);
        due("31 signs in a SET", expandOf(joined(head, "// SET C=&B.1")), -4);
        due("31 signs with brackets", expandOf(joined(head, "// EXEC PGM=A,(&A&A)")), -4);
        due("31 signs in an override", expandOf(joined(head, "//P PROC", "//S EXEC PGM=A", "// PEND", "// EXEC P", "//D DD &B.1")), -4);
        due("the first that comes: -4", expandOf(joined(head, "// EXEC PGM=&B.1", "// EXEC NONE")), -4);
        due("the first that comes: -5", expandOf(joined(head, "// EXEC NONE", "// EXEC PGM=&B.1")), -5);
        due("-4 of the EXEC that calls", expandOf(joined(head, "// EXEC NONE,K=&B.1")), -4);
        String[] ten = {"//J JOB", "//P PROC", "//S EXEC PGM=A", "//D DD 1,2,3,4,5,A=1,B=2,C=3,D=4,E=5", "// PEND", "// EXEC P"};
        due("ten parameters", expandOf(joined(ten, "//D DD 6,A=7")), 4);
        due("eleven parameters", expandOf(joined(ten, "//D DD F=7")), -7);
        due("eleven by place and key", expandOf(joined(ten, "//D DD 1,2,3,4,5,6")), -7);
        due("fewer by place", expandOf(joined(ten, "//D DD 1,F=6,G=7,H=8,I=9")), 4);
        JobText x = of(joined(ten, "//D DD F=7"));
        x.expand();
        due("no lines then", x.at(0, 0), -1);
        due("no letters then", x.letter(0, 0), -1);
    }

    private static void expandLimits() {
        StringBuilder all = new StringBuilder("//J JOB\n//P PROC\n//S EXEC PGM=A\n//D DD\n// PEND\n");
        for (int i = 0; i < 32; i++) {
            all.append("// EXEC P\n");
        }
        JobText x = new JobText();
        load(x, all + "// EXEC PGM=B\n// EXEC PGM=C\n// IF D\n// SET E=F\n// ENDIF\n");
        x.read();
        due("101 lines", x.expand(), -3);
        due("no lines then", x.count(4), 0);
        load(x, all + "// EXEC PGM=B\n// EXEC PGM=C\n// SET E=F\n// EXEC PGM=&E\n");
        x.read();
        due("100 lines", x.expand(), 100);
        due("the last", lettersOf(x, 99), "PGM=F");
        due("behind the last", x.at(100, 0), -1);
        x = new JobText();
        load(x, all + "// EXEC PGM=B\n// EXEC PGM=C\n// EXEC P\n//N DD\n");
        x.read();
        due("with a line added", x.expand(), -3);
        StringBuilder chain = new StringBuilder("//J JOB\n// EXEC A0\n");
        for (int i = 0; i < 90; i++) {
            chain.append("//A").append(i).append(" PROC\n// EXEC A").append(i + 1).append("\n// PEND\n");
        }
        x = new JobText();
        load(x, chain + "//A90 PROC\n// SET A=1\n// PEND\n");
        x.read();
        due("a deep chain", x.expand(), 92);
        due("its depth", x.at(91, 2), 90);
    }

    // ---- promise 11

    private static void rings() {
        JobText x = of("//J JOB", "//P PROC", "// EXEC Q", "// PEND", "//QQ PROC", "// EXEC P", "// PEND", "// EXEC QQ");
        due("not there in a procedure", x.expand() + ringOf(x), "-5Q");
        x = of("//J JOB", "//P PROC", "// EXEC QRSTUVWX", "// PEND", "//QRSTUVWX PROC", "// EXEC QRSTUVWX", "// PEND", "// EXEC P");
        due("a ring of one", x.expand() + ringOf(x), "-1QRSTUVWX");
        due("k below 0", x.ring(-1), -1);
        due("k far", x.ring(Integer.MAX_VALUE), -1);
        x = of("//J JOB", "//P PROC", "// PEND", "// EXEC P", "// EXEC P");
        due("twice is no ring", x.expand() + ringOf(x), "3");
        x = of("//P JOB", "//P PROC", "// PEND", "// EXEC P");
        due("a job of that name is none", x.expand(), 2);
        x = of("//J JOB", "// EXEC P,PROC=A2345678,PROC=Q");
        due("the first key PROC's name", x.expand() + ringOf(x), "-5A2345678");
        due("a symbol is no name to call", expandOf("//J JOB", "// SET A=P", "//P PROC", "// PEND", "// EXEC &A"), -2);
        readOf(x, "//J JOB");
        due("the name stays behind read", ringOf(x), "A2345678");
        due("expand", x.expand(), 1);
        due("and goes with the next expand", ringOf(x), "");
        x = of("//P PROC", "// EXEC Q", "// PEND");
        readOf(x, "//J JOB", "//Q PROC", "// EXEC P", "// PEND", "// EXEC Q");
        due("a ring over text and library", x.expand() + ringOf(x), "-1Q");
    }

    private static void linesStay() {
        JobText x = of("//J JOB", "// EXEC PGM=&A");
        due("expand", x.expand(), 2);
        due("missing", x.count(5), 1);
        due("a faulty text", readOf(x, "X"), -2);
        due("no job", x.expand(), -2);
        due("all stays", listing(x), "1/1/0/0/0 |2/2/0/1/0 PGM=");
        due("lines", x.count(4), 2);
        due("missing stays", x.count(5), 1);
        readOf(x, "//K JOB", "// EXEC NONE");
        due("lines stay behind read", x.count(4), 2);
        due("another expand", x.expand(), -5);
        due("its lines", x.count(4), 0);
        due("its missing", x.count(5), 0);
        readOf(x, "//P PROC", "// PEND");
        due("no job again", x.expand(), -2);
        due("the name stays", ringOf(x), "NONE");
    }

    // ---- promise 12

    private static void counts() {
        JobText x = of("//P PROC", "// PEND", "//Q PROC", "// PEND");
        readOf(x, "//J JOB", "// EXEC P,K=&L&M");
        load(x, "ABC");
        x.expand();
        due("counts", "" + x.count(0) + x.count(1) + x.count(2) + x.count(3) + x.count(4) + x.count(5) + x.count(6), "3220221");
        due("others", x.count(7) + x.count(-1) + x.count(Integer.MIN_VALUE) + x.count(Integer.MAX_VALUE), -4);
    }
}
