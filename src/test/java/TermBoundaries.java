/** A test of its own for each sentence of 'What it is' and 'Terms' that names a boundary: each method quotes its sentence. */
public final class TermBoundaries extends TextTest {
    private static final String THIRTY = "A23456789B23456789C23456789D23";

    public static void main(String[] args) {
        calls512();
        signs32To126And10();
        lastLineWithoutEnd();
        linesFrom1();
        columnsFrom1To71();
        commasInColumn71();
        namesOf1To8();
        namesOfLettersAndDigits();
        comments();
        silentLines();
        statementsAtOnceAName();
        operationUpToABlank();
        parametersUpToABlank();
        theyGoOn();
        atMostTenParameters();
        keys();
        valuesOfAtMost30();
        valuesOfSigns();
        valuesBetweenQuotes();
        valuesBetweenBrackets();
        operations();
        aTextIsAJob();
        proceduresAlone();
        aProcedureLiesInNone();
        ofTheJobOrAProcedure();
        ddOfTheLatestExec();
        atMost8Ifs();
        elsePerhaps();
        anExecRunsOrCalls();
        dataUpToItsEnd();
        dataOfWhichDd();
        faultsTheFirstOne();
        fault1();
        fault2();
        fault3();
        fault4();
        fault4AtTheEnd();
        fault5Missing();
        fault5Again();
        fault6();
        end();
    }

    private static String blanks(int n) {
        return " ".repeat(n);
    }

    /** A job with a step that runs a program, and these lines. */
    private static String inStep(String... lines) {
        return faultsOf(joined(new String[] {"//J JOB", "// EXEC PGM=A"}, lines));
    }

    /** The faults of a job with these lines. */
    private static String inJob(String... lines) {
        return faultsOf(joined(new String[] {"//J JOB"}, lines));
    }

    // An object is used for at most 512 calls after it has been made.
    private static void calls512() {
        JobText x = new JobText();
        StringBuilder full = new StringBuilder("//J JOB\n");
        for (int i = 0; i < 372; i++) {
            full.append("//*4567\n");
        }
        load(x, full + "// EXEC PGM=A23\n");
        due("a text of 3000 signs in 375 calls", x.read(), 2);
        due("its last line", x.statement(1, 0), 374);
        due("expanded", x.expand(), 2);
        for (int call = 379; call < 512; call++) {
            due("call " + call, x.letter(1, call % 7), (int) "PGM=A23".charAt(call % 7));
        }
        due("call 512", x.letter(1, 7), -1);
        x = new JobText();
        for (int call = 3; call <= 510; call += 3) {
            x.sign(0x2F2F4A204A4F4220L);
            due("read, call " + (call - 1), x.read(), 1);
            due("expand, call " + call, x.expand(), 1);
        }
        due("call 511", x.count(4), 1);
        due("call 512", x.count(6), 1);
    }

    // SIGNS are 32 .. 126, and 10.
    private static void signs32To126And10() {
        for (int c = 0; c < 256; c++) {
            boolean sign = c == 10 || c >= 32 && c <= 126;
            JobText x = new JobText();
            x.sign(c);
            due("sign " + c, x.count(0), sign ? 1 : 0);
            x.sign((long) c << 56 | 0x41);
            due("sign " + c + " ahead of A", x.count(0), sign ? 3 : 1);
        }
    }

    // .. and 10, which ends a LINE (the last one may stand without).
    private static void lastLineWithoutEnd() {
        String[] texts = {"", "X", "X\n", "\n", "\n\n", "X\nX", "X\nX\n", "X\n\n", "\nX", "//", "//\n", "//\nX", "//J JOB", "//J JOB\n", "//J JOB\n\n", "\n//J JOB"};
        int[] answers = {0, -2, -2, -2, -3, -3, -3, -3, -3, 0, 0, -2, 1, 1, -2, -2};
        for (int i = 0; i < texts.length; i++) {
            JobText x = new JobText();
            load(x, texts[i]);
            due("read of " + texts[i].replace('\n', '|'), x.read(), answers[i]);
        }
        JobText x = new JobText();
        load(x, "//J JOB\n// IF A");
        x.read();
        due("the last line stands without: it is the text's last", faultList(x), "2:1:4");
        load(x, "X");
        x.read();
        due("the next text begins with a line of its own", faultList(x), "1:1:1");
    }

    // Lines are numbered from 1 on.
    private static void linesFrom1() {
        JobText x = of("//J JOB", "//*", "// EXEC PGM=A", "//D DD *", "X", "/*", "//E DD", "//F DD");
        due("lines of statements", "" + x.statement(0, 0) + x.statement(1, 0) + x.statement(2, 0) + x.statement(3, 0) + x.statement(4, 0), "13478");
        due("of data", x.data(2, 0), 5);
        due("of faults", faultsOf("X", "//*", "X", "//", "X"), "1:1:1 3:1:1 5:1:1");
    }

    // Of a line 71 COLUMNS count, from 1 on.
    private static void columnsFrom1To71() {
        due("an operation up to column 71", faultsOf("//J" + blanks(65) + "JOB"), "");
        due("and signs behind it", faultsOf("//J" + blanks(65) + "JOBS AND MORE, (AS LONG AS IT GOES" + blanks(200) + "X"), "");
        due("an operation up to column 72", faultsOf("//J" + blanks(66) + "JOB"), "1:70:2:1");
        due("one sign of it in column 71", faultsOf("//J" + blanks(67) + "JOB"), "1:71:2:1");
        due("none in column 71", faultsOf("//J" + blanks(68) + "JOB"), "1:72:2");
        due("the line's end in column 71", faultsOf("//J" + blanks(68)), "1:72:2");
        due("the line's end in column 70", faultsOf("//J" + blanks(67)), "1:71:2");
        due("a value up to column 71", parametersOf(of("//J" + blanks(58) + "JOB 123456"), 0), "123456");
        due("a value up to column 72", parametersOf(of("//J" + blanks(59) + "JOB 123456"), 0), "12345");
        due("no parameter in column 71", parametersOf(of("//J" + blanks(64) + "JOB A"), 0) + of("//J" + blanks(64) + "JOB A").statement(0, 2), "0");
        due("a parameter in column 71", parametersOf(of("//J" + blanks(63) + "JOB A"), 0), "A");
        due("a quote closed in column 71", faultsOf("//J" + blanks(60) + "JOB 'AB'"), "");
        due("a quote closed in column 72", faultsOf("//J" + blanks(61) + "JOB 'AB'"), "1:72:3");
        due("a bracket closed in column 71", faultsOf("//J" + blanks(60) + "JOB (AB)"), "");
        due("a bracket closed in column 72", faultsOf("//J" + blanks(61) + "JOB (AB)"), "1:72:3");
        due("a key's = in column 71", parametersOf(of("//J" + blanks(62) + "JOB A=B"), 0), "A=");
        due("a key's = in column 72", parametersOf(of("//J" + blanks(63) + "JOB A=B"), 0), "A");
        due("a sign that can't be in column 71", faultsOf("//J" + blanks(61) + "JOB AB)"), "1:71:3");
        due("a sign that can't be in column 72", faultsOf("//J" + blanks(62) + "JOB AB)"), "");
        due("a line of data", inStep("//D DD *", blanks(71) + "//", "X".repeat(300)), "");
        due("// in columns 1 and 2 alone", faultsOf(" //J JOB"), "1:1:1");
    }

    // Of a line 71 COLUMNS count: for lines that go on.
    private static void commasInColumn71() {
        due("a comma in column 71", parametersOf(of("//J" + blanks(63) + "JOB ,", "// B"), 0), "|B");
        due("a comma in column 72", parametersOf(of("//J" + blanks(63) + "JOB A,"), 0), "A");
        due("a comma in column 72 and a line more", faultsOf("//J" + blanks(63) + "JOB A,", "// B"), "2:4:2:1");
        due("a sign behind the comma in column 72", parametersOf(of("//J" + blanks(63) + "JOB ,C", "// B"), 0), "|B");
        due("going on in column 71", parametersOf(of("//J JOB A,", "//" + blanks(68) + "BC"), 0), "A|B");
        due("going on in column 72", faultsOf("//J JOB A,", "//" + blanks(69) + "B"), "2:1:3");
        due("a comma between brackets in column 71", parametersOf(of("//J" + blanks(62) + "JOB (,A)", "// B)"), 0), "(,B)");
        due("an 11th in column 71", faultsOf("//J" + blanks(53) + "JOB ,,,,,,,,,,A"), "1:71:3");
        due("an 11th in column 72", faultsOf("//J" + blanks(54) + "JOB ,,,,,,,,,,A", "// B"), "2:4:3");
    }

    // NAMES are of 1 .. 8 ..
    private static void namesOf1To8() {
        String eight = "ABCDEFGH";
        for (int n = 1; n <= 10; n++) {
            String name = "ABCDEFGHIJ".substring(0, n);
            boolean well = n <= 8;
            due("a name of " + n, faultsOf("//" + name + " JOB"), well ? "" : "1:3:2");
            due("a first name of " + n, inJob("// EXEC P", "//" + name + "." + eight + " DD"), well ? "" : "3:3:2");
            due("a second name of " + n, inJob("// EXEC P", "//" + eight + "." + name + " DD"), well ? "" : "3:3:2");
            due("a key of " + n, faultsOf("//J JOB " + name + "=V"), well ? "" : "1:" + (9 + n) + ":3");
            due("a name to call of " + n, inJob("// EXEC " + name), well ? "" : "2:4:6");
            due("a name to call by key of " + n, inJob("// EXEC PROC=" + name), well ? "" : "2:4:6");
            due("a symbol of " + n, expandedLetters("//J JOB", "// SET " + (well ? name : eight) + "=#", "// EXEC PGM=&" + name), "PGM=#" + (well ? "" : name.substring(8)));
        }
        due("signs of the longest names", of("//J JOB", "// EXEC P", "//ABCDEFGH.IJKLMNOP DD").statement(2, 4), 17);
        due("no name on one side of the point", inJob("// EXEC P", "//.A DD", "//A. DD", "//. DD"), "3:3:2 4:3:2 5:3:2");
    }

    // NAMES are of .. letters A .. Z and digits, a letter first.
    private static void namesOfLettersAndDigits() {
        for (char c = 33; c <= 126; c++) {
            boolean letter = c >= 'A' && c <= 'Z';
            boolean either = letter || c >= '0' && c <= '9';
            if (c != '*') {
                due("a name " + c, faultsOf("//" + c + " JOB"), letter ? "" : "1:3:2");
            }
            due("a name A" + c, faultsOf("//A" + c + " JOB"), either ? "" : "1:3:2");
            due("a name ABCDEFG" + c, faultsOf("//ABCDEFG" + c + " JOB"), either ? "" : "1:3:2");
            due("a second name " + c, inJob("// EXEC P", "//A." + c + " DD"), letter ? "" : "3:3:2");
            due("a second name B" + c, inJob("// EXEC P", "//A.B" + c + " DD"), either ? "" : "3:3:2");
            boolean plain = ",='()".indexOf(c) < 0;
            if (plain) {
                due("a name to call " + c, inJob("// EXEC " + c), letter ? "" : "2:4:6");
                due("a name to call A" + c, inJob("// EXEC A" + c), either ? "" : "2:4:6");
                due("a key " + c, faultsOf("//J JOB " + c + "=V"), letter ? "" : "1:10:3");
                due("a key A" + c, faultsOf("//J JOB A" + c + "=V"), either ? "" : "1:11:3");
                due("a symbol " + c, expandedLetters("//J JOB", "// SET " + (letter ? c : 'A') + "=#", "// EXEC PGM=(&" + c + ")"), "PGM=(" + (letter ? "#" : "&" + c) + ")");
                due("a symbol B" + c, expandedLetters("//J JOB", "// SET B" + (either ? c : "") + "=#", "// EXEC PGM=(&B" + c + ")"), "PGM=(#" + (either || c == '.' ? "" : c) + ")");
            }
        }
    }

    // A line that begins with // and * is a COMMENT.
    private static void comments() {
        due("comments", faultsOf("//*", "//* ", "//*X", "//**", "//*J JOB A=B=C", "//* 'A", "//J JOB", "//*"), "");
        due("are no statements", of("//*", "//J JOB", "//* EXEC PGM=A").count(2), 1);
        due("behind a blank it is none", faultsOf("// *"), "1:4:2:1");
        due("with one stroke it is none", faultsOf("/*", "/ *"), "1:1:1 2:1:1");
        due("a comment is read for itself behind a comma of its own", faultsOf("//J JOB", "//* A,", "X"), "3:1:1");
    }

    // One of // and blanks says nothing.
    private static void silentLines() {
        due("none, one, many, all blanks", faultsOf("//", "// ", "//" + blanks(10), "//" + blanks(69), "//" + blanks(70), "//" + blanks(69) + "X"), "");
        due("a sign in column 71", faultsOf("//" + blanks(68) + "X"), "1:71:2:1");
        due("it is no statement", of("//", "//J JOB", "//").count(2), 1);
    }

    // .. a STATEMENT: at once a name, or two with a point between, or none; a blank or more;
    private static void statementsAtOnceAName() {
        due("one blank, and more", faultsOf("//J JOB", "//S     EXEC PGM=A", "//     EXEC PGM=A"), "");
        due("no blank", faultsOf("//JOB"), "1:6:2");
        due("a name behind a blank is an operation", faultsOf("// J JOB"), "1:4:2:1");
        due("names and none", "" + of("//J JOB", "// EXEC P", "//A.B DD").statement(0, 4) + of("//J JOB", "// EXEC P").statement(1, 4) + of("//J JOB", "// EXEC P", "//A.B DD").statement(2, 4), "103");
        due("three with points between", inJob("// EXEC P", "//A.B.C DD"), "3:3:2");
    }

    // .. an OPERATION, up to a blank;
    private static void operationUpToABlank() {
        due("a comma is of it", faultsOf("//J JOB,A"), "1:5:2:1");
        due("a point is of it", faultsOf("//J JOB."), "1:5:2:1");
        due("up to the line's end", faultsOf("//J JOB"), "");
        due("one sign less", faultsOf("//J JO"), "1:5:2:1");
        due("one sign more", faultsOf("//J JOBJ"), "1:5:2:1");
        due("a sign of it alone", faultsOf("//J ENDI"), "1:5:2:9");
    }

    // .. behind a blank or more, perhaps PARAMETERS, up to a blank that is not between quotes; what is behind is nothing.
    private static void parametersUpToABlank() {
        due("none", of("//J JOB").statement(0, 2), 0);
        due("none, and blanks", of("//J JOB    ").statement(0, 2), 0);
        due("behind many blanks", parametersOf(of("//J JOB     A,B"), 0), "A|B");
        due("up to a blank", parametersOf(of("//J JOB A,B C,D"), 0), "A|B");
        due("not one between quotes", parametersOf(of("//J JOB 'A B',C D"), 0), "'A B'|C");
        due("not one between doubled quotes", parametersOf(of("//J JOB 'A'' B' C'"), 0), "'A'' B'");
        due("one behind quotes", parametersOf(of("//J JOB 'A' 'B"), 0), "'A'");
        due("not one between quotes between brackets", parametersOf(of("//J JOB ('A B') ("), 0), "('A B')");
        due("one between brackets", faultsOf("//J JOB (A B)"), "1:11:3");
        due("what is behind is nothing", faultsOf("//J JOB A =", "// EXEC PGM=B (,'", "// SET A=B,C=D ,"), "");
    }

    // If they end with a comma they go on in the next line that is no comment: // , a blank or more, parameters.
    private static void theyGoOn() {
        due("behind one blank", parametersOf(of("//J JOB A,", "// B"), 0), "A|B");
        due("behind many", parametersOf(of("//J JOB A,", "//          B"), 0), "A|B");
        due("behind a remark", parametersOf(of("//J JOB A, NOTE", "// B,    NOTE", "// C NOTE,", "// EXEC PGM=X"), 0), "A|B|C");
        due("behind comments", parametersOf(of("//J JOB A,", "//*", "//* B", "//*,", "// C"), 0), "A|C");
        due("not behind blanks alone", faultsOf("//J JOB A,", "//  ", "// B"), "2:1:3 3:4:2:1");
        due("not behind //", faultsOf("//J JOB A,", "//"), "2:1:3");
        due("not without a blank", faultsOf("//J JOB A,", "//B"), "2:1:3");
        due("not without //", faultsOf("//J JOB A,", "   B"), "2:1:3");
        due("not behind what is no comment", faultsOf("//J JOB A,", "X/*", "//J JOB A,", "/X*", "//J JOB A,", "/*", "// B"), "2:1:3 4:1:3 6:1:3 7:4:2:1");
        due("not in an empty line", faultsOf("//J JOB A,", ""), "2:1:3");
        due("not behind the last line", faultsOf("//J JOB A,"), "1:1:3");
        due("not behind a last line that goes on", faultsOf("//J JOB A,", "// B,"), "2:1:3");
        due("not behind comments at the end", faultsOf("//J JOB A,", "//*", "//*"), "3:1:3");
        due("an operation's name goes on as a value", parametersOf(of("//J JOB A,", "// JOB B"), 0), "A|JOB");
        due("a key in the next line", parametersOf(of("//J JOB A,", "// K=V,", "// L="), 0), "A|K=V|L=");
        due("between brackets", parametersOf(of("//J JOB (A,", "//*", "// B,", "// (C,", "// D)),E"), 0), "(A,B,(C,D))|E");
        due("between brackets, a comma in both lines", parametersOf(of("//J JOB (A,", "// ,B)"), 0), "(A,,B)");
        due("the line behind", of("//J JOB A,", "// B", "// EXEC PGM=A").statement(1, 0), 3);
        due("an empty one ahead of a comma", parametersOf(of("//J JOB ,", "// ,", "// A"), 0), "||A");
    }

    // They are parted by commas, at most 10.
    private static void atMostTenParameters() {
        due("ten", of("//J JOB 1,2,3,4,5,6,7,8,9,A=").statement(0, 2), 10);
        due("nine commas alone", parametersOf(of("//J JOB 1,,,,,,,,,X"), 0), "1|||||||||X");
        due("eleven", faultsOf("//J JOB 1,2,3,4,5,6,7,8,9,0,1"), "1:29:3");
        due("ten commas, and an empty 11th", faultsOf("//J JOB 1,2,3,4,5,6,7,8,9,0,,"), "1:29:3");
        due("an 11th that is wrong", faultsOf("//J JOB 1,2,3,4,5,6,7,8,9,0,)"), "1:29:3");
        due("a wrong 10th", faultsOf("//J JOB 1,2,3,4,5,6,7,8,9,)"), "1:27:3");
        due("ten over ten lines", parametersOf(of("//J JOB 1,", "// 2,", "// 3,", "// 4,", "// 5,", "// 6,", "// 7,", "// 8,", "// 9,", "// 10"), 0), "1|2|3|4|5|6|7|8|9|10");
        due("an 11th in the 11th line", faultsOf("//J JOB 1,", "// 2,", "// 3,", "// 4,", "// 5,", "// 6,", "// 7,", "// 8,", "// 9,", "// 10,", "//     11"), "11:8:3");
        due("no 11th in the next line", faultsOf("//J JOB 1,2,3,4,5,6,7,8,9,0,", "//X"), "2:1:3");
        due("ten by key", of("//J JOB A=,A=,A=,A=,A=,A=,A=,A=,A=,A=").statement(0, 3), 0);
        due("commas between brackets and quotes part none", of("//J JOB (,,,,,,,,,,,,),',,,,,,,,,,,,'").statement(0, 2), 2);
    }

    // By KEY: a name, = and a VALUE; else by PLACE: a value.
    private static void keys() {
        JobText x = of("//J JOB A=B,C,D=,=", "// EXEC PGM=A");
        due("an = without a name", faultList(x), "1:18:3 2:4:4");
        x = of("//J JOB A=B,C,D=,(E=F),'G=H',I='J=K',L=(M=N)");
        due("how many, and by place", "" + x.statement(0, 2) + x.statement(0, 3), "73");
        due("each", parametersOf(x, 0), "A=B|C|D=|(E=F)|'G=H'|I='J=K'|L=(M=N)");
        due("a second =", faultsOf("//J JOB A=B=C"), "1:12:3");
        due("two = at once", faultsOf("//J JOB A==C"), "1:11:3");
        due("a = behind quotes and brackets", faultsOf("//J JOB 'A'=B"), "1:12:3");
        due("a = behind a digit first", faultsOf("//J JOB 1A=B"), "1:11:3");
    }

    // A value is of at most 30 signs, perhaps none.
    private static void valuesOfAtMost30() {
        due("none, by place and by key", parametersOf(of("//J JOB A=,,B="), 0), "A=||B=");
        due("30 by place", parametersOf(of("//J JOB " + THIRTY + "," + THIRTY), 0), THIRTY + "|" + THIRTY);
        due("31 by place", faultsOf("//J JOB " + THIRTY + "X"), "1:39:3");
        due("30 by the longest key", parametersOf(of("//J JOB ABCDEFGH=" + THIRTY), 0), "ABCDEFGH=" + THIRTY);
        due("31 by the longest key", faultsOf("//J JOB ABCDEFGH=" + THIRTY + "X"), "1:48:3");
        String inner = THIRTY.substring(2);
        due("30 with quotes", parametersOf(of("//J JOB '" + inner + "'"), 0), "'" + inner + "'");
        due("31 with quotes", faultsOf("//J JOB '" + inner + "X'"), "1:39:3");
        due("30 with brackets", parametersOf(of("//J JOB (" + inner + ")"), 0), "(" + inner + ")");
        due("31 with brackets", faultsOf("//J JOB (" + inner + "X)"), "1:39:3");
        due("a doubled quote is two signs", parametersOf(of("//J JOB '" + inner.substring(2) + "'''"), 0), "'" + inner.substring(2) + "'''");
        due("and may be the 31st", faultsOf("//J JOB '" + inner.substring(1) + "'''"), "1:39:3");
        due("30 over two lines", parametersOf(of("//J JOB (" + "A".repeat(13) + ",", "// " + "B".repeat(14) + ")"), 0), "(" + "A".repeat(13) + "," + "B".repeat(14) + ")");
        due("31 over two lines", faultsOf("//J JOB (" + "A".repeat(13) + ",", "// " + "B".repeat(15) + ")"), "2:19:3");
        due("30 commas over 29 lines", parametersOf(of(joined(joined(new String[] {"//J JOB (,"}, times(27, "// ,")), "// )")), 0), "(" + ",".repeat(28) + ")");
        due("a 31st comma", faultsOf(joined(joined(new String[] {"//J JOB (,"}, times(29, "// ,")), "// )")), "30:4:3 31:4:2:1");
        due("a 31st sign in a line of its own", faultsOf(joined(joined(new String[] {"//J JOB (,"}, times(28, "// ,")), "// )")), "30:4:3");
        due("a comma behind 30 signs ends it", parametersOf(of("//J JOB A," + THIRTY + ",B"), 0), "A|" + THIRTY + "|B");
    }

    // .. signs but blank , = ' ( ) ;
    private static void valuesOfSigns() {
        for (char c = 33; c <= 126; c++) {
            String want = c == ',' ? "1:1:3" : c == '=' || c == ')' ? "1:9:3" : c == '\'' || c == '(' ? "1:10:3" : "";
            due("a value " + c, faultsOf("//J JOB " + c), want);
            want = c == ',' ? "1:1:3" : c == '=' || c == ')' ? "1:12:3" : c == '\'' || c == '(' ? "1:13:3" : "";
            due("a value A" + c + " by key", faultsOf("//J JOB K=A" + c), want);
            if (want.isEmpty()) {
                due("its signs", parametersOf(of("//J JOB " + c + ",B" + c + ",K=" + c), 0), c + "|B" + c + "|K=" + c);
            }
        }
    }

    // .. or between two ' any signs, a ' doubled;
    private static void valuesBetweenQuotes() {
        for (char c = 32; c <= 126; c++) {
            due("between quotes " + c, faultsOf("//J JOB '" + c + "'"), c == '\'' ? "1:12:3" : "");
            if (c != '\'') {
                due("its signs", parametersOf(of("//J JOB '" + c + "',K='A" + c + "'"), 0), "'" + c + "'|K='A" + c + "'");
            }
        }
        due("nothing between", parametersOf(of("//J JOB '',K=''"), 0), "''|K=''");
        due("a doubled one alone", parametersOf(of("//J JOB ''''"), 0), "''''");
        due("an odd one", faultsOf("//J JOB '", "//J JOB '''", "//J JOB '''''"), "1:10:3 2:12:3 3:14:3");
        due("open up to the end, blanks and all", faultsOf("//J JOB 'A   "), "1:14:3");
        due("open, and a comma at the end", faultsOf("//J JOB 'A,", "//K JOB B"), "1:12:3");
    }

    // .. or between ( and ) such, or , or = , or again between ( and ).
    private static void valuesBetweenBrackets() {
        for (char c = 33; c <= 126; c++) {
            String want = c == '\'' || c == '(' ? "1:12:3" : c == ')' ? "1:11:3" : "";
            due("between brackets " + c, faultsOf("//J JOB (" + c + ")"), want);
            if (want.isEmpty()) {
                due("its signs", parametersOf(of("//J JOB (" + c + "),K=((" + c + "A))"), 0), "(" + c + ")|K=((" + c + "A))");
            }
        }
        due("nothing between", parametersOf(of("//J JOB (),(()),K=()"), 0), "()|(())|K=()");
        due("brackets between quotes are none", parametersOf(of("//J JOB (')'),('('),'('"), 0), "(')')|('(')|'('");
        due("quotes between brackets", parametersOf(of("//J JOB (A,'B C',D=(E,''))"), 0), "(A,'B C',D=(E,''))");
        due("as deep as 30 signs go", parametersOf(of("//J JOB " + "(".repeat(15) + ")".repeat(15)), 0), "(".repeat(15) + ")".repeat(15));
        due("deeper", faultsOf("//J JOB " + "(".repeat(16) + ")".repeat(16)), "1:39:3");
        due("one open at the end", faultsOf("//J JOB ((A)"), "1:13:3");
        due("one closed too often", faultsOf("//J JOB (A))"), "1:12:3");
        due("a blank", faultsOf("//J JOB ( )"), "1:10:3");
        due("open, and a remark", faultsOf("//J JOB (A REMARK,"), "1:11:3");
    }

    // OPERATIONS: 1 JOB, 2 EXEC, 3 DD, 4 PROC, 5 PEND, 6 SET, 7 IF, 8 ELSE, 9 ENDIF.
    private static void operations() {
        JobText x = of("//J JOB", "// EXEC P", "//D DD", "//P PROC", "// PEND", "// SET A=B", "// IF A", "// ELSE", "// ENDIF");
        for (int i = 0; i < 9; i++) {
            due("operation " + (i + 1), x.statement(i, 1), i + 1);
        }
        due("and no other", faultsOf("// OUTPUT", "// exec", "// THEN", "// Jobs", "// JCLLIB"), "1:4:2:1 2:4:2:1 3:4:2:1 4:4:2:1 5:4:2:1");
    }

    // A text is a JOB, the first one of its statements, with all behind it ..
    private static void aTextIsAJob() {
        due("alone", of("//J JOB").count(6), 1);
        due("behind comments and silent lines", of("//*", "//", "//J JOB").count(6), 1);
        due("a second one", faultsOf("//J JOB", "//K JOB"), "2:5:4");
        due("of the same name", faultsOf("//J JOB", "//J JOB"), "2:5:4");
        due("behind a procedure", faultsOf("//P PROC", "// PEND", "//J JOB"), "3:5:4");
        due("in a procedure", faultsOf("//P PROC", "//J JOB", "// PEND"), "2:5:4");
        due("the first one that has no fault", faultsOf("// JOB", "//J JOB A)", "//1 JOB", "//J JOB", "//K JOB"), "1:3:5 2:10:3 3:3:2 5:5:4");
    }

    // .. or, without one, PROCEDURES alone.
    private static void proceduresAlone() {
        due("no procedure", new JobText().read(), 0);
        due("one", of("//P PROC", "// PEND").count(1), 1);
        due("comments and silent lines between", faultsOf("//*", "//P PROC", "//", "// PEND", "//*", "//Q PROC", "// PEND", "//"), "");
        due("each other statement outside", faultsOf("// EXEC PGM=A", "//P PROC", "// PEND", "// EXEC PGM=A", "//D DD", "// SET A=B", "// IF A", "// ELSE", "// ENDIF", "// PEND"), "1:4:4 4:4:4 5:5:4 6:4:4 7:4:4 8:4:4 9:4:4 10:4:4");
    }

    // A procedure goes from PROC to PEND, has a name, and lies in none and in no IF.
    private static void aProcedureLiesInNone() {
        due("an empty one", faultsOf("//P PROC", "// PEND"), "");
        due("in a job, in any place but an IF", inJob("//P PROC", "// PEND", "// EXEC P", "//D DD", "//Q PROC", "// PEND", "//E DD", "// IF A", "// ENDIF", "//R PROC", "// PEND"), "");
        due("without a name", faultsOf("// PROC"), "1:3:5");
        due("in another", faultsOf("//P PROC", "//Q PROC", "// PEND"), "2:5:4");
        due("in itself", faultsOf("//P PROC", "//P PROC", "// PEND"), "2:5:4");
        due("in an IF", inJob("// IF A", "//P PROC", "// ENDIF", "//Q PROC", "// PEND"), "3:5:4");
        due("in an IF's ELSE", inJob("// IF A", "// ELSE", "//P PROC", "// ENDIF"), "4:5:4");
        due("in an IF of a procedure", faultsOf("//P PROC", "// IF A", "//Q PROC", "// ENDIF", "// PEND"), "3:5:4");
        due("PEND alone", inJob("// PEND", "//P PROC", "// PEND", "// PEND"), "2:4:4 5:4:4");
        due("PEND in an IF of its own", faultsOf("//P PROC", "// IF A", "// PEND", "// ENDIF", "// PEND"), "3:4:4");
        due("PEND with a name and parameters", faultsOf("//P PROC", "//P PEND A,B=C"), "");
    }

    // SET, EXEC, IF, ELSE, ENDIF are of the job or of a procedure;
    private static void ofTheJobOrAProcedure() {
        String[] inside = {"// SET A=B", "// EXEC PGM=A", "// IF A", "// ELSE", "// ENDIF"};
        due("of the job", faultsOf(joined(new String[] {"//J JOB"}, inside)), "");
        due("of a procedure", faultsOf(joined(joined(new String[] {"//P PROC"}, inside), "// PEND")), "");
        due("of none", faultsOf(inside), "1:4:4 2:4:4 3:4:4 4:4:4 5:4:4");
        due("an IF of the job does not go on in a procedure", inJob("//P PROC", "// ELSE", "// ENDIF", "// PEND"), "3:4:4 4:4:4");
    }

    // DD is of the STEP of the latest EXEC there.
    private static void ddOfTheLatestExec() {
        due("without one", inJob("//D DD", "// EXEC PGM=A", "//D DD"), "2:5:4");
        due("without one in a procedure, though the job has one", inStep("//P PROC", "//D DD", "// EXEC PGM=B", "//D DD", "// PEND", "//D DD"), "4:5:4");
        due("without one in the second procedure", faultsOf("//P PROC", "// EXEC PGM=A", "// PEND", "//Q PROC", "//D DD", "// PEND"), "5:5:4");
        due("the job's behind a procedure", inJob("// EXEC Q", "//P PROC", "// EXEC PGM=A", "// PEND", "//S.D DD"), "");
        due("across an IF", inStep("// IF A", "//D DD", "// ELSE", "//E DD", "// ENDIF", "//D DD"), "8:3:5");
        due("the latest one", inStep("//D DD", "// EXEC PGM=B", "//D DD"), "");
    }

    // IFs (at most 8 within one another) ..
    private static void atMost8Ifs() {
        String[] eight = joined(new String[] {"//J JOB"}, times(8, "// IF A"));
        String[] closed = joined(eight, times(8, "// ENDIF"));
        due("eight", faultsOf(closed), "");
        due("a ninth", faultsOf(joined(joined(eight, "// IF A"), times(8, "// ENDIF"))), "10:4:4");
        due("a tenth and an ENDIF too many", faultsOf(joined(joined(eight, "// IF A", "// IF A"), times(9, "// ENDIF"))), "10:4:4 11:4:4 20:4:4");
        due("a ninth behind an ENDIF", faultsOf(joined(joined(eight, "// ENDIF", "// IF A"), times(8, "// ENDIF"))), "");
        due("eight again", faultsOf(joined(joined(closed, times(8, "// IF A")), times(8, "// ENDIF"))), "");
        due("eight with an ELSE each", faultsOf(joined(joined(eight, "// ELSE"), joined(joined(times(1, "// ENDIF"), "// ELSE"), joined(times(1, "// ENDIF"), times(6, "// ENDIF"))))), "");
        due("in a procedure", faultsOf(joined(joined(new String[] {"//P PROC"}, times(9, "// IF A")), joined(times(8, "// ENDIF"), "// PEND"))), "10:4:4");
    }

    // .. have an ELSE perhaps, and an ENDIF.
    private static void elsePerhaps() {
        due("without and with", inJob("// IF A", "// ENDIF", "// IF A", "// ELSE", "// ENDIF"), "");
        due("two", inJob("// IF A", "// ELSE", "// ELSE", "// ENDIF"), "4:4:4");
        due("none of its own", inJob("// ELSE", "// IF A", "// ENDIF", "// ELSE", "// ENDIF"), "2:4:4 5:4:4 6:4:4");
        due("that of the inner one is another's", inJob("// IF A", "// IF B", "// ELSE", "// ENDIF", "// ELSE", "// ENDIF"), "");
        due("that of the outer one is another's", inJob("// IF A", "// ELSE", "// IF B", "// ELSE", "// ENDIF", "// ENDIF"), "");
        due("an outer one's second behind an inner one's", inJob("// IF A", "// ELSE", "// IF B", "// ENDIF", "// ELSE", "// ENDIF"), "6:4:4");
        due("a deep one closed leaves none behind", inJob("// IF A", "// IF B", "// ELSE", "// ENDIF", "// IF C", "// ELSE", "// ENDIF", "// ENDIF"), "");
        due("no ENDIF", inJob("// IF A"), "2:1:4");
    }

    // An EXEC with the key PGM runs that; else it CALLS the procedure that its key PROC names, or its first parameter by place.
    private static void anExecRunsOrCalls() {
        String[] head = {"//J JOB", "//P PROC", "// SET X=P", "// PEND", "//Q PROC", "// SET X=Q", "// PEND"};
        String tail = "// EXEC PGM=&X";
        due("PGM", expandedLetters(joined(head, "// EXEC P,PROC=Q,PGM=A", tail)), "P,PROC=Q,PGM=A|PGM=");
        due("PGM of no value", expandedLetters(joined(head, "// EXEC P,PGM=", tail)), "P,PGM=|PGM=");
        due("PROC", expandedLetters(joined(head, "// EXEC P,PROC=Q", tail)), "P,PROC=Q|PGM=Q");
        due("by place", expandedLetters(joined(head, "// EXEC K=V,P,Q", tail)), "K=V,P,Q|PGM=P");
        due("a name like PGM is none", expandedLetters(joined(head, "// EXEC PGMS=A,P,PG=B", tail)), "PGMS=A,P,PG=B|PGM=P");
        due("a name like PROC is none", expandedLetters(joined(head, "// EXEC PROCS=Q,P,PRO=Q", tail)), "PROCS=Q,P,PRO=Q|PGM=P");
        due("a procedure of the name PGM", expandedLetters("//J JOB", "//PGM PROC", "// EXEC PGM=A", "// PEND", "// EXEC PGM"), "PGM|PGM=A");
    }

    // DATA: lines .. up to one that begins with /* , which is nothing else, or, of *, with //.
    private static void dataUpToItsEnd() {
        String[] head = {"//J JOB", "// EXEC PGM=A", "//D DD *"};
        due("none up to /*", dataOf(of(joined(head, "/*")), 2), "");
        due("none up to //", dataOf(of(joined(head, "//E DD")), 2), "");
        due("none up to the text's end", of(head).statement(2, 5), 0);
        due("one up to /*", dataOf(of(joined(head, "X", "/*")), 2), "4");
        due("one up to //", dataOf(of(joined(head, "X", "//")), 2), "4");
        due("one up to the text's end", dataOf(of(joined(head, "X")), 2), "4");
        due("/* is nothing else", of(joined(head, "X", "/* DD", "//E DD")).count(2), 4);
        due("// is read", of(joined(head, "X", "//E DD")).count(2), 4);
        due("// may be a fault", faultsOf(joined(head, "X", "//E D")), "5:5:2:3");
        due("// may be a comment, and ends them", faultsOf(joined(head, "X", "//*", "X")), "6:1:1");
        due("// may say nothing, and ends them", faultsOf(joined(head, "X", "//", "X")), "6:1:1");
        due("/* ends them once", faultsOf(joined(head, "X", "/*", "/*")), "6:1:1");
        due("what is not quite an end", dataOf(of(joined(head, "", " ", "/", "*", "/ *", " /*", " //", "/X/", "*/", "/*")), 2), "4 5 6 7 8 9 10 11 12");
        String[] data = {"//J JOB", "// EXEC PGM=A", "//D DD DATA"};
        due("of DATA up to /*", dataOf(of(joined(data, "//E DD", "//*", "//", "X", "/*", "//F DD")), 2), "4 5 6 7");
        due("of DATA up to the text's end", dataOf(of(joined(data, "//E DD", "// IF")), 2), "4 5");
        due("of DATA none", dataOf(of(joined(data, "/*")), 2), "");
        due("behind lines that go on", dataOf(of(joined(new String[] {"//J JOB", "// EXEC PGM=A", "//D DD *,"}, "//*", "//  K=V", "X")), 2), "6");
    }

    // DATA: lines behind a DD (without a fault) whose first parameter is by place and * or DATA.
    private static void dataOfWhichDd() {
        due("*", inStep("//D DD *", "X"), "");
        due("DATA", inStep("//D DD DATA", "X"), "");
        due("* and more", inStep("//D DD *,A,K=V", "X"), "");
        due("no parameter", inStep("//D DD", "X"), "4:1:1");
        due("an empty one ahead", inStep("//D DD ,*", "X"), "4:1:1");
        due("a key ahead", inStep("//D DD K=V,*", "X"), "4:1:1");
        due("by key", inStep("//D DD K=*", "X", "//E DD DATA=", "X"), "4:1:1 6:1:1");
        due("another sign", inStep("//D DD X", "X", "//E DD +", "X", "//F DD XATA", "X", "//G DD DATE", "X", "//H DD D*TA", "X"), "4:1:1 6:1:1 8:1:1 10:1:1 12:1:1");
        due("one sign more or less", inStep("//D DD **", "X", "//E DD DAT", "X", "//F DD DATAS", "X", "//G DD '*'", "X", "//H DD (*)", "X"), "4:1:1 6:1:1 8:1:1 10:1:1 12:1:1");
        due("no DD", faultsOf("//J JOB *", "X", "// EXEC PGM=A,*", "X", "// IF *", "X", "// ENDIF DATA", "X"), "2:1:1 4:1:1 6:1:1 8:1:1");
        due("a DD with a fault of kind 2", inStep("//1 DD *", "X"), "3:3:2 4:1:1");
        due("a DD with a fault of kind 3", inStep("//D DD *,)", "X"), "3:10:3 4:1:1");
        due("a DD with a fault of kind 4", inJob("//D DD *", "X"), "2:5:4 3:1:1");
        due("a DD with a fault of kind 5", inStep("// DD *", "X"), "3:3:5 4:1:1");
    }

    // FAULTS of lines, of each the first one, by KIND.
    private static void faultsTheFirstOne() {
        due("2 ahead of all", inStep("//1 DD A)", "//A.B JOB A)", "// DDD A)"), "3:3:2 4:3:2 5:4:2:3");
        due("a name ahead of the operation", faultsOf("//1 FOO", "//A.B FOO", "//1"), "1:3:2 2:3:2 3:3:2");
        due("3 ahead of 4", inJob("// JOB A)"), "2:9:3");
        due("the first sign of several", faultsOf("//J JOB A),B)"), "1:10:3");
        due("4 ahead of 5", inJob("// JOB", "// DD", "//P PROC", "// PROC", "// PEND"), "2:4:4 3:4:4 5:4:4");
        due("4 ahead of 6", faultsOf("// EXEC", "// SET", "// IF"), "1:4:4 2:4:4 3:4:4");
        due("5 ahead of 6", inJob("//S EXEC PGM=A", "//S EXEC"), "3:3:5");
    }

    // 1 a line that doesn't begin with // , and is no data; .. 1 column 1.
    private static void fault1() {
        due("lines of all sorts", faultsOf("", " ", "/", "/*", "*", "J", " //J JOB", "/ /J JOB", "\\\\", "X".repeat(100)), "1:1:1 2:1:1 3:1:1 4:1:1 5:1:1 6:1:1 7:1:1 8:1:1 9:1:1 10:1:1");
        due("two strokes are enough", faultsOf("//"), "");
    }

    // 2 a name isn't so, or two where it is no DD; or no operation, or another one; .. where the name or operation begins (where it would).
    private static void fault2() {
        due("two where it is no DD", faultsOf("//A.B JOB", "//A.B EXEC PGM=A", "//A.B PROC", "//A.B PEND", "//A.B SET A=B", "//A.B IF A", "//A.B ELSE", "//A.B ENDIF", "//A.B"),
            "1:3:2 2:3:2 3:3:2 4:3:2 5:3:2 6:3:2 7:3:2 8:3:2 9:3:2");
        due("two where it is a DD", inJob("// EXEC P", "//A.B DD"), "");
        due("no operation", faultsOf("//A", "//ABCDEFGH", "//A ", "//A    "), "1:4:2 2:11:2 3:5:2 4:8:2");
        due("another one", faultsOf("//A B", "//A    B", "// B", "//    B C"), "1:5:2:1 2:8:2:1 3:4:2:1 4:7:2:1");
    }

    // 3 a parameter can't go on, or is an 11th, or they don't go on in the next line (which is not read then); ..
    // 3 of the sign that can't be, or the end (an 11th: its beginning; not going on: of that line 1; of the text's end: of its last line 1).
    private static void fault3() {
        due("the sign that can't be", faultsOf("//J JOB A(B))C"), "1:13:3");
        due("the sign in the line where it is", faultsOf("//J JOB A,", "//* C", "//   B,C=D=E", "//K JOB"), "3:11:3");
        due("the end", faultsOf("//J JOB (A", "//J JOB A,('B'"), "1:11:3 2:15:3");
        due("the end of the line where it is", faultsOf("//J JOB A,", "// (B"), "2:6:3");
        due("an 11th: its beginning", faultsOf("//J JOB ,,,,,,,,,,KEY=(V"), "1:19:3");
        due("not going on: that line, which is not read", faultsOf("//J JOB A,", "//K JOB", "//L JOB"), "2:1:3");
        due("not read, though it is faulty", faultsOf("//J JOB A,", "X", "//L JOB"), "2:1:3");
        due("not read, though it would go on itself", faultsOf("//J JOB A,", "//K JOB A,", "//L JOB"), "2:1:3");
        due("not read, behind comments", faultsOf("//J JOB A,", "//*", "//K JOB", "//L JOB"), "3:1:3");
        due("not read, behind a line that went on", faultsOf("//J JOB A,", "// B,", "//K JOB", "//L JOB"), "3:1:3");
        due("of the text's end: its last line", faultsOf("//L JOB", "// SET A=B,", "// C=D,", "//*"), "4:1:3");
        due("between brackets alike", faultsOf("//J JOB (A,", "//K JOB", "//L JOB (A,"), "2:1:3 3:1:3");
        due("the line behind the fault is read", faultsOf("//J JOB A),", "// B", "//K JOB"), "1:10:3 2:4:2:1");
    }

    // 4 a statement can't be there (also: a DD with two names in a step that calls nothing ..); .. 4 .. of the operation.
    private static void fault4() {
        due("the operation's column", inJob("//K     JOB", "//       PEND", "//ABCDEFGH DD"), "2:9:4 3:10:4 4:12:4");
        due("the statement's first line", inJob("//K JOB A,", "//*", "// B"), "2:5:4");
        due("two names where nothing is called", inStep("//A.B DD"), "3:7:4");
        due("two names where something is called", inJob("// EXEC P", "//A.B DD", "// EXEC P,PGM=A", "//A.B DD"), "5:7:4");
        due("two names without a step", inJob("//A.B DD"), "2:7:4");
    }

    // 4 .. at the text's end an IF or PROC that is open: its last line, column 1.
    private static void fault4AtTheEnd() {
        due("an IF", inJob("// IF A"), "2:1:4");
        due("an IF, and lines behind", inJob("// IF A", "// ELSE", "//D DD", "//*", "//"), "4:5:4 6:1:4");
        due("a PROC", faultsOf("//P PROC"), "1:1:4");
        due("a PROC of a job", inJob("//P PROC", "// EXEC PGM=A"), "3:1:4");
        due("an IF and a PROC", faultsOf("//P PROC", "// IF A", "// IF A"), "3:1:4");
        due("data at the end", faultsOf("//P PROC", "// EXEC PGM=A", "//D DD DATA", "// PEND", "X"), "5:1:4");
        due("a last line with a fault of its own", faultsOf("//P PROC", "X"), "2:1:1 2:1:4");
        due("a last line that should go on", faultsOf("//P PROC", "// SET A=B,"), "2:1:3 2:1:4");
        due("none open", inJob("//P PROC", "// IF A", "// ENDIF", "// PEND", "// IF A", "// ENDIF"), "");
        due("faulty ones are not open", inJob("// IF", "// PROC"), "2:4:6 3:3:5");
    }

    // 5 a name is missing (JOB, PROC, DD unless it is the one behind a DD with one name or none) ..; 5 the third.
    private static void fault5Missing() {
        due("JOB, PROC, DD", faultsOf("// JOB", "//       PROC", "//J JOB", "// EXEC PGM=A", "//    DD A,", "// B"), "1:3:5 2:3:5 5:3:5");
        due("not of others", faultsOf("//J JOB", "// SET A=B", "// IF A", "// ELSE", "// ENDIF", "// EXEC PGM=A", "//P PROC", "// PEND"), "");
        due("behind a DD with one name, or none", inStep("//A DD", "// DD", "// DD", "// DD"), "");
        due("behind a DD with two", inJob("// EXEC P", "//A.B DD", "// DD", "//C DD", "// DD"), "4:3:5");
        due("behind data", inStep("//A DD *", "X", "/*", "// DD *", "X", "// DD"), "");
        due("behind comments", inStep("//A DD", "//*", "//", "// DD"), "");
        due("behind a DD of the step ahead", inStep("//A DD", "// EXEC PGM=A", "// DD"), "5:3:5");
        due("behind each other statement", inStep("//A DD", "// SET A=B", "// DD", "// IF A", "// DD", "// ELSE", "// DD", "// ENDIF", "// DD"), "5:3:5 7:3:5 9:3:5 11:3:5");
        due("behind a DD with a fault, which is not there", inStep("//A DD", "//B.C DD", "// DD"), "4:7:4");
    }

    // 5 .. or the same name again: of a PROC in the text, of an EXEC in the job or procedure, of a DD in its step.
    private static void fault5Again() {
        due("a PROC", inJob("//P PROC", "// PEND", "//Q PROC", "// PEND", "//P PROC", "// SET A=B"), "6:3:5");
        due("a PROC of the library is of another text", of("//P PROC", "// PEND").count(1) + readOf(of("//P PROC", "// PEND"), "//P PROC", "// PEND"), 3);
        due("an EXEC in the job", inJob("//S EXEC PGM=A", "//T EXEC PGM=A", "// IF A", "//S EXEC P", "// ENDIF"), "5:3:5");
        due("an EXEC in a procedure", inJob("//S EXEC PGM=A", "//P PROC", "//S EXEC PGM=A", "//S EXEC PGM=A", "// PEND", "//Q PROC", "//S EXEC PGM=A", "// PEND", "//S EXEC PGM=A"), "5:3:5 10:3:5");
        due("a DD in its step", inStep("//D DD", "//E DD", "//D DD", "// EXEC PGM=A", "//D DD", "//D DD"), "5:3:5 8:3:5");
        due("a DD with two names", inJob("// EXEC P", "//D DD", "//S.D DD", "//T.D DD", "//S.E DD", "//S.D DD", "//D DD"), "7:3:5 8:3:5");
        due("none is not the same again", inStep("//D DD", "// DD", "// DD", "// EXEC PGM=A", "// EXEC PGM=A"), "");
        due("names of other operations", inJob("//J EXEC PGM=A", "//J DD", "//J SET A=B", "//J SET A=B", "//J IF A", "//J ELSE", "//J ENDIF", "//J PROC", "//J PEND"), "");
        due("names that are one sign apart", inJob("//AAAAAAAA EXEC PGM=A", "//AAAAAAAB EXEC PGM=A", "//AAAAAAA EXEC PGM=A", "//BAAAAAAA EXEC PGM=A"), "");
        due("the longest names again", inJob("//AAAAAAAA EXEC PGM=A", "//AAAAAAAA EXEC PGM=A"), "3:3:5");
    }

    // 6 parameters that can't be: EXEC without PGM or a name to call, SET without a key or with one by place, IF without one by place; .. 6 of the operation.
    private static void fault6() {
        due("EXEC", inJob("// EXEC", "//S   EXEC A=B", "// EXEC ,P", "// EXEC PROC=", "// EXEC '',P"), "2:4:6 3:7:6 4:4:6 5:4:6 6:4:6");
        due("EXEC that is well", inJob("// EXEC PGM=", "// EXEC P", "// EXEC A=B,P", "// EXEC PROC=P", "// EXEC A=B,PROC=P"), "");
        due("SET", inJob("// SET", "// SET A", "// SET A=B,C", "// SET A,B=C", "// SET A=B,,C=D"), "2:4:6 3:4:6 4:4:6 5:4:6 6:4:6");
        due("SET that is well", inJob("// SET A=", "// SET A=B,C=D", "// SET A=A,A=B"), "");
        due("IF", inJob("// IF", "// IF A=B", "//I IF A=B,C=D"), "2:4:6 3:4:6 4:5:6");
        due("IF that is well", inJob("// IF A", "// IF A=B,C", "// IF ,", "// A", "// IF ()", "// ENDIF", "// ENDIF", "// ENDIF", "// ENDIF"), "");
        due("others may have any, or none", faultsOf("//J JOB A,B=C", "// EXEC PGM=A", "//D DD", "//P PROC A,B=C", "// PEND A", "// IF A", "// ELSE A=B", "// ENDIF A"), "");
        due("the statement's first line", inJob("// SET A=B,", "// C"), "2:4:6");
    }
}
