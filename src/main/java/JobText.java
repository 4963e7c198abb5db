import java.util.ArrayList;

/** Job control text: read with all its faults, kept as a job or a library, and expanded line by line. */
public final class JobText {
    public static final int NONE = -1;

    private static final int TEXT_SIGNS = 3000;
    private static final int COLUMNS = 71;
    private static final int NAME_SIGNS = 8;
    private static final int NAME_COLUMN = 3;
    private static final int VALUE_SIGNS = 30;
    private static final int PARAMETERS = 10;
    private static final int NESTED_IFS = 8;
    private static final int LISTED_FAULTS = 30;
    private static final int LIBRARY_PROCEDURES = 12;
    private static final int LINES = 100;
    private static final int FIRST_ROWS = 8;
    // Far above what a job of 100 lines can pass: 100 procedures of 500 statements.
    private static final int MANY = 1000000;

    private static final int JOB = 1;
    private static final int EXEC = 2;
    private static final int DD = 3;
    private static final int PROC = 4;
    private static final int PEND = 5;
    private static final int SET = 6;
    private static final int IF = 7;
    private static final int ELSE = 8;
    private static final int ENDIF = 9;

    private static final int NO_STATEMENT = 1;
    private static final int BAD_WORD = 2;
    private static final int BAD_PARAMETER = 3;
    private static final int BAD_PLACE = 4;
    private static final int BAD_NAME = 5;
    private static final int BAD_CHOICE = 6;

    private static final int RING = NONE;
    private static final int NO_JOB = -2;
    private static final int TOO_MANY_LINES = -3;
    private static final int TOO_LONG = -4;
    private static final int NO_PROCEDURE = -5;
    private static final int NO_STEP = -6;
    private static final int TOO_MANY_PARAMETERS = -7;

    // Names are packed a byte a sign, so that two of them are alike when the numbers are.
    private static final long PGM_KEY = ((long) 'P' << 16) | ('G' << 8) | 'M';
    private static final long PROC_KEY = ((long) 'P' << 24) | ('R' << 16) | ('O' << 8) | 'C';

    private final byte[] signs;
    private final Faults faults;
    private final ArrayList<Body> library;
    private final Expander expander;
    private int signCount;
    private Text text;

    public JobText() {
        signs = new byte[TEXT_SIGNS];
        faults = new Faults();
        library = new ArrayList<Body>();
        expander = new Expander();
    }

    public void sign(long c) {
        for (int shift = 56; shift >= 0; shift -= 8) {
            int one = (int) (c >>> shift) & 255;
            if (isSign(one) && signCount < signs.length) {
                signs[signCount] = (byte) one;
                signCount++;
            }
        }
    }

    public int read() {
        faults.clear();
        Text fresh = new Text();
        Lines lines = new Lines(signs, signCount);
        Reader reader = new Reader(lines, fresh, faults);
        int next = 1;
        for (int n = 0; n < lines.total() && next <= lines.total(); n++) {
            next = reader.readLine(next);
            reader.offer();
        }
        if (fresh.isOpen()) {
            faults.add(lines.total(), 1, BAD_PLACE, 0);
        }
        signCount = 0;
        text = null;
        if (faults.total() > 0) {
            return NONE - faults.total();
        }
        if (fresh.job() == null && !shelve(fresh)) {
            return NONE;
        }
        text = fresh;
        return fresh.size();
    }

    public int statement(int i, int what) {
        Statement s = statementOf(i);
        return s == null ? NONE : s.tell(what);
    }

    public int parameter(int i, int which, int k) {
        Statement s = statementOf(i);
        if (s == null || which < 0 || which >= s.count) {
            return NONE;
        }
        return s.rows.wholeSign(s.first + which, k);
    }

    public int data(int i, int k) {
        Statement s = statementOf(i);
        if (s == null || k < 0 || k >= s.dataLines) {
            return NONE;
        }
        return s.dataFirst + k;
    }

    public int fault(int i, int what) {
        return faults.tell(i, what);
    }

    public int expand() {
        if (!hasJob()) {
            return NO_JOB;
        }
        expander.start(text, library);
        for (int n = 0; n < MANY && expander.goesOn(); n++) {
            expander.advance();
        }
        return expander.finish();
    }

    public int at(int i, int what) {
        return expander.listing().tell(i, what);
    }

    public int letter(int i, int k) {
        return expander.listing().letterOf(i, k);
    }

    public int ring(int k) {
        return expander.calledSign(k);
    }

    public int count(int what) {
        switch (what) {
            case 0:
                return signCount;
            case 1:
                return library.size();
            case 2:
                return text == null ? 0 : text.size();
            case 3:
                return faults.total();
            case 4:
                return expander.listing().size();
            case 5:
                return expander.missing();
            case 6:
                return hasJob() ? 1 : 0;
            default:
                return NONE;
        }
    }

    private boolean hasJob() {
        return text != null && text.job() != null;
    }

    private Statement statementOf(int i) {
        return text == null ? null : text.get(i);
    }

    /** Whether the library takes all procedures of the text; if not, it stays as it was. */
    private boolean shelve(Text fresh) {
        ArrayList<Body> procedures = fresh.procedures();
        int more = 0;
        for (int i = 0; i < procedures.size(); i++) {
            if (indexOf(library, procedures.get(i).name()) == NONE) {
                more++;
            }
        }
        if (library.size() + more > LIBRARY_PROCEDURES) {
            return false;
        }
        for (int i = 0; i < procedures.size(); i++) {
            Body procedure = procedures.get(i);
            int old = indexOf(library, procedure.name());
            if (old == NONE) {
                library.add(procedure);
            } else {
                library.set(old, procedure);
            }
        }
        return true;
    }

    private static int indexOf(ArrayList<Body> procedures, long name) {
        for (int i = 0; i < procedures.size(); i++) {
            if (procedures.get(i).name() == name) {
                return i;
            }
        }
        return NONE;
    }

    private static boolean isSign(int c) {
        return c == '\n' || c >= 32 && c <= 126;
    }

    private static boolean isLetter(int c) {
        return c >= 'A' && c <= 'Z';
    }

    private static boolean isNameSign(int c) {
        return isLetter(c) || c >= '0' && c <= '9';
    }

    private static int nameLength(long name) {
        int length = 0;
        for (int shift = 0; shift < 64; shift += 8) {
            if (((name >>> shift) & 255) != 0) {
                length++;
            }
        }
        return length;
    }

    /** The k-th sign of a packed name; NONE beyond. */
    private static int nameSign(long name, int k) {
        int length = nameLength(name);
        if (k < 0 || k >= length) {
            return NONE;
        }
        return (int) (name >>> (8 * (length - 1 - k))) & 255;
    }

    private static String operationName(int operation) {
        switch (operation) {
            case JOB:
                return "JOB";
            case EXEC:
                return "EXEC";
            case DD:
                return "DD";
            case PROC:
                return "PROC";
            case PEND:
                return "PEND";
            case SET:
                return "SET";
            case IF:
                return "IF";
            case ELSE:
                return "ELSE";
            case ENDIF:
                return "ENDIF";
            default:
                return "";
        }
    }

    /** The faults of the latest text: all are counted, the first ones listed. */
    private static final class Faults {
        private final int[] lines = new int[LISTED_FAULTS];
        private final int[] columns = new int[LISTED_FAULTS];
        private final int[] kinds = new int[LISTED_FAULTS];
        private final int[] nearest = new int[LISTED_FAULTS];
        private int total;

        void clear() {
            total = 0;
        }

        int total() {
            return total;
        }

        void add(int line, int column, int kind, int near) {
            if (total >= 0 && total < LISTED_FAULTS) {
                lines[total] = line;
                columns[total] = column;
                kinds[total] = kind;
                nearest[total] = near;
            }
            total++;
        }

        int tell(int i, int what) {
            if (i < 0 || i >= total || i >= LISTED_FAULTS) {
                return NONE;
            }
            switch (what) {
                case 0:
                    return lines[i];
                case 1:
                    return columns[i];
                case 2:
                    return kinds[i];
                case 3:
                    return nearest[i];
                default:
                    return NONE;
            }
        }
    }

    /** Values one behind another, each with its key (0: by place) and room for 30 signs. */
    private static final class Rows {
        private long[] keys = new long[FIRST_ROWS];
        private int[] lengths = new int[FIRST_ROWS];
        private byte[] values = new byte[FIRST_ROWS * VALUE_SIGNS];
        private int size;

        int size() {
            return size;
        }

        void cut(int to) {
            if (to >= 0 && to < size) {
                size = to;
            }
        }

        /** A new value at the end, without signs yet. */
        void begin(long key) {
            if (size >= lengths.length) {
                grow();
            }
            keys[size] = key;
            lengths[size] = 0;
            size++;
        }

        private void grow() {
            int room = lengths.length * 2;
            long[] moreKeys = new long[room];
            int[] moreLengths = new int[room];
            byte[] moreValues = new byte[room * VALUE_SIGNS];
            System.arraycopy(keys, 0, moreKeys, 0, keys.length);
            System.arraycopy(lengths, 0, moreLengths, 0, lengths.length);
            System.arraycopy(values, 0, moreValues, 0, values.length);
            keys = moreKeys;
            lengths = moreLengths;
            values = moreValues;
        }

        /** A sign behind the last value; one that has no room is only counted, so that the value shows as too long. */
        void put(int c) {
            int last = size - 1;
            if (last < 0) {
                return;
            }
            int length = lengths[last];
            if (length < VALUE_SIGNS) {
                values[last * VALUE_SIGNS + length] = (byte) c;
            }
            lengths[last] = length + 1;
        }

        /** Another value behind the last one, if it is all between two quotes without them. */
        void putPlain(Rows from, int i) {
            int length = from.length(i);
            boolean quoted = length >= 2 && from.valueSign(i, 0) == '\'' && from.valueSign(i, length - 1) == '\'';
            int end = quoted ? length - 1 : length;
            for (int k = quoted ? 1 : 0; k < end; k++) {
                int c = from.valueSign(i, k);
                put(c);
                if (quoted && c == '\'' && k + 1 < end && from.valueSign(i, k + 1) == '\'') {
                    k++;
                }
            }
        }

        void copy(Rows from, int i) {
            begin(0);
            overwrite(size - 1, from, i);
        }

        void overwrite(int to, Rows from, int i) {
            if (to < 0 || to >= size || i < 0 || i >= from.size) {
                return;
            }
            keys[to] = from.keys[i];
            lengths[to] = from.lengths[i];
            System.arraycopy(from.values, i * VALUE_SIGNS, values, to * VALUE_SIGNS, VALUE_SIGNS);
        }

        /** The first one of the key among count of them, or NONE. */
        int find(long key, int first, int count) {
            for (int i = first; i >= 0 && i < size && i - first < count; i++) {
                if (keys[i] == key) {
                    return i;
                }
            }
            return NONE;
        }

        long key(int i) {
            return i < 0 || i >= size ? 0 : keys[i];
        }

        int length(int i) {
            return i < 0 || i >= size ? 0 : lengths[i];
        }

        int valueSign(int i, int k) {
            if (i < 0 || i >= size || k < 0 || k >= lengths[i] || k >= VALUE_SIGNS) {
                return NONE;
            }
            return values[i * VALUE_SIGNS + k];
        }

        /** The k-th sign of the key, = and the value; NONE beyond. */
        int wholeSign(int i, int k) {
            int named = nameLength(key(i));
            if (named == 0) {
                return valueSign(i, k);
            }
            if (k < named) {
                return nameSign(key(i), k);
            }
            return k == named ? '=' : valueSign(i, k - named - 1);
        }

        int wholeLength(int i) {
            int named = nameLength(key(i));
            return named == 0 ? length(i) : named + 1 + length(i);
        }

        boolean holds(int i, String value) {
            if (length(i) != value.length()) {
                return false;
            }
            for (int k = 0; k < value.length(); k++) {
                if (valueSign(i, k) != value.charAt(k)) {
                    return false;
                }
            }
            return true;
        }

        /** The value as a packed name; 0 if it is none. */
        long asName(int i) {
            if (length(i) > NAME_SIGNS || !isLetter(valueSign(i, 0))) {
                return 0;
            }
            long name = 0;
            for (int k = 0; k < length(i); k++) {
                int c = valueSign(i, k);
                if (!isNameSign(c)) {
                    return 0;
                }
                name = name << 8 | c;
            }
            return name;
        }
    }

    /** A statement with its parameters, which are rows of its text. */
    private static final class Statement {
        private final int line;
        private final Rows rows;
        private final int first;
        private int operation;
        private int column;
        private long step;
        private long name;
        private int nameSigns;
        private int count;
        private int places;
        private int dataFirst;
        private int dataLines;
        private Statement exec;

        Statement(int line, Rows rows) {
            this.line = line;
            this.rows = rows;
            this.first = rows.size();
        }

        boolean runs() {
            return operation == EXEC && rows.find(PGM_KEY, first, count) != NONE;
        }

        boolean calls() {
            return operation == EXEC && rows.find(PGM_KEY, first, count) == NONE;
        }

        /** The name that an EXEC calls if it doesn't run a program; 0 without one. */
        long callee() {
            int named = rows.find(PROC_KEY, first, count);
            return rows.asName(named == NONE ? rows.find(0, first, count) : named);
        }

        int tell(int what) {
            switch (what) {
                case 0:
                    return line;
                case 1:
                    return operation;
                case 2:
                    return count;
                case 3:
                    return places;
                case 4:
                    return nameSigns;
                case 5:
                    return dataLines;
                default:
                    return NONE;
            }
        }
    }

    /** The statements of a job or of a procedure, without the procedures that lie between them. */
    private static final class Body {
        private final Statement head;
        private final ArrayList<Statement> statements = new ArrayList<Statement>();
        private Statement latestExec;

        Body(Statement head) {
            this.head = head;
        }

        Statement head() {
            return head;
        }

        long name() {
            return head.name;
        }

        boolean isProcedure() {
            return head.operation == PROC;
        }

        Statement latestExec() {
            return latestExec;
        }

        int size() {
            return statements.size();
        }

        Statement get(int i) {
            return i < 0 || i >= statements.size() ? null : statements.get(i);
        }

        void add(Statement s) {
            if (s.operation == EXEC) {
                latestExec = s;
            } else if (s.operation == DD) {
                s.exec = latestExec;
            }
            statements.add(s);
        }

        boolean hasStep(long name) {
            for (int i = 0; i < statements.size(); i++) {
                Statement s = statements.get(i);
                if (s.operation == EXEC && s.name == name) {
                    return true;
                }
            }
            return false;
        }

        /** Whether the latest step has a DD with both names of this one. */
        boolean hasTwin(Statement dd) {
            for (int i = 0; i < statements.size(); i++) {
                Statement s = statements.get(i);
                if (s.operation == DD && s.exec == latestExec && s.step == dd.step && s.name == dd.name) {
                    return true;
                }
            }
            return false;
        }

        /** The step of the name, or with name 0 the first one that runs a program; null without one. */
        Statement findStep(long name) {
            for (int i = 0; i < statements.size(); i++) {
                Statement s = statements.get(i);
                if (s.operation == EXEC && (name == 0 ? s.runs() : s.name == name)) {
                    return s;
                }
            }
            return null;
        }
    }

    /** A text as far as it has been read: it takes each statement that may stand where it comes. */
    private static final class Text {
        private final Rows rows = new Rows();
        private final ArrayList<Statement> statements = new ArrayList<Statement>();
        private final ArrayList<Body> procedures = new ArrayList<Body>();
        private Body job;
        private Body openProcedure;
        private int openIfs;
        private int elses;

        Rows rows() {
            return rows;
        }

        Body job() {
            return job;
        }

        ArrayList<Body> procedures() {
            return procedures;
        }

        int size() {
            return statements.size();
        }

        Statement get(int i) {
            return i < 0 || i >= statements.size() ? null : statements.get(i);
        }

        boolean isOpen() {
            return openProcedure != null || openIfs > 0;
        }

        /** 0 if the statement is taken, else the kind of its fault. */
        int take(Statement s) {
            Body body = openProcedure == null ? job : openProcedure;
            if (!fits(s, body)) {
                return BAD_PLACE;
            }
            if (!isNamedWell(s, body)) {
                return BAD_NAME;
            }
            if (!isChosenWell(s)) {
                return BAD_CHOICE;
            }
            statements.add(s);
            enter(s, body);
            return 0;
        }

        private boolean fits(Statement s, Body body) {
            switch (s.operation) {
                case JOB:
                    return statements.isEmpty();
                case PROC:
                    return openProcedure == null && openIfs == 0;
                case PEND:
                    return openProcedure != null && openIfs == 0;
                case DD:
                    return body != null && fitsStep(s, body.latestExec());
                case IF:
                    return body != null && openIfs < NESTED_IFS;
                case ELSE:
                    return openIfs > 0 && (elses & elseOfLatestIf()) == 0;
                case ENDIF:
                    return openIfs > 0;
                default:
                    return body != null;
            }
        }

        private static boolean fitsStep(Statement dd, Statement exec) {
            return exec != null && (dd.step == 0 || exec.calls());
        }

        private int elseOfLatestIf() {
            return 1 << openIfs;
        }

        private boolean isNamedWell(Statement s, Body body) {
            switch (s.operation) {
                case JOB:
                    return s.name != 0;
                case PROC:
                    return s.name != 0 && indexOf(procedures, s.name) == NONE;
                case EXEC:
                    return s.name == 0 || body == null || !body.hasStep(s.name);
                case DD:
                    return s.name == 0 ? isBehindPlainDd() : body == null || !body.hasTwin(s);
                default:
                    return true;
            }
        }

        private boolean isBehindPlainDd() {
            Statement before = get(statements.size() - 1);
            return before != null && before.operation == DD && before.step == 0;
        }

        private static boolean isChosenWell(Statement s) {
            switch (s.operation) {
                case EXEC:
                    return s.runs() || s.callee() != 0;
                case SET:
                    return s.count > 0 && s.places == 0;
                case IF:
                    return s.places > 0;
                default:
                    return true;
            }
        }

        private void enter(Statement s, Body body) {
            switch (s.operation) {
                case JOB:
                    job = new Body(s);
                    job.add(s);
                    return;
                case PROC:
                    openProcedure = new Body(s);
                    procedures.add(openProcedure);
                    return;
                case PEND:
                    openProcedure = null;
                    return;
                case IF:
                    openIfs++;
                    elses &= ~elseOfLatestIf();
                    break;
                case ELSE:
                    elses |= elseOfLatestIf();
                    break;
                case ENDIF:
                    openIfs--;
                    break;
                default:
                    break;
            }
            if (body != null) {
                body.add(s);
            }
        }
    }

    /** The lines of the signs, both lines and columns from 1 on. */
    private static final class Lines {
        private final byte[] signs;
        private final int[] starts;
        private final int[] lengths;
        private final int total;

        Lines(byte[] signs, int count) {
            this.signs = signs;
            int end = Math.min(count, signs.length);
            total = totalOf(signs, end);
            starts = new int[total];
            lengths = new int[total];
            int line = 0;
            int start = 0;
            for (int i = 0; i <= end && line < total; i++) {
                if (i == end || signs[i] == '\n') {
                    starts[line] = start;
                    lengths[line] = Math.min(i - start, COLUMNS);
                    start = i + 1;
                    line++;
                }
            }
        }

        private static int totalOf(byte[] signs, int end) {
            int lines = 0;
            for (int i = 0; i < end; i++) {
                if (signs[i] == '\n' || i == end - 1) {
                    lines++;
                }
            }
            return lines;
        }

        int total() {
            return total;
        }

        int look(int line, int column) {
            if (line < 1 || line > total || column < 1 || column > lengths[line - 1]) {
                return NONE;
            }
            return signs[starts[line - 1] + column - 1];
        }

        boolean begins(int line, int one, int two) {
            return look(line, 1) == one && look(line, 2) == two;
        }

        boolean isComment(int line) {
            return look(line, 1) == '/' && look(line, 2) == '/' && look(line, NAME_COLUMN) == '*';
        }

        /** The column of the first blank from one on, or behind the line's end. */
        int findBlank(int line, int from) {
            int column = from;
            while (column <= COLUMNS && look(line, column) != ' ' && look(line, column) != NONE) {
                column++;
            }
            return column;
        }

        /** The column of the first sign but blank from one on, or behind the line's end. */
        int passBlanks(int line, int from) {
            int column = from;
            while (column <= COLUMNS && look(line, column) == ' ') {
                column++;
            }
            return column;
        }

        /** What stands between two columns as a packed name; 0 if it is none. */
        long nameBetween(int line, int from, int to) {
            if (to - from > NAME_SIGNS || !isLetter(look(line, from))) {
                return 0;
            }
            long name = 0;
            for (int column = from; column < to; column++) {
                int c = look(line, column);
                if (!isNameSign(c)) {
                    return 0;
                }
                name = name << 8 | c;
            }
            return name;
        }

        /** How many signs from the column on are those that the word begins with. */
        int alike(int line, int column, String word) {
            int n = 0;
            while (n < word.length() && look(line, column + n) == word.charAt(n)) {
                n++;
            }
            return n;
        }
    }

    /** Reads the lines of a text: gives the text its statements, and lists the faults. */
    private static final class Reader {
        private final Lines lines;
        private final Text text;
        private final Rows rows;
        private final Faults faults;
        private int line;
        private int column;
        private Statement parsed;
        private Statement dataOwner;
        private boolean slashesEndData;

        Reader(Lines lines, Text text, Faults faults) {
            this.lines = lines;
            this.text = text;
            this.rows = text.rows();
            this.faults = faults;
        }

        /** Reads a line, or all those of its statement; the line to be read next. */
        int readLine(int number) {
            line = number;
            parsed = null;
            if (isData()) {
                return number + 1;
            }
            if (!lines.begins(number, '/', '/')) {
                faults.add(number, 1, NO_STATEMENT, 0);
                return number + 1;
            }
            boolean silent = lines.look(number, lines.passBlanks(number, NAME_COLUMN)) == NONE;
            if (!silent && !lines.isComment(number)) {
                readStatement();
            }
            return line + 1;
        }

        /** Whether the line is data, or ends them and is nothing else. */
        private boolean isData() {
            if (dataOwner == null) {
                return false;
            }
            if (lines.begins(line, '/', '*')) {
                dataOwner = null;
                return true;
            }
            if (slashesEndData && lines.begins(line, '/', '/')) {
                dataOwner = null;
                return false;
            }
            dataOwner.dataLines++;
            return true;
        }

        private void readStatement() {
            Statement s = new Statement(line, rows);
            int nameEnd = lines.findBlank(line, NAME_COLUMN);
            int from = lines.passBlanks(line, nameEnd);
            int to = lines.findBlank(line, from);
            boolean named = readNames(s, nameEnd);
            s.operation = operationBetween(from, to);
            s.column = from;
            column = lines.passBlanks(line, to);
            if (!named || s.step != 0 && s.operation != DD) {
                faults.add(line, NAME_COLUMN, BAD_WORD, 0);
            } else if (s.operation == 0) {
                faults.add(line, from, BAD_WORD, to > from ? nearest(from) : 0);
            } else if (!readParameters(s)) {
                faults.add(line, column, BAD_PARAMETER, 0);
                rows.cut(s.first);
            } else {
                parsed = s;
            }
        }

        private boolean readNames(Statement s, int end) {
            int point = NAME_COLUMN;
            while (point < end && lines.look(line, point) != '.') {
                point++;
            }
            s.nameSigns = end - NAME_COLUMN;
            if (point == end) {
                s.name = lines.nameBetween(line, NAME_COLUMN, end);
                return s.name != 0 || s.nameSigns == 0;
            }
            s.step = lines.nameBetween(line, NAME_COLUMN, point);
            s.name = lines.nameBetween(line, point + 1, end);
            return s.step != 0 && s.name != 0;
        }

        private int operationBetween(int from, int to) {
            for (int operation = JOB; operation <= ENDIF; operation++) {
                String word = operationName(operation);
                if (word.length() == to - from && lines.alike(line, from, word) == to - from) {
                    return operation;
                }
            }
            return 0;
        }

        private int nearest(int from) {
            int best = JOB;
            for (int operation = EXEC; operation <= ENDIF; operation++) {
                if (lines.alike(line, from, operationName(operation)) > lines.alike(line, from, operationName(best))) {
                    best = operation;
                }
            }
            return best;
        }

        /** Whether all parameters are well; if not, line and column are those of the fault. */
        private boolean readParameters(Statement s) {
            if (atEnd()) {
                return true;
            }
            for (int n = 0; n < PARAMETERS; n++) {
                long key = takeKey();
                rows.begin(key);
                s.count++;
                if (key == 0) {
                    s.places++;
                }
                if (!readValue()) {
                    return false;
                }
                if (atEnd()) {
                    return true;
                }
                column++;
                if (atEnd() && !goOn()) {
                    return false;
                }
            }
            return false;
        }

        private boolean atEnd() {
            int c = lines.look(line, column);
            return c == NONE || c == ' ';
        }

        private long takeKey() {
            int end = column;
            while (end - column < NAME_SIGNS && isNameSign(lines.look(line, end))) {
                end++;
            }
            long key = lines.look(line, end) == '=' ? lines.nameBetween(line, column, end) : 0;
            if (key != 0) {
                column = end + 1;
            }
            return key;
        }

        /** Whether the value is well, up to a comma or the end; a doubled quote shows as one closed and opened again. */
        private boolean readValue() {
            int depth = 0;
            boolean quoted = false;
            // Each turn takes a sign of the value, or goes on in a line behind a comma of it.
            for (int turn = 0; turn <= 2 * VALUE_SIGNS; turn++) {
                int c = lines.look(line, column);
                if (c == NONE || c == ' ' && !quoted) {
                    if (quoted || depth > 0 && lines.look(line, column - 1) != ',') {
                        return false;
                    }
                    if (depth == 0) {
                        return true;
                    }
                    if (!goOn()) {
                        return false;
                    }
                    continue;
                }
                if (!quoted && depth == 0 && c == ',') {
                    return true;
                }
                if (!quoted && depth == 0 && (c == '=' || c == ')') || rows.length(rows.size() - 1) >= VALUE_SIGNS) {
                    return false;
                }
                if (c == '\'') {
                    quoted = !quoted;
                } else if (!quoted) {
                    depth += c == '(' ? 1 : c == ')' ? -1 : 0;
                }
                rows.put(c);
                column++;
            }
            return false;
        }

        /** Whether the parameters go on in the next line that is no comment; that one is passed in any case. */
        private boolean goOn() {
            int next = line + 1;
            while (next <= lines.total() && lines.isComment(next)) {
                next++;
            }
            line = Math.min(next, lines.total());
            column = 1;
            if (next > lines.total() || !lines.begins(next, '/', '/') || lines.look(next, NAME_COLUMN) != ' ') {
                return false;
            }
            int from = lines.passBlanks(next, NAME_COLUMN);
            if (lines.look(next, from) == NONE) {
                return false;
            }
            column = from;
            return true;
        }

        /** Gives the text the statement that was read, if one was read without a fault. */
        void offer() {
            Statement s = parsed;
            if (s == null) {
                return;
            }
            int kind = text.take(s);
            if (kind != 0) {
                faults.add(s.line, kind == BAD_NAME ? NAME_COLUMN : s.column, kind, 0);
                rows.cut(s.first);
                return;
            }
            boolean star = rows.holds(s.first, "*");
            boolean first = s.operation == DD && s.count > 0 && rows.key(s.first) == 0;
            if (first && (star || rows.holds(s.first, "DATA"))) {
                dataOwner = s;
                slashesEndData = star;
                s.dataFirst = line + 1;
            }
        }
    }

    /** The lines of the latest expansion, kept apart from the texts that they came from. */
    private static final class Listing {
        private final int[] lines = new int[LINES];
        private final int[] operations = new int[LINES];
        private final int[] depths = new int[LINES];
        private final int[] counts = new int[LINES];
        private final int[] changes = new int[LINES];
        private final int[] ends = new int[LINES];
        private final StringBuilder letters = new StringBuilder();
        private int size;

        void clear() {
            size = 0;
            letters.setLength(0);
        }

        int size() {
            return size;
        }

        boolean isFull() {
            return size >= LINES;
        }

        void add(Statement s, int depth, boolean changed, Rows rows, int first) {
            if (isFull()) {
                return;
            }
            for (int i = first; i < rows.size(); i++) {
                if (i > first) {
                    letters.append(',');
                }
                int length = rows.wholeLength(i);
                for (int k = 0; k < length; k++) {
                    letters.append((char) rows.wholeSign(i, k));
                }
            }
            lines[size] = s.line;
            operations[size] = s.operation;
            depths[size] = depth;
            counts[size] = rows.size() - first;
            changes[size] = changed ? 1 : 0;
            ends[size] = letters.length();
            size++;
        }

        int tell(int i, int what) {
            if (i < 0 || i >= size) {
                return NONE;
            }
            switch (what) {
                case 0:
                    return lines[i];
                case 1:
                    return operations[i];
                case 2:
                    return depths[i];
                case 3:
                    return counts[i];
                case 4:
                    return changes[i];
                default:
                    return NONE;
            }
        }

        int letterOf(int i, int k) {
            if (i < 0 || i >= size || k < 0) {
                return NONE;
            }
            int start = i == 0 ? 0 : ends[i - 1];
            if (k >= ends[i] - start || start + k >= letters.length()) {
                return NONE;
            }
            return letters.charAt(start + k);
        }
    }

    /** A job or a procedure that is being expanded, with the rows of the EXEC that called it and its overrides. */
    private static final class Frame {
        private Body body;
        private int next;
        private int execFirst;
        private int execCount;
        private int overrideFirst;
        private int overrideEnd;

        void open(Body opened) {
            body = opened;
            next = 0;
            execFirst = 0;
            execCount = 0;
            overrideFirst = 0;
            overrideEnd = 0;
        }

        /** The statement that comes next; null at the end. */
        Statement peek() {
            return body == null ? null : body.get(next);
        }
    }

    /** A DD behind an EXEC that calls: it changes a DD of the procedure, or is added behind a statement of it. */
    private static final class Change {
        private Statement own;
        private int first;
        private Statement changed;
        private Statement ahead;

        void open(Statement opened) {
            own = opened;
            first = 0;
            changed = null;
            ahead = null;
        }

        /** Whether the procedure has the step, which runs a program. */
        boolean aim(Body procedure) {
            if (own == null) {
                return false;
            }
            Statement step = procedure.findStep(own.step);
            if (step == null || !step.runs()) {
                return false;
            }
            ahead = step;
            for (int i = 0; i < procedure.size(); i++) {
                Statement s = procedure.get(i);
                if (s != null && s.operation == DD && s.exec == step) {
                    ahead = s;
                    if (own.name != 0 && s.name == own.name) {
                        changed = s;
                    }
                }
            }
            return true;
        }

        boolean changes(Statement s) {
            return changed == s;
        }

        boolean isAddedBehind(Statement s) {
            return changed == null && ahead == s;
        }
    }

    /** Expands a job: a stack of frames, and rows and overrides that are given back when a frame ends. */
    private static final class Expander {
        private final Listing listing = new Listing();
        private final Rows rows = new Rows();
        private final Rows sets = new Rows();
        private final ArrayList<Frame> frames = new ArrayList<Frame>();
        private final ArrayList<Change> overrides = new ArrayList<Change>();
        private ArrayList<Body> procedures = new ArrayList<Body>();
        private ArrayList<Body> library = new ArrayList<Body>();
        private int frameCount;
        private int overrideCount;
        private long called;
        private int missing;
        private int outcome;

        Listing listing() {
            return listing;
        }

        int missing() {
            return missing;
        }

        int calledSign(int k) {
            return nameSign(called, k);
        }

        void start(Text text, ArrayList<Body> shelved) {
            listing.clear();
            rows.cut(0);
            sets.cut(0);
            called = 0;
            procedures = text.procedures();
            library = shelved;
            frameCount = 0;
            overrideCount = 0;
            missing = 0;
            outcome = 0;
            push(text.job());
        }

        boolean goesOn() {
            return outcome == 0 && frameCount > 0;
        }

        int finish() {
            if (outcome != 0) {
                listing.clear();
                return outcome;
            }
            return listing.size();
        }

        /** Passes the next statement of the latest frame, or ends the frame. */
        void advance() {
            if (frameCount < 1 || frameCount > frames.size()) {
                return;
            }
            Frame frame = frames.get(frameCount - 1);
            Statement s = frame.peek();
            if (s == null) {
                rows.cut(frame.execFirst);
                overrideCount = frame.overrideFirst;
                frameCount--;
                return;
            }
            frame.next++;
            int mark = rows.size();
            if (s.operation == SET) {
                passSet(s, frame);
            } else {
                write(s, frame);
            }
            if (s.calls()) {
                int overrideFirst = overrideCount;
                gather(frame);
                fillOverrides(overrideFirst, frame);
                call(s, mark, overrideFirst);
            } else {
                rows.cut(mark);
                addBehind(s, frame);
            }
        }

        private Frame push(Body body) {
            if (frameCount >= frames.size()) {
                frames.add(new Frame());
            }
            Frame frame = frames.get(frameCount);
            frame.open(body);
            frameCount++;
            return frame;
        }

        private void passSet(Statement s, Frame frame) {
            int first = rows.size();
            if (!fill(s, frame)) {
                return;
            }
            for (int i = first; i < rows.size(); i++) {
                int old = sets.find(rows.key(i), 0, sets.size());
                if (old == NONE) {
                    sets.copy(rows, i);
                } else {
                    sets.overwrite(old, rows, i);
                }
            }
        }

        /** A line of the statement, as its overrides change it; its rows stay at the end. */
        private void write(Statement s, Frame frame) {
            if (listing.isFull()) {
                outcome = TOO_MANY_LINES;
                return;
            }
            int first = rows.size();
            if (!fill(s, frame)) {
                return;
            }
            boolean changed = false;
            for (int i = frame.overrideFirst; i < frame.overrideEnd && i < overrides.size(); i++) {
                Change override = overrides.get(i);
                if (override.changes(s)) {
                    first = merge(first, override);
                    changed = true;
                }
            }
            if (rows.size() - first > PARAMETERS) {
                outcome = TOO_MANY_PARAMETERS;
                return;
            }
            listing.add(s, frameCount - 1, changed, rows, first);
        }

        /** The rows of a statement with its symbols replaced, at the end; false if a value becomes too long. */
        private boolean fill(Statement s, Frame frame) {
            for (int i = s.first; i < s.first + s.count; i++) {
                rows.begin(s.rows.key(i));
                fillValue(s.rows, i, frame);
                if (rows.length(rows.size() - 1) > VALUE_SIGNS) {
                    outcome = TOO_LONG;
                    return false;
                }
            }
            return true;
        }

        private void fillValue(Rows from, int i, Frame frame) {
            int length = from.length(i);
            int k = 0;
            while (k < length) {
                int c = from.valueSign(i, k);
                k++;
                if (c != '&' || !isLetter(from.valueSign(i, k))) {
                    rows.put(c);
                    continue;
                }
                long name = 0;
                for (int n = 0; n < NAME_SIGNS && isNameSign(from.valueSign(i, k)); n++) {
                    name = name << 8 | from.valueSign(i, k);
                    k++;
                }
                if (from.valueSign(i, k) == '.') {
                    k++;
                }
                putSymbol(name, frame);
            }
        }

        private void putSymbol(long name, Frame frame) {
            Body body = frame.body;
            if (body != null && body.isProcedure()) {
                boolean given = name != PGM_KEY && name != PROC_KEY;
                int own = given ? rows.find(name, frame.execFirst, frame.execCount) : NONE;
                if (own != NONE) {
                    rows.putPlain(rows, own);
                    return;
                }
                Statement head = body.head();
                int usual = head.rows.find(name, head.first, head.count);
                if (usual != NONE) {
                    rows.putPlain(head.rows, usual);
                    return;
                }
            }
            int set = sets.find(name, 0, sets.size());
            if (set == NONE) {
                missing++;
            } else {
                rows.putPlain(sets, set);
            }
        }

        /** Puts the rows from one on, as the override changes them, behind them; where they begin then. */
        private int merge(int first, Change override) {
            int end = rows.size();
            int other = override.first;
            Statement own = override.own;
            int otherEnd = own == null ? other : other + own.count;
            boolean replaced = own != null && own.places > 0;
            int placesEnd = replaced ? otherEnd : end;
            for (int i = replaced ? other : first; i < placesEnd; i++) {
                if (rows.key(i) == 0) {
                    rows.copy(rows, i);
                }
            }
            int keyed = rows.size();
            for (int i = first; i < end; i++) {
                if (rows.key(i) != 0) {
                    rows.copy(rows, i);
                }
            }
            for (int i = other; i < otherEnd; i++) {
                long key = rows.key(i);
                int old = rows.find(key, keyed, rows.size() - keyed);
                if (key != 0 && old != NONE) {
                    rows.overwrite(old, rows, i);
                } else if (key != 0) {
                    rows.copy(rows, i);
                }
            }
            return end;
        }

        private void addBehind(Statement s, Frame frame) {
            for (int i = frame.overrideFirst; i < frame.overrideEnd && i < overrides.size(); i++) {
                Change override = overrides.get(i);
                if (outcome == 0 && override.isAddedBehind(s)) {
                    addLine(override);
                }
            }
        }

        private void addLine(Change override) {
            Statement own = override.own;
            if (own == null) {
                return;
            }
            if (listing.isFull()) {
                outcome = TOO_MANY_LINES;
                return;
            }
            int mark = rows.size();
            for (int i = override.first; i < override.first + own.count; i++) {
                rows.copy(rows, i);
            }
            listing.add(own, frameCount - 1, true, rows, mark);
            rows.cut(mark);
        }

        /** Opens the procedure that an EXEC calls, once its rows and its overrides, the last ones kept, have been replaced. */
        private void call(Statement s, int execFirst, int overrideFirst) {
            if (outcome != 0) {
                return;
            }
            Body procedure = findProcedure(s.callee());
            if (procedure == null || isBeingExpanded(procedure)) {
                outcome = procedure == null ? NO_PROCEDURE : RING;
                called = s.callee();
                return;
            }
            if (!aimAll(overrideFirst, procedure)) {
                outcome = NO_STEP;
                return;
            }
            Frame opened = push(procedure);
            opened.execFirst = execFirst;
            opened.execCount = s.count;
            opened.overrideFirst = overrideFirst;
            opened.overrideEnd = overrideCount;
        }

        /** Passes the DDs that come next in the frame and keeps them as overrides. */
        private void gather(Frame frame) {
            int most = frame.body == null ? 0 : frame.body.size();
            for (int n = 0; n < most; n++) {
                Statement s = frame.peek();
                if (s == null || s.operation != DD) {
                    return;
                }
                frame.next++;
                if (overrideCount >= overrides.size()) {
                    overrides.add(new Change());
                }
                overrides.get(overrideCount).open(s);
                overrideCount++;
            }
        }

        /** The overrides' rows, replaced where they stand: ahead of the procedure's turn, whether it is there or not. */
        private void fillOverrides(int from, Frame frame) {
            for (int i = from; outcome == 0 && i < overrideCount && i < overrides.size(); i++) {
                Change override = overrides.get(i);
                override.first = rows.size();
                if (override.own != null) {
                    fill(override.own, frame);
                }
            }
        }

        private Body findProcedure(long name) {
            int own = indexOf(procedures, name);
            if (own != NONE) {
                return procedures.get(own);
            }
            int shelved = indexOf(library, name);
            return shelved == NONE ? null : library.get(shelved);
        }

        private boolean isBeingExpanded(Body procedure) {
            for (int i = 0; i < frameCount && i < frames.size(); i++) {
                if (frames.get(i).body == procedure) {
                    return true;
                }
            }
            return false;
        }

        private boolean aimAll(int from, Body procedure) {
            for (int i = from; i < overrideCount && i < overrides.size(); i++) {
                if (!overrides.get(i).aim(procedure)) {
                    return false;
                }
            }
            return true;
        }
    }
}
