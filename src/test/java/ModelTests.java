import java.util.ArrayList;
import java.util.HashMap;
import java.util.HashSet;
import java.util.LinkedHashMap;
import java.util.List;
import java.util.Map;
import java.util.Random;
import java.util.Set;

/** Compares JobText with a second reading of the document, made of texts, maps and recursion, on texts by chance (of fixed seeds). */
public final class ModelTests {
    private static final int OBJECTS = 9000;
    // The texts of the objects from this one on have pieces moved, lost and doubled.
    private static final int FIRST_TORN = 6000;
    private static final int PIECE = 8;
    private static int wrong = 0;
    private static final Map<Integer, Integer> outcomes = new HashMap<>();
    private static final Map<Integer, Integer> kinds = new HashMap<>();

    public static void main(String[] args) {
        for (int seed = 0; seed < OBJECTS && wrong < 5; seed++) {
            compare(seed);
        }
        for (int code = -7; code <= -1; code++) {
            due("some expand() answered " + code, outcomes.containsKey(code), true);
        }
        for (int kind = 1; kind <= 6; kind++) {
            due("some fault was of kind " + kind, kinds.containsKey(kind), true);
        }
        System.out.println(OBJECTS + " objects, " + wrong + " wrong; expand() failed by " + outcomes + ", faults by kind " + kinds);
        if (wrong != 0) {
            System.exit(1);
        }
    }

    private static void due(String what, Object got, Object want) {
        if (!got.equals(want)) {
            wrong++;
            System.out.println(what + " answered\n" + got + "\ndue is\n" + want);
        }
    }

    private static void compare(int seed) {
        Random random = new Random(seed * 0x9E3779B97F4A7C15L);
        JobText x = new JobText();
        Model model = new Model();
        for (int texts = 0; texts < 3; texts++) {
            String made = new Maker(random).text(texts < 2);
            String text = seed < FIRST_TORN ? made : torn(made, random);
            TextTest.load(x, text);
            String what = "seed " + seed + " text " + texts + "\n" + text;
            due(what + "read", x.read(), model.read(text));
            due(what + "state", state(x), model.state());
            int expanded = model.expand();
            due(what + "expand", x.expand(), expanded);
            if (expanded < 0) {
                outcomes.merge(expanded, 1, Integer::sum);
            }
            for (int[] fault : model.faults) {
                kinds.merge(fault[2], 1, Integer::sum);
            }
            due(what + "state behind expand", state(x), model.state());
        }
    }

    /** The text cut into pieces as long as a call of sign takes, some of which are moved, lost or doubled. */
    private static String torn(String text, Random random) {
        List<String> pieces = new ArrayList<>();
        for (int from = 0; from < text.length(); from += PIECE) {
            pieces.add(text.substring(from, Math.min(text.length(), from + PIECE)));
        }
        for (int n = random.nextInt(4); n > 0 && !pieces.isEmpty(); n--) {
            String piece = pieces.get(random.nextInt(pieces.size()));
            int at = random.nextInt(pieces.size());
            switch (random.nextInt(3)) {
                case 0: pieces.remove(at); break;
                case 1: pieces.add(at, piece); break;
                default: pieces.set(at, piece);
            }
        }
        return cut(String.join("", pieces), 3000);
    }

    private static String cut(String text, int most) {
        return text.substring(0, Math.min(text.length(), most));
    }

    /** All that the object tells, as one text. */
    private static String state(JobText x) {
        StringBuilder s = new StringBuilder();
        for (int what = 1; what <= 6; what++) {
            s.append(x.count(what)).append(' ');
        }
        s.append("ring ");
        for (int k = 0; x.ring(k) != JobText.NONE; k++) {
            s.append((char) x.ring(k));
        }
        for (int i = 0; x.fault(i, 0) != JobText.NONE; i++) {
            s.append("\nF ").append(x.fault(i, 0)).append(' ').append(x.fault(i, 1)).append(' ').append(x.fault(i, 2)).append(' ').append(x.fault(i, 3));
        }
        for (int i = 0; x.statement(i, 0) != JobText.NONE; i++) {
            s.append("\nS");
            for (int what = 0; what < 6; what++) {
                s.append(' ').append(x.statement(i, what));
            }
            for (int p = 0; p < x.statement(i, 2); p++) {
                s.append(" |");
                for (int k = 0; x.parameter(i, p, k) != JobText.NONE; k++) {
                    s.append((char) x.parameter(i, p, k));
                }
            }
            for (int k = 0; x.data(i, k) != JobText.NONE; k++) {
                s.append(" D").append(x.data(i, k));
            }
        }
        for (int i = 0; x.at(i, 0) != JobText.NONE; i++) {
            s.append("\nL");
            for (int what = 0; what < 5; what++) {
                s.append(' ').append(x.at(i, what));
            }
            s.append(' ');
            for (int k = 0; x.letter(i, k) != JobText.NONE; k++) {
                s.append((char) x.letter(i, k));
            }
        }
        return s.toString();
    }

    /** Makes texts of few names, so that they meet; well, but for those that are to be faulty. */
    private static final class Maker {
        private final Random random;
        private final StringBuilder all = new StringBuilder();
        private final boolean faulty;
        private Set<String> steps = new HashSet<>();
        private Set<String> dds = new HashSet<>();
        private boolean hasStep = false;
        private boolean calls = false;
        private boolean behindDd = false;
        private int depth = 0;

        Maker(Random random) {
            this.random = random;
            this.faulty = random.nextInt(3) == 0;
        }

        String one(String... of) {
            return of[random.nextInt(of.length)];
        }

        String text(boolean mayBeLibrary) {
            Set<String> names = new HashSet<>();
            if (mayBeLibrary && random.nextInt(3) > 0) {
                for (int n = random.nextInt(random.nextInt(10) == 0 ? 12 : 6); n >= 0; n--) {
                    procedure(n < 4 ? one("P", "Q", "R", "T") : one("P", "Q", "R", "T", "T1", "T2", "T3", "T4", "T5", "T6", "T7", "T8"), names);
                }
            } else {
                line("//J JOB " + one("", "A", "'A B',K=&A"));
                for (String name : new String[] {"P", "Q", "R", "T"}) {
                    if (random.nextInt(3) > 0) {
                        procedure(name, names);
                    }
                }
                for (int n = random.nextInt(4); n >= 0; n--) {
                    body(random.nextInt(6), random.nextInt(6) == 0);
                    if (random.nextInt(2) == 0) {
                        procedure(one("P", "Q", "R"), names);
                        dds();
                    }
                }
            }
            return cut(all.toString(), faulty ? 1600 : 3000);
        }

        void procedure(String name, Set<String> names) {
            if (!names.add(name) && !faulty) {
                return;
            }
            Set<String> outerSteps = steps;
            Set<String> outerDds = dds;
            boolean had = hasStep;
            boolean called = calls;
            steps = new HashSet<>();
            hasStep = false;
            line("//" + name + " PROC " + one("", parameters(3, true)));
            body(1 + random.nextInt(4), false);
            line("// PEND");
            steps = outerSteps;
            dds = outerDds;
            hasStep = had;
            calls = called;
            behindDd = false;
        }

        void body(int n, boolean many) {
            for (int i = 0; i < (many ? n * 6 : n); i++) {
                int kind = random.nextInt(12);
                if (kind < 8) {
                    exec();
                    dds();
                } else if (kind < 10) {
                    behindDd = false;
                    line("// SET " + parameters(3, true));
                } else if (depth < (faulty ? 9 : 8)) {
                    depth++;
                    behindDd = false;
                    line("// IF (&A=1)" + one("", ",X"));
                    body(random.nextInt(3), false);
                    if (random.nextInt(2) == 0) {
                        line("// ELSE");
                        body(random.nextInt(2), false);
                    }
                    behindDd = false;
                    line("// ENDIF");
                    depth--;
                    if (random.nextInt(4) == 0) {
                        dds();
                    }
                }
            }
        }

        void exec() {
            String name = one("", "S", "S", "U", "V", "W");
            boolean again = !name.isEmpty() && !steps.add(name);
            String what = one("PGM=X", "PGM=X", "PGM=X", "PGM=X", "PGM=X", "PGM=X", "PGM=&A", "P", "Q", "PROC=R", "T", one("P", "P", "Q", "T", "NONE", "PROC=NONE", faulty ? one("&B", "PROC=&C", "'P'", "PROC=,P", "(P)", "P.Q") : "R"));
            line("//" + (again && !faulty ? "" : name) + " EXEC " + what + one("", "," + parameters(3, true)));
            hasStep = true;
            calls = !what.startsWith("PGM");
            behindDd = false;
            dds = new HashSet<>();
        }

        void dds() {
            for (int n = hasStep || faulty ? random.nextInt(5) : 0; n > 0; n--) {
                String name = one("D", "E", "F", "G");
                if (random.nextInt(3) == 0 && (calls || faulty)) {
                    name = one("S", "S", "S", "S", "S", "U") + "." + name;
                } else if (random.nextInt(3) == 0 && (behindDd || faulty)) {
                    name = "";
                }
                if (name.isEmpty() || dds.add(name) || faulty) {
                    dd(name);
                    behindDd = name.indexOf('.') < 0;
                }
            }
        }

        void dd(String name) {
            int kind = random.nextInt(12);
            if (kind == 0) {
                line("//" + name + " DD *" + one("", ",K=V"));
                raw(one("", "ONE\n", "ONE\n\nTWO\n") + "/*\n");
            } else if (kind == 1) {
                line("//" + name + " DD DATA");
                raw(one("", "//ONE\n") + "/*\n");
            } else {
                line("//" + name + " DD " + one("", parameters(random.nextInt(4) == 0 ? 10 : 4, false)));
            }
        }

        String parameters(int most, boolean keys) {
            StringBuilder s = new StringBuilder();
            for (int n = 1 + random.nextInt(most); n > 0; n--) {
                String value = value();
                if (value.length() > 25 && s.length() > 0 && s.charAt(s.length() - 1) == ',') {
                    s.append("\n// ");
                }
                if (keys || random.nextInt(2) == 0) {
                    s.append(one("A", "B", "C", "D", "K", "LONGNAME")).append('=');
                }
                s.append(value.isEmpty() && n == 1 ? "1" : value);
                if (n > 1) {
                    s.append(',');
                    boolean wide = s.length() - s.lastIndexOf("\n") > 25;
                    if (wide || random.nextInt(6) == 0) {
                        s.append(one("\n// ", "  NOTE\n//   ", "\n//* C\n// "));
                    }
                }
            }
            return s.toString();
        }

        String value() {
            if (random.nextInt(60) == 0) {
                int more = faulty ? random.nextInt(2) : 0;
                return one("Y".repeat(30 + more), "'" + "Z ".repeat(14 + more) + "'", "(" + "&A,".repeat(9 + more) + ")");
            }
            return one("", "P", "Q", "R", "1", "&A", "&B.", "&C..X", "&&A", "&LONGNAMEX", "'&A &B'", "'I''M'", "''", "(&A,B=(1,2))", "A(B)", "X'Y Z'", "&A&B&C&D", "&A&A&A", "('&A',\n// &B)", "ABCDEFGHIJKLM", "&1&");
        }

        void raw(String lines) {
            all.append(lines);
        }

        /** The statement's first line up to the last columns that count, or beyond them if it is to be faulty. */
        String widened(String s) {
            int name = s.indexOf(' ');
            int end = s.indexOf('\n') < 0 ? s.length() : s.indexOf('\n');
            int more = 71 - end + (faulty ? random.nextInt(5) - 2 : -random.nextInt(2));
            return name < 0 || more <= 0 ? s : s.substring(0, name) + " ".repeat(more) + s.substring(name);
        }

        void line(String s) {
            if (random.nextInt(25) == 0) {
                s = widened(s);
            }
            if (faulty && random.nextInt(12) == 0) {
                int at = random.nextInt(s.length() + 1);
                String sign = one(" ", ",", "=", "'", "(", ")", ".", "1", "A", "\n", "&", "/", "*", "");
                s = s.substring(0, at) + sign + s.substring(Math.min(s.length(), at + random.nextInt(2)));
            }
            all.append(s).append(random.nextInt(40) == 0 ? "  C" : "").append('\n');
            if (random.nextInt(30) == 0) {
                all.append(one("//\n", "//*X\n", "//   \n"));
            }
        }
    }

    private static final class Fail extends RuntimeException {
        private final int code;

        Fail(int code) {
            super(null, null, false, false);
            this.code = code;
        }
    }

    private static final class Par {
        String key = "";
        String value = "";

        Par(String key, String value) {
            this.key = key;
            this.value = value;
        }

        public String toString() {
            return key.isEmpty() ? value : key + "=" + value;
        }
    }

    private static final class St {
        int line;
        int op;
        String name = "";
        List<Par> pars = new ArrayList<>();
        List<Integer> data = new ArrayList<>();
        St exec;

        String get(String key) {
            return find(pars, key);
        }

        String dd() {
            return name.substring(name.indexOf('.') + 1);
        }

        String step() {
            return name.indexOf('.') < 0 ? "" : name.substring(0, name.indexOf('.'));
        }

        String callee() {
            String name = get("PROC") != null ? get("PROC") : get("");
            return name != null && name.matches("[A-Z][A-Z0-9]{0,7}") ? name : null;
        }

        long places() {
            return pars.stream().filter(p -> p.key.isEmpty()).count();
        }
    }

    private static String find(List<Par> pars, String key) {
        for (Par p : pars) {
            if (p.key.equals(key)) {
                return p.value;
            }
        }
        return null;
    }

    private static final class Out {
        int line;
        int op;
        int depth;
        int changed;
        List<Par> pars;
    }

    private static final class Model {
        private static final String NAME = "[A-Z][A-Z0-9]{0,7}";
        private static final String[] OPS = {"", "JOB", "EXEC", "DD", "PROC", "PEND", "SET", "IF", "ELSE", "ENDIF"};
        List<int[]> faults = new ArrayList<>();
        private String[] lines;
        private int at;
        private int col;
        private List<St> statements = new ArrayList<>();
        private Map<String, List<St>> procedures = new LinkedHashMap<>();
        private final Map<String, List<St>> library = new LinkedHashMap<>();
        private List<St> job;
        private List<St> body;
        private List<Boolean> ifs;
        private boolean inProcedure;
        private List<Out> out = new ArrayList<>();
        private Map<String, String> sets;
        private int missing;
        private String ring = "";

        int read(String text) {
            lines = text.isEmpty() ? new String[0] : (text.endsWith("\n") ? text.substring(0, text.length() - 1) : text).split("\n", -1);
            faults = new ArrayList<>();
            statements = new ArrayList<>();
            procedures = new LinkedHashMap<>();
            job = null;
            body = null;
            inProcedure = false;
            ifs = new ArrayList<>();
            for (at = 0; at < lines.length; at++) {
                lines[at] = lines[at].substring(0, Math.min(71, lines[at].length()));
            }
            St owner = null;
            for (at = 0; at < lines.length; at++) {
                String s = lines[at];
                if (owner != null) {
                    boolean ends = s.startsWith("/*") || owner.pars.get(0).value.equals("*") && s.startsWith("//");
                    if (!ends) {
                        owner.data.add(at + 1);
                        continue;
                    }
                    owner = null;
                    if (s.startsWith("/*")) {
                        continue;
                    }
                }
                if (!s.startsWith("//")) {
                    fault(at + 1, 1, 1, 0);
                } else if (!s.startsWith("//*") && !s.matches("// *")) {
                    St got = statement(s);
                    boolean data = got != null && got.op == 3 && !got.pars.isEmpty() && got.pars.get(0).toString().matches("\\*|DATA") && got.pars.get(0).key.isEmpty();
                    owner = data ? got : null;
                }
            }
            if (inProcedure || !ifs.isEmpty()) {
                fault(lines.length, 1, 4, 0);
            }
            return outcome();
        }

        private int outcome() {
            int n = faults.size();
            int size = statements.size();
            Map<String, List<St>> both = new LinkedHashMap<>(library);
            both.putAll(procedures);
            if (n == 0 && (job != null || both.size() <= 12)) {
                if (job == null) {
                    library.putAll(procedures);
                }
                return size;
            }
            statements = new ArrayList<>();
            job = null;
            return -1 - n;
        }

        private void fault(int line, int column, int kind, int near) {
            faults.add(new int[] {line, column, kind, near});
        }

        private St statement(String s) {
            St st = new St();
            st.line = at + 1;
            String[] words = s.substring(2).split(" +", 3);
            st.name = words[0];
            int opColumn = 2 + words[0].length();
            while (opColumn < s.length() && s.charAt(opColumn) == ' ') {
                opColumn++;
            }
            String op = words.length > 1 ? words[1] : "";
            for (int i = 1; i <= 9; i++) {
                st.op = OPS[i].equals(op) ? i : st.op;
            }
            if (!st.name.isEmpty() && !st.name.matches(st.op == 3 ? NAME + "(\\." + NAME + ")?" : NAME)) {
                fault(st.line, 3, 2, 0);
                return null;
            }
            if (st.op == 0) {
                fault(st.line, opColumn + 1, 2, op.isEmpty() ? 0 : near(op));
                return null;
            }
            col = opColumn + op.length();
            while (peek() == ' ') {
                col++;
            }
            try {
                if (peek() != 0) {
                    do {
                        if (st.pars.size() == 10) {
                            throw new Fail(0);
                        }
                        st.pars.add(par());
                    } while (comma());
                }
            } catch (Fail f) {
                fault(at + 1, col + 1, 3, 0);
                return null;
            }
            int kind = place(st);
            if (kind != 0) {
                fault(st.line, kind == 5 ? 3 : opColumn + 1, kind, 0);
                return null;
            }
            return st;
        }

        private int near(String op) {
            int best = 1;
            int most = 0;
            for (int i = 1; i <= 9; i++) {
                for (int n = most + 1; n <= Math.min(op.length(), OPS[i].length()); n++) {
                    if (OPS[i].startsWith(op.substring(0, n))) {
                        most = n;
                        best = i;
                    }
                }
            }
            return best;
        }

        private char peek() {
            return col < lines[at].length() ? lines[at].charAt(col) : 0;
        }

        private boolean isEnd() {
            return peek() == 0 || peek() == ' ';
        }

        private boolean comma() {
            if (peek() != ',') {
                return false;
            }
            col++;
            if (isEnd()) {
                next();
            }
            return true;
        }

        private void next() {
            col = 0;
            do {
                at++;
            } while (at < lines.length && lines[at].startsWith("//*"));
            if (at == lines.length) {
                at--;
                throw new Fail(0);
            }
            if (!lines[at].matches("// +[^ ].*")) {
                throw new Fail(0);
            }
            col = 2;
            while (peek() == ' ') {
                col++;
            }
        }

        private Par par() {
            String rest = lines[at].substring(col);
            String key = "";
            if (rest.matches(NAME + "=.*")) {
                key = rest.substring(0, rest.indexOf('='));
                col += key.length() + 1;
            }
            StringBuilder value = new StringBuilder();
            while (!isEnd() && peek() != ',') {
                item(value, false);
            }
            return new Par(key, value.toString());
        }

        private void take(StringBuilder value) {
            if (value.length() == 30) {
                throw new Fail(0);
            }
            value.append(peek());
            col++;
        }

        private void item(StringBuilder value, boolean inside) {
            char c = peek();
            if (c == '\'') {
                take(value);
                while (peek() != '\'') {
                    if (peek() == 0) {
                        throw new Fail(0);
                    }
                    take(value);
                }
                take(value);
            } else if (c == '(') {
                take(value);
                while (peek() != ')') {
                    if (isEnd()) {
                        if (lines[at].charAt(col - 1) != ',') {
                            throw new Fail(0);
                        }
                        next();
                    } else {
                        item(value, true);
                    }
                }
                take(value);
            } else if (c == ')' || c == '=' && !inside) {
                throw new Fail(0);
            } else {
                take(value);
            }
        }

        private int place(St st) {
            boolean scope = job != null || inProcedure;
            St exec = null;
            if (scope) {
                for (St s : body) {
                    exec = s.op == 2 ? s : exec;
                }
            }
            boolean ok;
            switch (st.op) {
                case 1: ok = statements.isEmpty(); break;
                case 4: ok = !inProcedure && ifs.isEmpty(); break;
                case 5: ok = inProcedure && ifs.isEmpty(); break;
                case 3: ok = scope && exec != null && (st.step().isEmpty() || exec.get("PGM") == null); break;
                case 7: ok = scope && ifs.size() < 8; break;
                case 8: ok = scope && !ifs.isEmpty() && !ifs.get(ifs.size() - 1); break;
                case 9: ok = scope && !ifs.isEmpty(); break;
                default: ok = scope;
            }
            if (!ok) {
                return 4;
            }
            St before = statements.isEmpty() ? null : statements.get(statements.size() - 1);
            if (st.name.isEmpty()) {
                boolean behind = before != null && before.op == 3 && before.step().isEmpty();
                if (st.op == 1 || st.op == 4 || st.op == 3 && !behind) {
                    return 5;
                }
            } else if (st.op == 4 && procedures.containsKey(st.name)) {
                return 5;
            } else if (st.op == 2 || st.op == 3) {
                for (St s : body) {
                    if (s.op == st.op && s.name.equals(st.name) && (st.op == 2 || s.exec == exec)) {
                        return 5;
                    }
                }
            }
            if (st.op == 2 && st.get("PGM") == null && st.callee() == null || st.op == 6 && (st.pars.isEmpty() || st.places() > 0) || st.op == 7 && st.places() == 0) {
                return 6;
            }
            statements.add(st);
            st.exec = exec;
            enter(st);
            return 0;
        }

        private void enter(St st) {
            if (st.op == 1) {
                job = new ArrayList<>();
                body = job;
            } else if (st.op == 4) {
                body = new ArrayList<>();
                procedures.put(st.name, body);
                inProcedure = true;
            } else if (st.op == 7) {
                ifs.add(false);
            } else if (st.op == 8) {
                ifs.set(ifs.size() - 1, true);
            } else if (st.op == 9) {
                ifs.remove(ifs.size() - 1);
            }
            if (st.op == 5) {
                inProcedure = false;
                body = job;
            } else {
                body.add(st);
            }
        }

        int expand() {
            if (job == null) {
                return -2;
            }
            out = new ArrayList<>();
            sets = new HashMap<>();
            missing = 0;
            ring = "";
            try {
                run(job, new ArrayList<>(), null, new LinkedHashMap<>());
            } catch (Fail f) {
                out = new ArrayList<>();
                return f.code;
            }
            return out.size();
        }

        private String plain(String v) {
            return v.length() > 1 && v.startsWith("'") && v.endsWith("'") ? v.substring(1, v.length() - 1).replace("''", "'") : v;
        }

        private List<Par> replaced(St s, List<Par> called, St head) {
            List<Par> row = new ArrayList<>();
            for (Par p : s.pars) {
                StringBuilder v = new StringBuilder();
                java.util.regex.Matcher m = java.util.regex.Pattern.compile("&(" + NAME + ")\\.?").matcher(p.value);
                int from = 0;
                while (m.find()) {
                    v.append(p.value, from, m.start());
                    from = m.end();
                    String name = m.group(1);
                    String got = null;
                    if (head != null) {
                        got = name.equals("PGM") || name.equals("PROC") ? null : find(called, name);
                        got = got == null ? head.get(name) : got;
                    }
                    got = got == null ? sets.get(name) : got;
                    missing += got == null ? 1 : 0;
                    v.append(got == null ? "" : plain(got));
                }
                v.append(p.value.substring(from));
                if (v.length() > 30) {
                    throw new Fail(-4);
                }
                row.add(new Par(p.key, v.toString()));
            }
            return row;
        }

        private void write(St s, List<Par> row, int depth, boolean changed) {
            Out o = new Out();
            o.line = s.line;
            o.op = s.op;
            o.depth = depth;
            o.changed = changed ? 1 : 0;
            o.pars = row;
            out.add(o);
        }

        private void full() {
            if (out.size() == 100) {
                throw new Fail(-3);
            }
        }

        /** Runs a body, whose first statement is its head; stack has the names of the procedures that are open. */
        private void run(List<St> statements, List<String> stack, List<Par> called, Map<St, List<Par>> overrides) {
            St head = statements.get(0).op == 4 ? statements.get(0) : null;
            Map<St, List<St>> behind = new HashMap<>();
            Map<St, List<St>> changes = new HashMap<>();
            aim(statements, overrides, behind, changes);
            for (int i = 0; i < statements.size(); i++) {
                St s = statements.get(i);
                if (s.op == 4) {
                    continue;
                }
                if (s.op == 6) {
                    for (Par p : replaced(s, called, head)) {
                        sets.put(" " + p.key, p.value);
                    }
                    for (Par p : s.pars) {
                        sets.put(p.key, sets.get(" " + p.key));
                    }
                    continue;
                }
                full();
                List<Par> row = replaced(s, called, head);
                for (St o : changes.getOrDefault(s, List.of())) {
                    row = merged(row, overrides.get(o));
                }
                if (row.size() > 10) {
                    throw new Fail(-7);
                }
                write(s, row, stack.size(), changes.containsKey(s));
                for (St o : behind.getOrDefault(s, List.of())) {
                    full();
                    write(o, overrides.get(o), stack.size(), true);
                }
                if (s.op == 2 && s.get("PGM") == null) {
                    String name = s.callee();
                    List<St> callee = procedures.containsKey(name) ? procedures.get(name) : library.get(name);
                    Map<St, List<Par>> own = new LinkedHashMap<>();
                    for (; i + 1 < statements.size() && statements.get(i + 1).op == 3; i++) {
                        own.put(statements.get(i + 1), replaced(statements.get(i + 1), called, head));
                    }
                    if (callee == null || stack.contains(name)) {
                        ring = name;
                        throw new Fail(callee == null ? -5 : -1);
                    }
                    List<String> deeper = new ArrayList<>(stack);
                    deeper.add(name);
                    run(callee, deeper, row, own);
                }
            }
        }

        private void aim(List<St> statements, Map<St, List<Par>> overrides, Map<St, List<St>> behind, Map<St, List<St>> changes) {
            for (St o : overrides.keySet()) {
                St step = null;
                for (St s : statements) {
                    boolean runs = s.op == 2 && s.get("PGM") != null;
                    if (step == null && runs && (o.step().isEmpty() || o.step().equals(s.name))) {
                        step = s;
                    }
                }
                if (step == null) {
                    throw new Fail(-6);
                }
                St last = step;
                St hit = null;
                for (St s : statements) {
                    if (s.op == 3 && s.exec == step) {
                        last = s;
                        hit = !o.name.isEmpty() && s.name.equals(o.dd()) ? s : hit;
                    }
                }
                if (hit == null) {
                    behind.computeIfAbsent(last, k -> new ArrayList<>()).add(o);
                } else {
                    changes.computeIfAbsent(hit, k -> new ArrayList<>()).add(o);
                }
            }
        }

        private List<Par> merged(List<Par> row, List<Par> other) {
            List<Par> places = new ArrayList<>();
            List<Par> keys = new ArrayList<>();
            for (Par p : find(other, "") != null ? other : row) {
                if (p.key.isEmpty()) {
                    places.add(p);
                }
            }
            for (Par p : row) {
                if (!p.key.isEmpty()) {
                    keys.add(p);
                }
            }
            for (Par p : other) {
                int hit = -1;
                for (int i = keys.size() - 1; i >= 0; i--) {
                    hit = keys.get(i).key.equals(p.key) ? i : hit;
                }
                if (!p.key.isEmpty() && hit >= 0) {
                    keys.set(hit, p);
                } else if (!p.key.isEmpty()) {
                    keys.add(p);
                }
            }
            places.addAll(keys);
            return places;
        }

        String state() {
            StringBuilder s = new StringBuilder();
            s.append(library.size()).append(' ').append(statements.size()).append(' ').append(faults.size()).append(' ').append(out.size()).append(' ').append(missing).append(' ').append(job == null ? 0 : 1).append(" ring ").append(ring);
            for (int i = 0; i < Math.min(30, faults.size()); i++) {
                int[] f = faults.get(i);
                s.append("\nF ").append(f[0]).append(' ').append(f[1]).append(' ').append(f[2]).append(' ').append(f[3]);
            }
            for (St st : statements) {
                s.append("\nS ").append(st.line).append(' ').append(st.op).append(' ').append(st.pars.size()).append(' ').append(st.places()).append(' ').append(st.name.length()).append(' ').append(st.data.size());
                for (Par p : st.pars) {
                    s.append(" |").append(p);
                }
                for (int line : st.data) {
                    s.append(" D").append(line);
                }
            }
            for (Out o : out) {
                s.append("\nL ").append(o.line).append(' ').append(o.op).append(' ').append(o.depth).append(' ').append(o.pars.size()).append(' ').append(o.changed).append(' ');
                for (int i = 0; i < o.pars.size(); i++) {
                    s.append(i > 0 ? "," : "").append(o.pars.get(i));
                }
            }
            return s.toString();
        }
    }
}
