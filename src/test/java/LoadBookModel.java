import java.util.ArrayList;
import java.util.Arrays;
import java.util.LinkedHashSet;
import java.util.List;
import java.util.Set;
import java.util.TreeMap;
import java.util.TreeSet;

/**
 * The document once more, by other means than LoadBook's: trees that are worked out by recursion, exceptions for what
 * FAILS, Java's own library for DOUBLES. Its answers are what AgainstModelTest holds LoadBook's against.
 */
final class LoadBookModel {
    private static final List<String> WORDS = List.of(
        "if", "try", "sum", "least", "most", "count", "at", "line", "area", "root", "cut", "real");

    private record Token(char kind, String text, int place) {
    }

    /** kind: W D R A(area) N(name) -(minus) b(sign between) c(call by word) f(call of a function). */
    private record Node(char kind, String text, List<Node> in, int place) {
    }

    private static final class Fault extends RuntimeException {
        final int number;
        final int place;

        Fault(int number, int place) {
            super("", null, false, false);
            this.number = number;
            this.place = place;
        }
    }

    private static final class Fail extends RuntimeException {
        final int kind;
        final int first;
        final int cause;
        final boolean hangs;

        Fail(int kind, int first, int cause, boolean hangs) {
            super("", null, false, false);
            this.kind = kind;
            this.first = first;
            this.cause = cause;
            this.hangs = hangs;
        }

        Fail(int kind) {
            this(kind, -1, 0, false);
        }
    }

    private static final class Cell {
        Object value;
        Node formula;
        int state;
        int kind;
        int first;
        int cause;
        List<Integer> reads = new ArrayList<>();
    }

    private static final class Definition {
        String name;
        List<String> arguments = new ArrayList<>();
        Node body;
        Object value;
        int state;
        int kind;
    }

    private static final class Sheet {
        final List<Definition> constants = new ArrayList<>();
        boolean told;
        int spoiledBy;
        int times;
    }

    private String text = "";
    private String out = "";
    private int fault = -1;
    private final Cell[] cells = new Cell[256];
    private final Sheet[] sheets = new Sheet[4];
    private final List<Definition> functions = new ArrayList<>();
    private final Set<Integer> toldCells = new TreeSet<>();
    private final Set<String> toldFunctions = new TreeSet<>();
    private List<Integer> done = new ArrayList<>();
    private List<List<Integer>> cycles = new ArrayList<>();
    private final List<long[][]> editions = new ArrayList<>();

    LoadBookModel() {
        for (int i = 0; i < 256; i++) {
            cells[i] = new Cell();
        }
        for (int i = 0; i < 4; i++) {
            sheets[i] = new Sheet();
        }
    }

    // ---- texts

    int type(long bytes) {
        StringBuilder more = new StringBuilder(text);
        for (int i = 0; i < 8; i++) {
            int b = (int) (bytes >>> (8 * i)) & 255;
            if (b != 0) {
                more.append((char) b);
            }
        }
        if (more.length() > 240) {
            return -2;
        }
        text = more.toString();
        return text.length();
    }

    int wipe() {
        int had = text.length();
        text = "";
        return had;
    }

    private List<Token> tokens;
    private int at;
    private int parts;
    private int open;

    private static List<Token> tokensOf(String s) {
        List<Token> all = new ArrayList<>();
        int i = 0;
        while (true) {
            while (i < s.length() && s.charAt(i) == ' ') {
                i++;
            }
            if (i == s.length()) {
                all.add(new Token('$', "", s.length()));
                return all;
            }
            String rest = s.substring(i);
            String found;
            char kind;
            if (!(found = start(rest, "[a-z]+")).isEmpty()) {
                kind = found.length() > 8 ? '!' : WORDS.contains(found) ? 'w' : 'n';
            } else if (!(found = start(rest, "[A-D][a-h][0-7]")).isEmpty()) {
                kind = 'r';
            } else if (!(found = start(rest, "[0-9]+\\.[0-9]+")).isEmpty()) {
                kind = found.length() - 1 > 15 ? '!' : 'd';
            } else if (!(found = start(rest, "[0-9]+")).isEmpty()) {
                kind = found.length() > 18 ? '!' : 'i';
            } else if (!(found = start(rest, "<=|<>|[-+*/%(),:<=]")).isEmpty()) {
                kind = 's';
            } else {
                kind = '!';
            }
            all.add(new Token(kind, found, i));
            if (kind == '!') {
                return all;
            }
            i += found.length();
        }
    }

    private static String start(String s, String pattern) {
        java.util.regex.Matcher m = java.util.regex.Pattern.compile(pattern).matcher(s);
        return m.lookingAt() ? m.group() : "";
    }

    private Token look() {
        Token t = tokens.get(at);
        if (t.kind == '!') {
            throw new Fault(1, t.place);
        }
        return t;
    }

    private boolean sees(String sign) {
        return look().kind == 's' && look().text.equals(sign);
    }

    private Token want(char kind, String sign) {
        Token t = look();
        if (t.kind != kind || (sign != null && !t.text.equals(sign))) {
            throw new Fault(2, t.place);
        }
        at++;
        return t;
    }

    private void part() {
        if (++parts > 40) {
            throw new Fault(3, look().place);
        }
    }

    private void opens() {
        if (++open > 10) {
            throw new Fault(3, look().place);
        }
    }

    private Node e() {
        Node left = sum();
        Token t = look();
        if (t.kind == 's' && List.of("<", "<=", "=", "<>").contains(t.text)) {
            part();
            at++;
            return new Node('b', t.text, List.of(left, sum()), t.place);
        }
        return left;
    }

    private Node sum() {
        Node left = product();
        while (sees("+") || sees("-")) {
            part();
            Token t = tokens.get(at++);
            left = new Node('b', t.text, List.of(left, product()), t.place);
        }
        return left;
    }

    private Node product() {
        Node left = atom();
        while (sees("*") || sees("/") || sees("%")) {
            part();
            Token t = tokens.get(at++);
            left = new Node('b', t.text, List.of(left, atom()), t.place);
        }
        return left;
    }

    private Node atom() {
        Token t = look();
        switch (t.kind) {
            case 'i':
            case 'd':
            case 'r':
                part();
                at++;
                return new Node(t.kind == 'i' ? 'W' : t.kind == 'd' ? 'D' : 'R', t.text, List.of(), t.place);
            case 'n':
                part();
                at++;
                if (!sees("(")) {
                    return new Node('N', t.text, List.of(), t.place);
                }
                return new Node('f', t.text, inBrackets("E?"), t.place);
            case 'w':
                part();
                at++;
                String shape = switch (t.text) {
                    case "if" -> "EEE";
                    case "try" -> "EE";
                    case "at" -> "RE";
                    case "line" -> "ERR";
                    case "area" -> "RR";
                    case "root" -> "NEE";
                    case "cut", "real" -> "E";
                    default -> "R";
                };
                return new Node('c', t.text, inBrackets(shape), t.place);
            default:
                if (sees("-")) {
                    part();
                    opens();
                    at++;
                    Node in = atom();
                    open--;
                    return new Node('-', "-", List.of(in), t.place);
                }
                if (sees("(")) {
                    return inBrackets("E").get(0);
                }
                throw new Fault(2, t.place);
        }
    }

    private List<Node> inBrackets(String shape) {
        List<Node> in = new ArrayList<>();
        if (sees("(")) {
            opens();
        }
        want('s', "(");
        if (shape.equals("E?")) {
            in.add(e());
            while (in.size() < 3 && sees(",")) {
                at++;
                in.add(e());
            }
        } else {
            for (int i = 0; i < shape.length(); i++) {
                if (i > 0) {
                    want('s', ",");
                }
                char c = shape.charAt(i);
                if (c == 'E') {
                    in.add(e());
                } else if (c == 'N') {
                    Token t = want('n', null);
                    in.add(new Node('X', t.text, List.of(), t.place));
                } else {
                    in.add(area());
                }
            }
        }
        want('s', ")");
        open--;
        return in;
    }

    private Node area() {
        if (look().kind == 'r') {
            part();
        }
        Token a = want('r', null);
        want('s', ":");
        Token b = want('r', null);
        return new Node('A', a.text + ":" + b.text, List.of(), a.place);
    }

    private void startReading() {
        tokens = tokensOf(text);
        text = "";
        at = 0;
        parts = 0;
        open = 0;
        fault = -1;
    }

    private static int cellOf(String ref) {
        return 64 * (ref.charAt(0) - 'A') + 8 * (ref.charAt(2) - '0') + ref.charAt(1) - 'a';
    }

    private static List<Integer> areaOf(String area) {
        int a = cellOf(area.substring(0, 3));
        int b = cellOf(area.substring(4));
        List<Integer> all = new ArrayList<>();
        for (int c = a; c <= b; c++) {
            if (c % 8 >= a % 8 && c % 8 <= b % 8) {
                all.add(c);
            }
        }
        return all;
    }

    private Definition function(String name) {
        for (Definition d : functions) {
            if (d.name.equals(name)) {
                return d;
            }
        }
        return null;
    }

    /** Adds all FAULTS 4 in a tree, by their places. */
    private void check(Node n, boolean formula, Set<String> names, Definition own, TreeMap<Integer, Integer> faults) {
        switch (n.kind) {
            case 'N':
                if (!names.contains(n.text)) {
                    faults.put(n.place, 4);
                }
                break;
            case 'R':
                if (!formula) {
                    faults.put(n.place, 4);
                }
                break;
            case 'A':
                char[] c = n.text.toCharArray();
                if (!formula || c[0] != c[4] || c[5] < c[1] || c[6] < c[2]) {
                    faults.put(n.place, 4);
                }
                break;
            case 'f':
            case 'c':
                String name = n.kind == 'f' ? n.text : n.text.equals("root") ? n.in.get(0).text : null;
                if (name != null) {
                    int place = n.kind == 'f' ? n.place : n.in.get(0).place;
                    int given = n.kind == 'f' ? n.in.size() : 1;
                    Definition d = own != null && own.name.equals(name) ? own : function(name);
                    if (d == null || d.arguments.size() != given) {
                        faults.put(place, 4);
                    }
                }
                break;
            default:
                break;
        }
        for (Node x : n.in) {
            check(x, formula, names, own, faults);
        }
    }

    private int end(TreeMap<Integer, Integer> faults) {
        if (faults.isEmpty()) {
            return 0;
        }
        fault = faults.firstKey();
        return -100 - faults.firstEntry().getValue();
    }

    int formula(int cell) {
        if (cell < 0 || cell > 255) {
            return -1;
        }
        startReading();
        Node tree;
        try {
            tree = e();
            want('$', null);
        } catch (Fault f) {
            fault = f.place;
            return -100 - f.number;
        }
        TreeMap<Integer, Integer> faults = new TreeMap<>();
        Set<String> names = new TreeSet<>();
        for (Definition d : sheets[cell / 64].constants) {
            names.add(d.name);
        }
        check(tree, true, names, null, faults);
        int answer = end(faults);
        if (answer != 0) {
            return answer;
        }
        if (cells[cell].formula == null && count(1) == 48) {
            return -2;
        }
        cells[cell] = new Cell();
        cells[cell].formula = tree;
        cells[cell].state = 6;
        toldCells.add(cell);
        return parts;
    }

    int function() {
        startReading();
        Definition d = new Definition();
        List<Integer> places = new ArrayList<>();
        int place;
        try {
            Token t = want('n', null);
            d.name = t.text;
            place = t.place;
            want('s', "(");
            do {
                t = want('n', null);
                d.arguments.add(t.text);
                places.add(t.place);
            } while (d.arguments.size() < 3 && sees(",") && at++ > 0);
            want('s', ")");
            want('s', "=");
            d.body = e();
            want('$', null);
        } catch (Fault f) {
            fault = f.place;
            return -100 - f.number;
        }
        TreeMap<Integer, Integer> faults = new TreeMap<>();
        Definition before = function(d.name);
        if (before != null && before.arguments.size() != d.arguments.size()) {
            faults.put(place, 5);
        }
        for (int i = 0; i < places.size(); i++) {
            if (d.arguments.indexOf(d.arguments.get(i)) < i) {
                faults.put(places.get(i), 5);
            }
        }
        check(d.body, false, new TreeSet<>(d.arguments), d, faults);
        int answer = end(faults);
        if (answer != 0) {
            return answer;
        }
        if (before == null && functions.size() == 8) {
            return -2;
        }
        if (before == null) {
            functions.add(d);
        } else {
            functions.set(functions.indexOf(before), d);
        }
        toldFunctions.add(d.name);
        return functions.indexOf(d);
    }

    int constant(int sheet) {
        if (sheet < 0 || sheet > 3) {
            return -1;
        }
        startReading();
        Definition d = new Definition();
        try {
            d.name = want('n', null).text;
            want('s', "=");
            d.body = e();
            want('$', null);
        } catch (Fault f) {
            fault = f.place;
            return -100 - f.number;
        }
        List<Definition> all = sheets[sheet].constants;
        int number = 0;
        Set<String> names = new TreeSet<>();
        while (number < all.size() && !all.get(number).name.equals(d.name)) {
            names.add(all.get(number++).name);
        }
        TreeMap<Integer, Integer> faults = new TreeMap<>();
        check(d.body, false, names, null, faults);
        int answer = end(faults);
        if (answer != 0) {
            return answer;
        }
        if (number == 5) {
            return -2;
        }
        if (number == all.size()) {
            all.add(d);
        } else {
            all.set(number, d);
        }
        sheets[sheet].told = true;
        return number;
    }

    int fault() {
        return fault;
    }

    private static String printed(Node n) {
        List<String> in = new ArrayList<>();
        for (Node x : n.in) {
            in.add(printed(x));
        }
        return switch (n.kind) {
            case 'W' -> n.text.replaceAll("^0+(?=[0-9])", "");
            case 'D' -> n.text.replaceAll("^0+(?=[0-9]+\\.)", "");
            case '-' -> "(-" + in.get(0) + ")";
            case 'b' -> "(" + in.get(0) + n.text + in.get(1) + ")";
            case 'c', 'f' -> n.text + "(" + String.join(",", in) + ")";
            default -> n.text;
        };
    }

    int print(int cell) {
        if (cell < 0 || cell > 255) {
            return -1;
        }
        if (cells[cell].formula == null) {
            return -3;
        }
        out = printed(cells[cell].formula);
        return out.length();
    }

    int sign(int i) {
        return i >= 0 && i < out.length() ? out.charAt(i) : -1;
    }

    int take() {
        if (out.length() > 240) {
            return -2;
        }
        text = out;
        return text.length();
    }

    // ---- telling

    private int tell(int cell, Object value) {
        cells[cell] = new Cell();
        cells[cell].value = value;
        cells[cell].state = value instanceof Long ? 1 : value instanceof Double ? 2 : 0;
        toldCells.add(cell);
        return 1;
    }

    int whole(int cell, long v) {
        return cell < 0 || cell > 255 ? -1 : tell(cell, v);
    }

    int number(int cell, long n, int e) {
        if (cell < 0 || cell > 255) {
            return -1;
        }
        return e < 0 || e > 15 ? -2 : tell(cell, (double) n / Double.parseDouble("1e" + e));
    }

    int empty(int cell) {
        if (cell < 0 || cell > 255) {
            return -1;
        }
        return cells[cell].state == 0 ? 0 : tell(cell, null);
    }

    // ---- working out

    private int steps;
    private int under;
    private List<Integer> reads;
    private List<Definition> names;

    private Object workOut(Node e, int sheet) {
        steps = 1000;
        under = 0;
        reads = new ArrayList<>();
        names = sheets[sheet].constants;
        return eval(e, null, null);
    }

    private void step() {
        if (steps == 0) {
            throw new Fail(8);
        }
        steps--;
    }

    private Object read(int cell) {
        reads.add(cell);
        Cell c = cells[cell];
        if (c.state >= 3) {
            throw new Fail(c.kind, c.first, c.cause, true);
        }
        return c.state == 0 ? null : c.value;
    }

    private Object readThere(int cell) {
        Object v = read(cell);
        if (v == null) {
            throw new Fail(3);
        }
        return v;
    }

    private static double real(Object v) {
        return v instanceof Long l ? (double) l.longValue() : (Double) v;
    }

    private static Object finite(double d) {
        if (Double.isInfinite(d)) {
            throw new Fail(5);
        }
        return d;
    }

    private Object eval(Node n, Definition f, Object[] given) {
        step();
        switch (n.kind) {
            case 'W':
                return Long.parseLong(n.text);
            case 'D':
                int behind = n.text.length() - n.text.indexOf('.') - 1;
                return (double) Long.parseLong(n.text.replace(".", "")) / Double.parseDouble("1e" + behind);
            case 'R':
                return readThere(cellOf(n.text));
            case 'N':
                if (f != null) {
                    return given[f.arguments.indexOf(n.text)];
                }
                for (Definition d : names) {
                    if (d.name.equals(n.text)) {
                        return d.value;
                    }
                }
                throw new IllegalStateException();
            case '-':
                Object v = eval(n.in.get(0), f, given);
                return v instanceof Long l ? (Object) (-l) : (Object) (-(Double) v);
            case 'b':
                Object x = eval(n.in.get(0), f, given);
                return between(n.text, x, eval(n.in.get(1), f, given));
            case 'f':
                Object[] values = new Object[n.in.size()];
                for (int i = 0; i < values.length; i++) {
                    values[i] = eval(n.in.get(i), f, given);
                }
                return call(n.text, values);
            default:
                return word(n, f, given);
        }
    }

    private Object call(String name, Object... values) {
        if (under == 20) {
            throw new Fail(4);
        }
        under++;
        Definition d = function(name);
        Object v = eval(d.body, d, values);
        under--;
        return v;
    }

    private static Object between(String sign, Object x, Object y) {
        boolean longs = x instanceof Long && y instanceof Long;
        int c = longs ? Long.compare((Long) x, (Long) y) : real(x) < real(y) ? -1 : real(x) == real(y) ? 0 : 1;
        switch (sign) {
            case "<":
                return c < 0 ? 1L : 0L;
            case "<=":
                return c <= 0 ? 1L : 0L;
            case "=":
                return c == 0 ? 1L : 0L;
            case "<>":
                return c != 0 ? 1L : 0L;
            case "/":
            case "%":
                if (real(y) == 0) {
                    throw new Fail(1);
                }
                break;
            default:
                break;
        }
        if (longs) {
            long a = (Long) x;
            long b = (Long) y;
            return switch (sign) {
                case "+" -> a + b;
                case "-" -> a - b;
                case "*" -> a * b;
                case "/" -> a / b;
                default -> a % b;
            };
        }
        double a = real(x);
        double b = real(y);
        return finite(switch (sign) {
            case "+" -> a + b;
            case "-" -> a - b;
            case "*" -> a * b;
            case "/" -> a / b;
            default -> a % b;
        });
    }

    private double[] row(Node area) {
        List<Integer> all = areaOf(area.text);
        double[] row = new double[all.size()];
        for (int i = 0; i < row.length; i++) {
            step();
            row[i] = real(readThere(all.get(i)));
        }
        return row;
    }

    private Object word(Node n, Definition f, Object[] given) {
        switch (n.text) {
            case "if":
                boolean yes = real(eval(n.in.get(0), f, given)) != 0;
                return eval(n.in.get(yes ? 1 : 2), f, given);
            case "try":
                int underBefore = under;
                try {
                    return eval(n.in.get(0), f, given);
                } catch (Fail x) {
                    if (x.kind == 8 && !x.hangs) {
                        throw x;
                    }
                }
                under = underBefore;
                return eval(n.in.get(1), f, given);
            case "cut":
                Object v = eval(n.in.get(0), f, given);
                return v instanceof Long ? v : (Object) ((Double) v).longValue();
            case "real":
                return real(eval(n.in.get(0), f, given));
            case "at":
                return at(n, eval(n.in.get(1), f, given));
            case "line":
                double x = real(eval(n.in.get(0), f, given));
                return line(x, row(n.in.get(1)), row(n.in.get(2)));
            case "area":
                return areaUnder(row(n.in.get(0)), row(n.in.get(1)));
            case "root":
                double low = real(eval(n.in.get(1), f, given));
                double high = real(eval(n.in.get(2), f, given));
                return root(n.in.get(0).text, low, high);
            default:
                return gather(n.text, areaOf(n.in.get(0).text));
        }
    }

    private Object at(Node n, Object i) {
        List<Integer> all = areaOf(n.in.get(0).text);
        if (i instanceof Double) {
            throw new Fail(11);
        }
        if ((Long) i < 0 || (Long) i >= all.size()) {
            throw new Fail(2);
        }
        step();
        return readThere(all.get(((Long) i).intValue()));
    }

    private Object gather(String word, List<Integer> all) {
        Object best = null;
        long number = 0;
        for (int cell : all) {
            step();
            Object v = read(cell);
            if (v == null) {
                continue;
            }
            number++;
            if (best == null) {
                best = v;
            } else if (word.equals("sum")) {
                best = between("+", best, v);
            } else if (word.equals("least")) {
                best = between("<", v, best).equals(1L) ? v : best;
            } else if (word.equals("most")) {
                best = between("<", best, v).equals(1L) ? v : best;
            }
        }
        if (word.equals("count")) {
            return number;
        }
        if (best == null && word.equals("sum")) {
            return 0L;
        }
        if (best == null) {
            throw new Fail(3);
        }
        return best;
    }

    private static Object line(double x, double[] r, double[] s) {
        boolean sound = r.length == s.length && r.length > 1;
        for (int i = 1; i < r.length; i++) {
            sound &= r[i] > r[i - 1];
        }
        if (!sound) {
            throw new Fail(7);
        }
        int last = r.length - 1;
        if (x <= r[0]) {
            return s[0];
        }
        if (x >= r[last]) {
            return s[last];
        }
        int p = last;
        while (r[p] > x) {
            p--;
        }
        double width = (Double) finite(r[p + 1] - r[p]);
        double t = (x - r[p]) / width;
        double height = (Double) finite(s[p + 1] - s[p]);
        return finite(s[p] + (Double) finite(height * t));
    }

    private static Object areaUnder(double[] r, double[] s) {
        if (r.length != s.length || r.length == 1) {
            throw new Fail(7);
        }
        double all = 0.0;
        for (int i = 0; i + 1 < r.length; i++) {
            double width = (Double) finite(r[i + 1] - r[i]);
            double height = (Double) finite(s[i] + s[i + 1]);
            all = (Double) finite(all + (Double) finite(width * height) / 2.0);
        }
        return all;
    }

    private double callReal(String f, double x) {
        step();
        return real(call(f, x));
    }

    private static double middle(double low, double high) {
        return (Double) finite(low + (Double) finite((Double) finite(high - low) * 0.5));
    }

    private Object root(String f, double a, double b) {
        double low = a;
        double high = b;
        boolean lowBelow = callReal(f, low) < 0;
        boolean highBelow = callReal(f, high) < 0;
        if (lowBelow == highBelow) {
            throw new Fail(6);
        }
        for (int n = 0; n < 60; n++) {
            double m = middle(low, high);
            if (callReal(f, m) < 0 == lowBelow) {
                low = m;
            } else {
                high = m;
            }
        }
        return middle(low, high);
    }

    // ---- recalculating

    private static void collect(Node n, Set<Integer> needs, Set<String> called) {
        if (n.kind == 'R') {
            needs.add(cellOf(n.text));
        } else if (n.kind == 'A') {
            needs.addAll(areaOf(n.text));
        } else if (n.kind == 'f') {
            called.add(n.text);
        } else if (n.kind == 'X') {
            called.add(n.text);
        }
        for (Node x : n.in) {
            collect(x, needs, called);
        }
    }

    private Set<Integer> needsOf(int cell) {
        Set<Integer> needs = new LinkedHashSet<>();
        if (cells[cell].formula != null) {
            collect(cells[cell].formula, needs, new TreeSet<>());
        }
        return needs;
    }

    private boolean reachesTold(Node e) {
        Set<String> reached = new LinkedHashSet<>();
        collect(e, new TreeSet<>(), reached);
        int before = -1;
        while (before != reached.size()) {
            before = reached.size();
            for (String name : new ArrayList<>(reached)) {
                collect(function(name).body, new TreeSet<>(), reached);
            }
        }
        for (String name : toldFunctions) {
            if (reached.contains(name)) {
                return true;
            }
        }
        return false;
    }

    /** All that a cell needs, what that needs, and so on. */
    private Set<Integer> allNeeds(int cell) {
        Set<Integer> all = new TreeSet<>();
        List<Integer> next = new ArrayList<>(needsOf(cell));
        while (!next.isEmpty()) {
            int c = next.remove(next.size() - 1);
            if (all.add(c)) {
                next.addAll(needsOf(c));
            }
        }
        return all;
    }

    int recalculate() {
        boolean[] changedSheet = new boolean[4];
        for (int s = 0; s < 4; s++) {
            changedSheet[s] = sheets[s].told;
            for (Definition d : sheets[s].constants) {
                changedSheet[s] |= reachesTold(d.body);
            }
            if (changedSheet[s]) {
                workOutConstants(s);
            }
        }
        Set<Integer> changed = new TreeSet<>();
        List<Set<Integer>> all = new ArrayList<>();
        for (int c = 0; c < 256; c++) {
            Node f = cells[c].formula;
            all.add(f == null ? Set.of() : allNeeds(c));
            if (f != null && (toldCells.contains(c) || reachesTold(f) || changedSheet[c / 64])) {
                changed.add(c);
            }
        }
        for (boolean more = true; more; ) {
            more = false;
            for (int c = 0; c < 256; c++) {
                for (int need : needsOf(c)) {
                    if (toldCells.contains(need) || changed.contains(need)) {
                        more |= changed.add(c);
                    }
                }
            }
        }
        cycles = new ArrayList<>();
        int[] first = new int[256];
        Arrays.fill(first, -1);
        for (int c = 0; c < 256; c++) {
            if (first[c] == -1 && all.get(c).contains(c)) {
                List<Integer> cycle = new ArrayList<>();
                for (int d = c; d < 256; d++) {
                    if (all.get(c).contains(d) && all.get(d).contains(c)) {
                        cycle.add(d);
                        first[d] = c;
                    }
                }
                cycles.add(cycle);
            }
        }
        done = new ArrayList<>();
        Set<Integer> left = new TreeSet<>(changed);
        while (!left.isEmpty()) {
            int least = -1;
            for (int c : left) {
                Set<Integer> waits = new TreeSet<>(needsOf(c));
                waits.retainAll(left);
                if (first[c] != -1 || waits.isEmpty()) {
                    least = c;
                    break;
                }
            }
            left.remove(least);
            done.add(least);
            doCell(least, first[least]);
        }
        toldCells.clear();
        toldFunctions.clear();
        long[][] edition = new long[256][2];
        for (int c = 0; c < 256; c++) {
            edition[c][0] = state(c);
            edition[c][1] = value(c);
        }
        editions.add(edition);
        return done.size();
    }

    private void workOutConstants(int s) {
        sheets[s].told = false;
        sheets[s].times++;
        sheets[s].spoiledBy = 0;
        for (Definition d : sheets[s].constants) {
            d.state = 0;
            d.kind = 0;
            d.value = null;
        }
        for (Definition d : sheets[s].constants) {
            try {
                d.value = workOut(d.body, s);
                d.state = d.value instanceof Long ? 1 : 2;
            } catch (Fail f) {
                d.state = 3;
                d.kind = f.kind;
                sheets[s].spoiledBy = f.kind;
                return;
            }
        }
    }

    private void doCell(int number, int cycleFirst) {
        Cell c = cells[number];
        c.reads = new ArrayList<>();
        c.kind = 0;
        c.first = number;
        c.cause = 0;
        c.value = null;
        if (cycleFirst != -1) {
            c.state = 4;
            c.kind = 9;
            c.first = cycleFirst;
        } else if (sheets[number / 64].spoiledBy != 0) {
            c.state = 3;
            c.kind = 10;
            c.cause = sheets[number / 64].spoiledBy;
        } else {
            try {
                c.value = workOut(c.formula, number / 64);
                c.state = c.value instanceof Long ? 1 : 2;
            } catch (Fail f) {
                c.state = f.hangs ? 5 : 3;
                c.kind = f.kind;
                c.first = f.hangs ? f.first : number;
                c.cause = f.cause;
            }
            c.reads = reads;
        }
    }

    // ---- looking

    int state(int cell) {
        return cell < 0 || cell > 255 ? -1 : cells[cell].state;
    }

    private static long bits(Object v) {
        return v instanceof Long l ? l : v instanceof Double d ? Double.doubleToLongBits(d) : 0L;
    }

    long value(int cell) {
        return cell < 0 || cell > 255 || state(cell) > 2 ? 0 : bits(cells[cell].value);
    }

    int failure(int cell, int what) {
        if (cell < 0 || cell > 255) {
            return -3;
        }
        if (what < 0 || what > 2) {
            return -2;
        }
        Cell c = cells[cell];
        return c.state < 3 || c.state > 5 ? -1 : new int[] {c.kind, c.first, c.cause}[what];
    }

    private static int pick(List<Integer> all, int i) {
        return i >= 0 && i < all.size() ? all.get(i) : -1;
    }

    int done(int i) {
        return pick(done, i);
    }

    int needs(int cell, int i) {
        return cell < 0 || cell > 255 ? -1 : pick(new ArrayList<>(needsOf(cell)), i);
    }

    int neededBy(int cell, int i) {
        List<Integer> all = new ArrayList<>();
        for (int c = 0; c < 256; c++) {
            if (needsOf(c).contains(cell)) {
                all.add(c);
            }
        }
        return pick(all, i);
    }

    int cycle(int i, int k) {
        return i >= 0 && i < cycles.size() ? pick(cycles.get(i), k) : -1;
    }

    int trace(int cell, int i) {
        return cell < 0 || cell > 255 || i > 23 ? -1 : pick(cells[cell].reads, i);
    }

    long named(int sheet, int i, int what) {
        if (sheet < 0 || sheet > 3 || i < 0 || i >= sheets[sheet].constants.size()) {
            return -1;
        }
        if (what < 0 || what > 2) {
            return -2;
        }
        Definition d = sheets[sheet].constants.get(i);
        return what == 0 ? d.state : what == 1 ? bits(d.value) : d.kind;
    }

    long old(int e, int cell, int what) {
        if (cell < 0 || cell > 255) {
            return -1;
        }
        if (what < 0 || what > 1) {
            return -2;
        }
        if (e < 1 || e > editions.size() || e <= editions.size() - 10) {
            return -3;
        }
        return editions.get(e - 1)[cell][what];
    }

    int count(int what) {
        int formulas = 0;
        for (Cell c : cells) {
            formulas += c.formula != null ? 1 : 0;
        }
        return switch (what) {
            case 0 -> editions.size();
            case 1 -> formulas;
            case 2 -> functions.size();
            case 3 -> done.size();
            case 4 -> cycles.size();
            case 5 -> text.length();
            case 6 -> out.length();
            case 7, 8, 9, 10 -> sheets[what - 7].constants.size();
            case 11, 12, 13, 14 -> sheets[what - 11].times;
            default -> -1;
        };
    }
}
