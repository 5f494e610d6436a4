import java.util.ArrayList;
import java.util.List;
import java.util.Random;
import java.util.function.ToLongFunction;

/**
 * Random runs of calls, the same ones each time, on a LoadBook and on the model: all answers must be alike.
 *
 * <p>Nothing is promised behind an object's 512th call, so a run has fewer, and what there is to look at when it ends
 * is looked at in pieces, for each of which the run is made once more on a new object.
 */
public final class AgainstModelTest {
    private static final int MOST_CALLS = 512;
    private static final int CALLS_OF_A_RUN = 300;
    private static final int LONGEST_TEXT = 250;

    /** A call that was made, with what the model answered. */
    private record Call(String name, ToLongFunction<LoadBook> call, long want) {
    }

    private static final String[] FUNCTIONS = {
        "f(x)=x*x-2", "f(x)=if(x<1,0,f(x-1)+1)", "f(x)=g(x)+g(x)", "f(x)=x-0.5", "f(x)=root(g,x,9)", "f(x)=1/x",
        "g(x)=g(x)+g(x)", "g(x)=x+1", "g(y)=try(h(y,y),f(y))", "g(x)=x*x*x-x", "g(x)=try(f(x),7)", "g(x)=try(g(x),1)",
        "h(x,y)=x-y*2", "h(x,y)=if(y<=x,h(x-1,y),x/y)", "h(u,v)=f(u)%g(v)", "h(x,y)=h(h(x,y),y)",
        "k(a,b,c)=if(a,b,c)", "k(a,b,c)=try(a/b,c)", "k(a,b,c)=k(c,a,b)", "m(x)=x", "n(x)=-x", "p(x)=real(x)",
        "q(x)=cut(x)", "r(x)=f(x)", "s(x)=f(x,1)", "f(x,y)=x", "h(x)=x", "g(x)=Aa0", "g(x)=sum(Aa0:Ab1)", "k(a,b,a)=a",
        "f(x)=y", "g(x)=root(x,1,2)", "g(x)=root(g,1,x)", "f(x)=root(f,x-1,x+1)"
    };

    // Sound ones: one to three of each NAME, so that calls find what they call.
    private static final String[][] FIRST_FUNCTIONS = {
        {"f(x)=x*x-2", "f(x)=x-0.5", "f(x)=1/x"},
        {"g(x)=g(x)+g(x)", "g(x)=x+f(x)", "g(x)=x*x*x-x", "g(x)=try(g(x),1)", "g(x)=if(x<0.5,0,g(x-1)+1)"},
        {"h(x,y)=x-y*2", "h(x,y)=f(x)%g(y)", "h(x,y)=if(y<x,h(x-1,y),x/y)"},
        {"k(a,b,c)=if(a,b,c)", "k(a,b,c)=try(a/b,c)", "k(a,b,c)=k(c,a,b)"},
        {"m(x)=x*x", "m(x)=x*x*x*x*x*x*x*x"}, {"n(x)=-x", "n(x)=m(m(m(x)))"}, {"p(x)=real(x)", "p(x)=root(f,0,x)"}
    };

    private static final String[] FIRST_CONSTANTS = {"a=1", "b=a+1.5", "c=b*b", "d=c%a", "e=0-d"};

    private static final String[] FORMULAS = {
        "m(m(m(m(m(Aa0)))))", "n(n(n(n(Ab0))))", "m(m(m(m(m(real(Aa0))))))%m(m(Ab0+0.5))", "1.5/m(m(m(m(real(Aa0)))))",
        "m(m(m(m(m(1/real(Aa0))))))", "m(m(m(m(m(1/real(Aa0))))))%m(m(m(m(1/real(Ab0)))))", "n(n(0.1))-n(n(0.2))",
        "line(Aa1,Aa0:Af0,Ba0:Bf0)", "line(a,Aa0:Ah0,Aa1:Ah1)", "area(Aa0:Ad0,Ba0:Bd0)", "area(Aa0:Ac1,Aa0:Ac1)",
        "root(f,0,9)", "root(f,-9,0)", "root(p,-1,7)", "root(n,-3,4.5)", "root(g,0.5,7)", "root(f,n(Aa0),m(Aa0))",
        "line(m(m(m(real(Aa0)))),Aa0:Af0,Ba0:Bf0)", "try(g(1),2)", "try(Aa0,Ab0)", "sum(Aa0:Ah7)", "count(Aa0:Ch7)",
        "least(Aa0:Ad1)-most(Aa0:Ad1)", "sum(Aa0:Ah7)+sum(Ba0:Bh7)+sum(Ca0:Ch7)+sum(Da0:Dh7)", "0.0*-1=0", "-0.0*3",
        "-1*0.0", "g(40)", "g(19)", "g(Aa0)", "g(18)+g(20)", "try(g(50),5)", "at(Aa0:Ad1,Ab0)", "real(Aa0)%real(Ab0)"
    };

    private static final String[] CONSTANTS = {
        "a=1", "a=2.5", "a=1/0", "b=a+1", "b=f(2)", "b=g(3)", "c=a*b", "c=9%0", "c=g(1)", "d=b-c", "e=0.1", "t=3",
        "t=t", "a=b", "d=1.0/3", "e=d=d", "b=Aa0", "c=zz", "d=root(f,0,9)", "e=h(1,2)", "b=1%1"
    };

    private static final long[] WHOLES = {
        0, 1, 2, 3, -1, -2, 7, 10, 60, 100, Long.MAX_VALUE, Long.MIN_VALUE, 1L << 53, (1L << 53) + 1, -5, 1000000007L,
        9007199254740993L, 123456789012345678L
    };

    private final Random random;
    private final int seed;
    private final LoadBook book = new LoadBook();
    private final LoadBookModel model = new LoadBookModel();
    private final List<Call> made = new ArrayList<>();
    private final List<Call> looks = new ArrayList<>();
    private final int cellsUsed;
    private final int sheetsUsed;
    private int wrong;

    private AgainstModelTest(int seed) {
        this.seed = seed;
        random = new Random(seed);
        cellsUsed = new int[] {3, 6, 16, 64}[random.nextInt(4)];
        sheetsUsed = 1 + random.nextInt(4);
    }

    public static void main(String[] args) {
        int runs = args.length > 0 ? Integer.parseInt(args[0]) : 2500;
        int from = args.length > 1 ? Integer.parseInt(args[1]) : 0;
        int wrongRuns = 0;
        for (int seed = from; seed < from + runs && wrongRuns < 3; seed++) {
            AgainstModelTest run = new AgainstModelTest(seed);
            run.go();
            if (run.wrong > 0) {
                wrongRuns++;
            }
        }
        System.out.println(wrongRuns == 0 ? "as the model in " + runs + " runs" : "unlike the model");
        if (wrongRuns > 0) {
            System.exit(1);
        }
    }

    private boolean isLong() {
        return made.size() >= CALLS_OF_A_RUN || wrong > 0;
    }

    private void tellFirst() {
        for (String[] same : FIRST_FUNCTIONS) {
            type(same[random.nextInt(same.length)]);
            make("function()", LoadBook::function, model.function());
        }
        for (int sheet = 0; sheet < sheetsUsed; sheet++) {
            for (String s : FIRST_CONSTANTS) {
                type(s);
                constant(sheet);
            }
        }
        for (int n = 0; n < cellsUsed; n++) {
            if (random.nextBoolean()) {
                tellWhole();
            } else {
                tellNumber();
            }
        }
        if (random.nextInt(3) == 0) {
            tellTable();
        }
    }

    private void tellTable() {
        long x = -random.nextInt(9);
        for (int column = 0; column < 8; column++) {
            for (int cell = column; cell < 256; cell += 64) {
                number(cell, cell < 64 ? x : random.nextInt(40) - 15, random.nextInt(3));
            }
            x = random.nextInt(12) == 0 ? Long.MAX_VALUE : 100 * Math.max(x, 0) + random.nextInt(9);
        }
    }

    private void go() {
        if (random.nextInt(5) > 0) {
            tellFirst();
        }
        int times = 5 + random.nextInt(75);
        for (int n = 0; n < times && !isLong(); n++) {
            switch (random.nextInt(12)) {
                case 0:
                    tellWhole();
                    break;
                case 1:
                    tellNumber();
                    break;
                case 2:
                    int cell = cell();
                    make("empty(" + cell + ")", b -> b.empty(cell), model.empty(cell));
                    break;
                case 3:
                    tellFunction();
                    break;
                case 4:
                    tellConstant();
                    break;
                case 5:
                case 6:
                    make("recalculate()", LoadBook::recalculate, model.recalculate());
                    break;
                case 7:
                    printAndTake();
                    break;
                default:
                    tellFormula();
                    break;
            }
        }
        if (random.nextInt(4) > 0) {
            make("recalculate()", LoadBook::recalculate, model.recalculate());
        }
        lookAtAll();
        makeLooks();
    }

    private void make(String name, ToLongFunction<LoadBook> call, long want) {
        made.add(new Call(name, call, want));
        long got = call.applyAsLong(book);
        if (got != want) {
            complain(made, name, got, want);
        }
    }

    private void complain(List<Call> story, String name, long got, long want) {
        wrong++;
        if (wrong == 1) {
            System.out.println("seed " + seed);
            for (Call call : story) {
                System.out.println(call.name + " -> " + call.want);
            }
            System.out.println(name + " answered " + got + ", the model " + want);
        }
    }

    private void look(String name, ToLongFunction<LoadBook> call, long want) {
        looks.add(new Call(name, call, want));
    }

    private void makeLooks() {
        int atOnce = MOST_CALLS - made.size();
        for (int from = 0; from < looks.size() && wrong == 0; from += atOnce) {
            LoadBook again = new LoadBook();
            for (Call call : made) {
                call.call.applyAsLong(again);
            }
            for (Call call : looks.subList(from, Math.min(looks.size(), from + atOnce))) {
                long got = call.call.applyAsLong(again);
                if (got != call.want) {
                    complain(made, call.name, got, call.want);
                }
            }
        }
    }

    private int cell() {
        if (random.nextInt(60) == 0) {
            return random.nextInt(300) - 20;
        }
        return 64 * random.nextInt(sheetsUsed) + random.nextInt(cellsUsed);
    }

    private void type(String s) {
        boolean gaps = random.nextInt(4) == 0;
        for (int i = 0; i < s.length(); ) {
            long bytes = 0;
            for (int k = 0; k < 8; k++) {
                if (i < s.length() && (!gaps || random.nextInt(8) > 0)) {
                    bytes |= (long) (s.charAt(i) & 255) << (8 * k);
                    i++;
                }
            }
            long typed = bytes;
            make("type(" + typed + ") of " + s, b -> b.type(typed), model.type(typed));
        }
    }

    private void tellWhole() {
        int cell = cell();
        long v = random.nextInt(3) == 0 ? WHOLES[random.nextInt(WHOLES.length)] : random.nextInt(20) - 6;
        make("whole(" + cell + ", " + v + ")", b -> b.whole(cell, v), model.whole(cell, v));
    }

    private void tellNumber() {
        int cell = cell();
        long n = random.nextInt(3) == 0 ? WHOLES[random.nextInt(WHOLES.length)] : random.nextInt(200) - 60;
        if (random.nextInt(8) == 0) {
            n = random.nextLong();
        }
        number(cell, n, random.nextInt(30) == 0 ? random.nextInt(20) - 3 : random.nextInt(16));
    }

    private void number(int cell, long n, int e) {
        make("number(" + cell + ", " + n + ", " + e + ")", b -> b.number(cell, n, e), model.number(cell, n, e));
    }

    private void constant(int sheet) {
        make("constant(" + sheet + ")", b -> b.constant(sheet), model.constant(sheet));
    }

    private void formula(int cell) {
        make("formula(" + cell + ")", b -> b.formula(cell), model.formula(cell));
    }

    private void tellFunction() {
        String[] same = FIRST_FUNCTIONS[random.nextInt(FIRST_FUNCTIONS.length)];
        String s = random.nextInt(2) > 0
            ? same[random.nextInt(same.length)]
            : random.nextInt(2) > 0 ? FUNCTIONS[random.nextInt(FUNCTIONS.length)]
            : pick("f", "g", "h", "k", "m", "w") + "(" + pick("x", "x,y", "x,y,z", "x,x") + ")=" + e(2, 'F');
        type(disturbed(s));
        make("function()", LoadBook::function, model.function());
        make("fault()", LoadBook::fault, model.fault());
    }

    private void tellConstant() {
        int sheet = random.nextInt(30) == 0 ? random.nextInt(10) - 3 : random.nextInt(sheetsUsed);
        String s = random.nextInt(2) > 0
            ? FIRST_CONSTANTS[random.nextInt(FIRST_CONSTANTS.length)]
            : random.nextInt(2) > 0 ? CONSTANTS[random.nextInt(CONSTANTS.length)]
            : pick("a", "b", "c", "d", "e", "t") + "=" + e(2, 'C');
        type(disturbed(s));
        constant(sheet);
        make("fault()", LoadBook::fault, model.fault());
        if (random.nextInt(4) == 0) {
            make("wipe()", LoadBook::wipe, model.wipe());
        }
    }

    private void tellFormula() {
        int cell = cell();
        String s = random.nextInt(4) == 0
            ? FORMULAS[random.nextInt(FORMULAS.length)]
            : e(random.nextInt(6) == 0 ? 4 : 1 + random.nextInt(2), 'C');
        type(disturbed(s));
        formula(cell);
        make("fault()", LoadBook::fault, model.fault());
        if (random.nextInt(4) == 0) {
            make("wipe()", LoadBook::wipe, model.wipe());
        }
    }

    private void printAndTake() {
        int cell = cell();
        make("print(" + cell + ")", b -> b.print(cell), model.print(cell));
        for (int n = 0; n < 4; n++) {
            int i = random.nextInt(24);
            make("sign(" + i + ")", b -> b.sign(i), model.sign(i));
        }
        make("take()", LoadBook::take, model.take());
        if (random.nextBoolean()) {
            formula(cell());
        } else {
            make("wipe()", LoadBook::wipe, model.wipe());
        }
    }

    private String pick(String... all) {
        return all[random.nextInt(all.length)];
    }

    private String ref() {
        int cell = random.nextInt(cellsUsed);
        return "" + (char) ('A' + random.nextInt(sheetsUsed)) + (char) ('a' + cell % 8) + cell / 8;
    }

    private String area() {
        char sheet = (char) ('A' + random.nextInt(sheetsUsed));
        int column = random.nextInt(3);
        int row = random.nextInt(2);
        int width = random.nextInt(4);
        int height = random.nextInt(3);
        char other = random.nextInt(60) == 0 ? 'B' : sheet;
        if (random.nextInt(60) == 0) {
            width = -column;
        }
        if (random.nextInt(40) == 0) {
            return sheet + "a0:" + sheet + "h7";
        }
        return "" + sheet + (char) ('a' + column) + row + ":" + other + (char) ('a' + column + width) + (row + height);
    }

    /** where: 'F' in a FUNCTION, 'C' elsewhere. */
    private String e(int depth, char where) {
        if (depth > 0 && random.nextInt(6) == 0) {
            return sum(depth, where) + pick("<", "<=", "=", "<>") + sum(depth - 1, where);
        }
        return sum(depth, where);
    }

    private String sum(int depth, char where) {
        StringBuilder s = new StringBuilder(atom(depth, where));
        for (int n = random.nextInt(3); n > 0; n--) {
            s.append(pick("+", "-", "*", "/", "%", "*", "+")).append(atom(depth - 1, where));
        }
        return s.toString();
    }

    private String numeral() {
        switch (random.nextInt(8)) {
            case 0:
                return pick("0", "00", "0.0", "1.5", "007.250", "0.1", "3.3", "2.000", "99999999999999.9");
            case 1:
                return pick("999999999999999999", "123456789012345678", "9007199254740993", "1000000000000000000");
            default:
                return "" + random.nextInt(12);
        }
    }

    private String atom(int depth, char where) {
        if (depth <= 0 || random.nextInt(3) == 0) {
            switch (random.nextInt(4)) {
                case 0:
                    return numeral();
                case 1:
                    return where == 'F' ? pick("x", "x", "y", "z") : pick("a", "b", "c", "d", "e");
                default:
                    return where == 'F' ? "x" : ref();
            }
        }
        int d = depth - 1;
        switch (random.nextInt(14)) {
            case 0:
                return "(" + e(d, where) + ")";
            case 1:
                return "-" + atom(d, where);
            case 2:
                return "if(" + e(d, where) + "," + e(d, where) + "," + e(d, where) + ")";
            case 3:
            case 4:
                return "try(" + e(d, where) + "," + e(d, where) + ")";
            case 5:
                return pick("f", "g", "m", "n") + "(" + e(d, where) + ")";
            case 6:
                return "h(" + e(d, where) + "," + e(d, where) + ")";
            case 7:
                return "k(" + e(d, where) + "," + e(d, where) + "," + e(d, where) + ")";
            case 8:
                return "root(" + pick("f", "g", "p", "h") + "," + e(d, where) + "," + e(d, where) + ")";
            case 9:
                return pick("cut", "real") + "(" + e(d, where) + ")";
            case 10:
                return where == 'F' ? "x" : "at(" + area() + "," + e(d, where) + ")";
            case 11:
                return where == 'F' ? "x" : "line(" + e(d, where) + "," + area() + "," + area() + ")";
            case 12:
                return where == 'F' ? "x" : "area(" + area() + "," + area() + ")";
            default:
                return where == 'F' ? "x" : pick("sum", "least", "most", "count") + "(" + area() + ")";
        }
    }

    private String disturbed(String told) {
        String s = told;
        if (random.nextInt(6) == 0) {
            s = s.replace(",", " , ").replace("+", "  +");
        }
        for (int n = random.nextInt(12) == 0 ? 1 + random.nextInt(2) : 0; n > 0; n--) {
            int i = random.nextInt(s.length() + 1);
            int k = Math.min(s.length(), i + random.nextInt(3));
            String odd = pick("", "", " ", ".", "(", ")", "-", "A", "Aa", "Aa0", "if", "f(", ",", ":", "<", "=",
                "1.", "1.5.", "abcdefghi", "1234567890123456789", "12345678.12345678", "&", "\u00e4", "sum", "x");
            s = s.substring(0, i) + odd + s.substring(k);
        }
        return s.substring(0, Math.min(s.length(), LONGEST_TEXT));
    }

    /** What is asked of all cells, of those that are used, and of some that are picked. */
    private void lookAtAll() {
        for (int what = -1; what < 16; what++) {
            int w = what;
            look("count(" + what + ")", b -> b.count(w), model.count(what));
        }
        for (int i = -1; i < 49; i++) {
            int k = i;
            look("done(" + i + ")", b -> b.done(k), model.done(i));
        }
        for (int i = -1; i < 330; i++) {
            int k = i;
            if (i < 20 || model.sign(i) != -1) {
                look("sign(" + i + ")", b -> b.sign(k), model.sign(i));
            }
        }
        for (int i = -1; i <= model.count(4); i++) {
            for (int k = -1; k < 8; k++) {
                int cycle = i;
                int number = k;
                look("cycle(" + i + ", " + k + ")", b -> b.cycle(cycle, number), model.cycle(i, k));
            }
        }
        for (int c = 0; c < 256; c++) {
            if (model.state(c) != 0 || random.nextInt(16) == 0) {
                lookAtCell(c);
            }
        }
        for (int n = 0; n < 3; n++) {
            lookClosely(cell());
        }
        for (int n = 0; n < 72; n++) {
            int sheet = n / 18;
            int i = n / 3 % 6;
            int what = n % 3;
            look("named(" + sheet + ", " + i + ", " + what + ")",
                b -> b.named(sheet, i, what), model.named(sheet, i, what));
        }
    }

    private void lookAtCell(int c) {
        look("state(" + c + ")", b -> b.state(c), model.state(c));
        look("value(" + c + ")", b -> b.value(c), model.value(c));
        for (int what = 0; what < 3 && model.state(c) > 2; what++) {
            int w = what;
            look("failure(" + c + ", " + what + ")", b -> b.failure(c, w), model.failure(c, what));
        }
        for (int i = 0; i < 26 && (i == 0 || model.trace(c, i - 1) != -1); i++) {
            int k = i;
            look("trace(" + c + ", " + i + ")", b -> b.trace(c, k), model.trace(c, i));
        }
    }

    private void lookClosely(int c) {
        for (int i = -1; i < 1 || model.needs(c, i - 1) != -1; i++) {
            int k = i;
            look("needs(" + c + ", " + i + ")", b -> b.needs(c, k), model.needs(c, i));
        }
        for (int i = -1; i < 8; i++) {
            int k = i;
            look("neededBy(" + c + ", " + i + ")", b -> b.neededBy(c, k), model.neededBy(c, i));
        }
        for (int e = -1; e < 20; e++) {
            int edition = e;
            look("old(" + e + ", " + c + ", 0)", b -> b.old(edition, c, 0), model.old(e, c, 0));
            look("old(" + e + ", " + c + ", 1)", b -> b.old(edition, c, 1), model.old(e, c, 1));
        }
    }
}
