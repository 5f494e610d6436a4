import java.util.ArrayList;
import java.util.List;
import java.util.function.ToLongFunction;

/**
 * "Calls answer the first code that fits, by their order; then nothing changes (but for THE TEXT)."
 *
 * <p>Each refused call is made in several books at several times; what later calls answer must be what they answer in a
 * book in which it was not made. As nothing is promised behind an object's 512th call, a book is made anew for each
 * piece of the looking.
 */
public final class RefusedCallsTest {
    private static final int MOST_CALLS = 512;
    private static final int LOOKS_OF_ONE_BOOK = 150;

    private record Call(String name, ToLongFunction<LoadBook> call) {
    }

    /** takes tells that it takes THE TEXT, so that fault() is of it. */
    private record Refused(String name, List<Call> ahead, Call call, long due, boolean takes) {
    }

    private static int wrong = 0;
    private static int answers = 0;

    public static void main(String[] args) {
        holds("a new book", new ArrayList<>(), young());
        holds("a book with some of all", middling(), always());
        holds("a book with some of all", middling(), ofMiddling());
        holds("a full book", full(), always());
        holds("a full book", full(), ofFull());
        holds("a book with a TEXT", withText(), keepingText());
        System.out.println(wrong == 0 ? answers + " answers are as due" : wrong + " answers are wrong");
        if (wrong != 0) {
            System.exit(1);
        }
    }

    // ---- books

    private static List<Call> middling() {
        List<Call> all = new ArrayList<>();
        function(all, "f(x)=x*x-2");
        function(all, "g(x,y)=if(x<y,f(x),y)");
        constant(all, 0, "a=7");
        constant(all, 0, "b=a/2.0");
        constant(all, 1, "a=f(3)");
        constant(all, 2, "a=1/0");
        formula(all, "Aa0", "Ab0+a");
        formula(all, "Ac0", "sum(Aa0:Ab0)*g(Ab0,9)");
        formula(all, "Ad0", "Bh7");
        formula(all, "Ae0", "Ad0");
        formula(all, "Ba0", "Bb0");
        formula(all, "Bb0", "Ba0+a");
        formula(all, "Ca0", "5");
        formula(all, "Da0", "root(f,0,Ab0)");
        add(all, "whole(1, 4)", b -> b.whole(1, 4));
        add(all, "number(200, 25, 1)", b -> b.number(200, 25, 1));
        add(all, "recalculate()", LoadBook::recalculate);
        add(all, "whole(1, 5)", b -> b.whole(1, 5));
        add(all, "recalculate()", LoadBook::recalculate);
        // Changes that are not worked out yet.
        add(all, "whole(1, 6)", b -> b.whole(1, 6));
        function(all, "f(x)=x-2");
        constant(all, 0, "a=8");
        formula(all, "Af0", "Aa0-1");
        add(all, "empty(200)", b -> b.empty(200));
        add(all, "print(2)", b -> b.print(2));
        return all;
    }

    private static List<Call> full() {
        List<Call> all = new ArrayList<>();
        for (int i = 0; i < 8; i++) {
            function(all, (char) ('f' + i) + "(x)=x+" + i);
        }
        for (int i = 0; i < 5; i++) {
            constant(all, 0, (char) ('a' + i) + "=" + i);
        }
        for (int i = 0; i < 47; i++) {
            formula(all, ref(i), ref(i + 1) + "+g(a)");
        }
        formula(all, "Dh7", "12345678901+12345678901" + "+12345678901".repeat(18));
        for (int i = 0; i < 12; i++) {
            int v = i;
            add(all, "whole(47, " + i + ")", b -> b.whole(47, v));
            add(all, "recalculate()", LoadBook::recalculate);
        }
        add(all, "whole(47, 99)", b -> b.whole(47, 99));
        add(all, "print(255)", b -> b.print(255));
        return all;
    }

    private static List<Call> withText() {
        List<Call> all = middling();
        type(all, " ".repeat(233) + "Ab0+1");
        return all;
    }

    // ---- what is refused

    private static List<Refused> young() {
        List<Refused> all = always();
        refuse(all, "empty(0)", b -> b.empty(0), 0);
        refuse(all, "print(0)", b -> b.print(0), -3);
        refuse(all, "failure(0, 0)", b -> b.failure(0, 0), -1);
        refuse(all, "named(0, 0, 0)", b -> b.named(0, 0, 0), -1);
        refuse(all, "old(1, 0, 0)", b -> b.old(1, 0, 0), -3);
        refuseText(all, "f(1)", "formula(0)", b -> b.formula(0), -104);
        refuseText(all, "a=b", "constant(0)", b -> b.constant(0), -104);
        return all;
    }

    /** What is refused in whichever book. */
    private static List<Refused> always() {
        List<Refused> all = new ArrayList<>();
        for (int cell : new int[] {Integer.MIN_VALUE, -1, 256, Integer.MAX_VALUE}) {
            refuse(all, "whole(" + cell + ", 3)", b -> b.whole(cell, 3), -1);
            refuse(all, "number(" + cell + ", 3, 1)", b -> b.number(cell, 3, 1), -1);
            refuse(all, "empty(" + cell + ")", b -> b.empty(cell), -1);
            refuse(all, "print(" + cell + ")", b -> b.print(cell), -1);
            refuse(all, "state(" + cell + ")", b -> b.state(cell), -1);
            refuse(all, "value(" + cell + ")", b -> b.value(cell), 0);
            refuse(all, "failure(" + cell + ", 0)", b -> b.failure(cell, 0), -3);
            refuse(all, "needs(" + cell + ", 0)", b -> b.needs(cell, 0), -1);
            refuse(all, "neededBy(" + cell + ", 0)", b -> b.neededBy(cell, 0), -1);
            refuse(all, "trace(" + cell + ", 0)", b -> b.trace(cell, 0), -1);
            refuse(all, "old(1, " + cell + ", 0)", b -> b.old(1, cell, 0), -1);
            refuse(all, "sign(" + cell + ")", b -> b.sign(cell == 256 ? 320 : cell), -1);
            refuse(all, "done(" + cell + ")", b -> b.done(cell), -1);
            refuse(all, "cycle(" + cell + ", 0)", b -> b.cycle(cell, 0), -1);
            refuse(all, "named(" + cell + ", 0, 0)", b -> b.named(cell, 0, 0), -1);
            refuse(all, "count(" + cell + ")", b -> b.count(cell), -1);
        }
        for (int e : new int[] {Integer.MIN_VALUE, -1, 16, Integer.MAX_VALUE}) {
            refuse(all, "number(1, 3, " + e + ")", b -> b.number(1, 3, e), -2);
            refuse(all, "number(0, 3, " + e + ")", b -> b.number(0, 3, e), -2);
            refuse(all, "failure(0, " + e + ")", b -> b.failure(0, e), -2);
            refuse(all, "old(1, 0, " + e + ")", b -> b.old(1, 0, e), -2);
            refuse(all, "old(" + e + ", 0, 0)", b -> b.old(e, 0, 0), -3);
        }
        for (String s : new String[] {"&", "Ab0+", "Ab0+zz", "(".repeat(11), "1" + "+1".repeat(20), "zz(1)",
            "sum(Ab0:Aa0)", "1)"}) {
            long due = s.startsWith("&") ? -101 : s.startsWith("((") || s.length() == 41 ? -103
                : s.endsWith("+") || s.endsWith("1)") && s.length() == 2 ? -102 : -104;
            refuseText(all, s, "formula(0)", b -> b.formula(0), due);
            refuseText(all, s, "formula(9)", b -> b.formula(9), due);
            refuseText(all, s, "formula(1)", b -> b.formula(1), due);
            refuseText(all, "f(x)=" + s, "function()", LoadBook::function, due);
            refuseText(all, "q(x)=" + s, "function()", LoadBook::function, due);
            refuseText(all, "a=" + s, "constant(0)", b -> b.constant(0), due);
            refuseText(all, "q=" + s, "constant(3)", b -> b.constant(3), due);
        }
        refuseText(all, "q(x,x)=x", "function()", LoadBook::function, -105);
        refuseText(all, "", "formula(0)", b -> b.formula(0), -102);
        refuseText(all, "", "function()", LoadBook::function, -102);
        refuseText(all, "", "constant(0)", b -> b.constant(0), -102);
        return all;
    }

    private static List<Refused> ofMiddling() {
        List<Refused> all = new ArrayList<>();
        refuse(all, "empty(100)", b -> b.empty(100), 0);
        refuse(all, "empty(200)", b -> b.empty(200), 0);
        refuse(all, "print(100)", b -> b.print(100), -3);
        refuse(all, "print(1)", b -> b.print(1), -3);
        refuse(all, "failure(1, 0)", b -> b.failure(1, 0), -1);
        refuse(all, "old(3, 0, 0)", b -> b.old(3, 0, 0), -3);
        refuse(all, "named(0, 2, 0)", b -> b.named(0, 2, 0), -1);
        refuse(all, "named(0, 1, 3)", b -> b.named(0, 1, 3), -2);
        refuseText(all, "g(x)=x", "function()", LoadBook::function, -105);
        refuseText(all, "f(x,y)=x", "function()", LoadBook::function, -105);
        refuseText(all, "a=b", "constant(0)", b -> b.constant(0), -104);
        refuseText(all, "b=b", "constant(0)", b -> b.constant(0), -104);
        refuseText(all, "f(1,2)", "formula(0)", b -> b.formula(0), -104);
        return all;
    }

    private static List<Refused> ofFull() {
        List<Refused> all = new ArrayList<>();
        refuseText(all, "1", "formula(100)", b -> b.formula(100), -2);
        refuseText(all, "Aa0+g(1)", "formula(47)", b -> b.formula(47), -2);
        refuseText(all, "sum(Aa0:Ah7)", "formula(254)", b -> b.formula(254), -2);
        refuseText(all, "z(x)=x", "function()", LoadBook::function, -2);
        refuseText(all, "z(x)=z(x)+f(x)", "function()", LoadBook::function, -2);
        refuseText(all, "z=1", "constant(0)", b -> b.constant(0), -2);
        refuseText(all, "z=a+b", "constant(0)", b -> b.constant(0), -2);
        refuse(all, "take()", LoadBook::take, -2);
        refuse(all, "old(1, 0, 0)", b -> b.old(1, 0, 0), -3);
        refuse(all, "old(2, 0, 0)", b -> b.old(2, 0, 0), -3);
        refuse(all, "old(13, 0, 0)", b -> b.old(13, 0, 0), -3);
        refuse(all, "named(0, 5, 0)", b -> b.named(0, 5, 0), -1);
        return all;
    }

    /** THE TEXT has 238 bytes, and stays. */
    private static List<Refused> keepingText() {
        List<Refused> all = new ArrayList<>();
        refuse(all, "type of three", b -> b.type(0x313131L), -2);
        refuse(all, "type of eight", b -> b.type(0x3131313131313131L), -2);
        refuse(all, "type of bytes apart", b -> b.type(0x3100003100310000L), -2);
        for (int number : new int[] {Integer.MIN_VALUE, -1, 256, Integer.MAX_VALUE}) {
            refuse(all, "formula(" + number + ")", b -> b.formula(number), -1);
            refuse(all, "constant(" + number + ")", b -> b.constant(number), -1);
            refuse(all, "whole(" + number + ", 1)", b -> b.whole(number, 1), -1);
        }
        refuse(all, "constant(4)", b -> b.constant(4), -1);
        refuse(all, "number(0, 1, 16)", b -> b.number(0, 1, 16), -2);
        refuse(all, "print(100)", b -> b.print(100), -3);
        refuse(all, "empty(100)", b -> b.empty(100), 0);
        return all;
    }

    // ---- what comes later

    /** Nothing; then what is CHANGED is worked out; then much is told once more. */
    private static List<List<Call>> later() {
        List<Call> recalculated = new ArrayList<>();
        add(recalculated, "recalculate()", LoadBook::recalculate);
        List<Call> toldAgain = new ArrayList<>();
        add(toldAgain, "formula(250)", b -> b.formula(250));
        function(toldAgain, "f(x)=x*3");
        function(toldAgain, "q(x)=x+100");
        function(toldAgain, "r(x)=f(x)");
        constant(toldAgain, 0, "a=2");
        constant(toldAgain, 0, "q=a+1");
        constant(toldAgain, 3, "q=5");
        add(toldAgain, "whole(1, 3)", b -> b.whole(1, 3));
        add(toldAgain, "empty(2)", b -> b.empty(2));
        formula(toldAgain, "Ab1", "f(1)+a");
        formula(toldAgain, "Dd0", "q*2");
        add(toldAgain, "recalculate()", LoadBook::recalculate);
        add(toldAgain, "whole(1, 4)", b -> b.whole(1, 4));
        function(toldAgain, "f(n)=if(n<1,0,f(n-1))");
        // Just 1000 STEPS: those of refused texts are not among them.
        formula(toldAgain, "Ac1", "f(19)+".repeat(6) + "f(3)+1+1+1+-1");
        add(toldAgain, "recalculate()", LoadBook::recalculate);
        return List.of(List.of(), recalculated, toldAgain);
    }

    private static List<Call> looks() {
        List<Call> all = new ArrayList<>();
        for (int what = 0; what < 15; what++) {
            int w = what;
            add(all, "count(" + what + ")", b -> b.count(w));
        }
        add(all, "fault()", LoadBook::fault);
        for (int i = 0; i < 50; i++) {
            int k = i;
            add(all, "done(" + i + ")", b -> b.done(k));
            add(all, "cycle(0, " + i + ")", b -> b.cycle(0, k));
        }
        add(all, "cycle(1, 0)", b -> b.cycle(1, 0));
        for (int i = 0; i < 280; i += 3) {
            int k = i;
            add(all, "sign(" + i + ")", b -> b.sign(k));
        }
        for (int sheet = 0; sheet < 4; sheet++) {
            for (int i = 0; i < 18; i++) {
                int s = sheet;
                int k = i;
                add(all, "named(" + s + ", " + i / 3 + ", " + i % 3 + ")", b -> b.named(s, k / 3, k % 3));
            }
        }
        for (int cell = 0; cell < 256; cell++) {
            looksAtCell(all, cell, cell < 14 || cell == 47 || cell % 64 < 2 || cell == 200 || cell > 253);
        }
        return all;
    }

    private static void looksAtCell(List<Call> all, int cell, boolean closely) {
        add(all, "state(" + cell + ")", b -> b.state(cell));
        add(all, "value(" + cell + ")", b -> b.value(cell));
        for (int i = 0; i < 3 && closely; i++) {
            int k = i;
            add(all, "failure(" + cell + ", " + i + ")", b -> b.failure(cell, k));
            add(all, "needs(" + cell + ", " + i + ")", b -> b.needs(cell, k));
            add(all, "neededBy(" + cell + ", " + i + ")", b -> b.neededBy(cell, k));
            add(all, "trace(" + cell + ", " + i + ")", b -> b.trace(cell, k));
        }
        for (int e = 1; e < 15 && closely; e++) {
            int edition = e;
            add(all, "old(" + e + ", " + cell + ", 0)", b -> b.old(edition, cell, 0));
            add(all, "old(" + e + ", " + cell + ", 1)", b -> b.old(edition, cell, 1));
        }
        if (closely) {
            add(all, "print(" + cell + ")", b -> b.print(cell));
        }
    }

    // ---- with and without

    private static void holds(String name, List<Call> made, List<Refused> refused) {
        List<Call> looks = looks();
        for (List<Call> later : later()) {
            for (int from = 0; from < looks.size(); from += LOOKS_OF_ONE_BOOK) {
                List<Call> behind = new ArrayList<>(later);
                behind.addAll(looks.subList(from, Math.min(looks.size(), from + LOOKS_OF_ONE_BOOK)));
                long[] without = answersOf(made, null, behind);
                for (Refused one : refused) {
                    compare(name, one, behind, answersOf(made, one, behind), without);
                }
            }
        }
    }

    private static long[] answersOf(List<Call> made, Refused refused, List<Call> behind) {
        LoadBook book = new LoadBook();
        int calls = made.size() + behind.size();
        for (Call call : made) {
            call.call.applyAsLong(book);
        }
        if (refused != null) {
            for (Call call : refused.ahead) {
                call.call.applyAsLong(book);
            }
            check(refused.name, refused.call.call.applyAsLong(book), refused.due);
            calls += refused.ahead.size() + 1;
        }
        if (calls > MOST_CALLS) {
            wrong++;
            System.out.println("the test makes " + calls + " calls of one object");
        }
        long[] all = new long[behind.size()];
        for (int i = 0; i < all.length; i++) {
            all[i] = behind.get(i).call.applyAsLong(book);
        }
        return all;
    }

    private static void check(String call, long got, long want) {
        answers++;
        if (got != want) {
            wrong++;
            if (wrong < 50) {
                System.out.println(call + " answered " + got + ", due is " + want);
            }
        }
    }

    /** fault() is of a refused call too, if that took THE TEXT. */
    private static void compare(String name, Refused refused, List<Call> behind, long[] got, long[] want) {
        for (int i = 0; i < got.length; i++) {
            String call = behind.get(i).name;
            if (!refused.takes || !call.equals("fault()")) {
                check(name + ", " + call + " behind " + refused.name, got[i], want[i]);
            }
        }
    }

    // ---- making calls

    private static String ref(int cell) {
        return "" + (char) ('A' + cell / 64) + (char) ('a' + cell % 8) + (char) ('0' + cell / 8 % 8);
    }

    private static void add(List<Call> all, String name, ToLongFunction<LoadBook> call) {
        all.add(new Call(name, call));
    }

    private static void refuse(List<Refused> all, String name, ToLongFunction<LoadBook> call, long due) {
        all.add(new Refused(name, List.of(), new Call(name, call), due, false));
    }

    private static void refuseText(List<Refused> all, String s, String name, ToLongFunction<LoadBook> call, long due) {
        List<Call> typed = new ArrayList<>();
        type(typed, s);
        all.add(new Refused(name + " of " + s, typed, new Call(name, call), due, true));
    }

    private static void type(List<Call> all, String s) {
        for (int i = 0; i < s.length(); i += 8) {
            long bytes = Bench.bytes(s.substring(i, Math.min(s.length(), i + 8)));
            add(all, "type(" + bytes + ")", b -> b.type(bytes));
        }
    }

    private static void formula(List<Call> all, String cell, String s) {
        type(all, s);
        add(all, "formula of " + cell, b -> b.formula(Bench.at(cell)));
    }

    private static void function(List<Call> all, String s) {
        type(all, s);
        add(all, "function " + s, LoadBook::function);
    }

    private static void constant(List<Call> all, int sheet, String s) {
        type(all, s);
        add(all, "constant " + s, b -> b.constant(sheet));
    }
}
