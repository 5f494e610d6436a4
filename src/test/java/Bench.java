/**
 * What the tests of sentences share: a book to be asked, texts typed eight bytes a call, and answers held against those
 * that are due. Nothing is promised behind an object's 512th call, so a test that goes so far is wrong itself.
 */
abstract class Bench {
    private static final int MOST_CALLS = 512;

    private static int wrong = 0;
    private static int answers = 0;
    private static LoadBook book = new LoadBook();
    private static int calls = 0;
    private static String sentence = "";

    /** A new book, for what a sentence of the document says. */
    static void begin(String newSentence) {
        sentence = newSentence;
        again();
    }

    /** Another new book for the same sentence. */
    static void again() {
        book = new LoadBook();
        calls = 0;
    }

    /** The book, for one call. */
    static LoadBook book() {
        calls++;
        if (calls == MOST_CALLS + 1) {
            wrong++;
            System.out.println(sentence + ": the test makes more than " + MOST_CALLS + " calls of one object");
        }
        return book;
    }

    static void due(String call, long got, long want) {
        answers++;
        if (got != want) {
            wrong++;
            System.out.println(sentence + ": " + call + " answered " + got + ", due is " + want);
        }
    }

    static void end() {
        System.out.println(wrong == 0 ? answers + " answers are as due" : wrong + " answers are wrong");
        if (wrong != 0) {
            System.exit(1);
        }
    }

    // ---- telling

    /** Types a text; the answer is that of the last type(). */
    static int text(String s) {
        int answer = 0;
        for (int i = 0; i < s.length(); i += 8) {
            answer = book().type(bytes(s.substring(i, Math.min(s.length(), i + 8))));
        }
        return answer;
    }

    /** Up to eight characters as the bytes of a long, the first one lowest. */
    static long bytes(String s) {
        long all = 0;
        for (int i = s.length() - 1; i >= 0; i--) {
            all = all << 8 | s.charAt(i);
        }
        return all;
    }

    static int tell(String cell, String s) {
        text(s);
        return book().formula(at(cell));
    }

    static int tellFunction(String s) {
        text(s);
        return book().function();
    }

    static int tellConstant(int sheet, String s) {
        text(s);
        return book().constant(sheet);
    }

    /** The number of a cell by its REF. */
    static int at(String ref) {
        return 64 * (ref.charAt(0) - 'A') + 8 * (ref.charAt(2) - '0') + ref.charAt(1) - 'a';
    }

    static String times(int n, String s) {
        return s.repeat(n);
    }

    // ---- what is due of texts

    static void accepted(String s, int parts) {
        due("formula " + s, tell("Dh7", s), parts);
        due("fault of " + s, book().fault(), -1);
    }

    static void formulaFault(String s, int number, int place) {
        due("formula " + s, tell("Aa0", s), -100 - number);
        due("fault of " + s, book().fault(), place);
    }

    static void functionFault(String s, int number, int place) {
        due("function " + s, tellFunction(s), -100 - number);
        due("fault of " + s, book().fault(), place);
    }

    static void constantFault(String s, int number, int place) {
        due("constant " + s, tellConstant(0, s), -100 - number);
        due("fault of " + s, book().fault(), place);
    }

    static String out() {
        int length = book().count(6);
        StringBuilder s = new StringBuilder();
        for (int i = 0; i < length; i++) {
            s.append((char) book().sign(i));
        }
        return s.toString();
    }

    static void printed(String s, String want) {
        tell("Ac3", s);
        due("print " + s, book().print(at("Ac3")), want.length());
        String got = out();
        due("OUT of " + s + " is " + got, got.equals(want) ? 1 : 0, 1);
    }

    // ---- what is due of VALUES; the FORMULA stands in Dh7, which nothing else uses

    private static void workOut(String s) {
        due("told " + s, tell("Dh7", s) > 0 ? 1 : book().fault(), 1);
        book().recalculate();
    }

    static void gives(String s, long want) {
        workOut(s);
        due("state of " + s, book().state(255), 1);
        due("value of " + s, book().value(255), want);
    }

    static void givesReal(String s, double want) {
        workOut(s);
        due("state of " + s, book().state(255), 2);
        due("bits of " + s, book().value(255), Double.doubleToLongBits(want));
    }

    static void fails(String s, int kind) {
        workOut(s);
        due("state of " + s, book().state(255), 3);
        due("value of " + s, book().value(255), 0);
        due("kind of " + s, book().failure(255, 0), kind);
        due("first of " + s, book().failure(255, 1), 255);
        due("cause of " + s, book().failure(255, 2), 0);
    }

    static void hangs(String s, int kind, int first, int cause) {
        workOut(s);
        due("state of " + s, book().state(255), 5);
        due("value of " + s, book().value(255), 0);
        failed(255, kind, first, cause);
    }

    static void failed(int cell, int kind, int first, int cause) {
        due("kind of " + cell, book().failure(cell, 0), kind);
        due("first cell of " + cell, book().failure(cell, 1), first);
        due("cause of " + cell, book().failure(cell, 2), cause);
    }

    static void isWhole(String cell, long want) {
        due("state of " + cell, book().state(at(cell)), 1);
        due("value of " + cell, book().value(at(cell)), want);
    }

    static void reads(String cell, String... want) {
        for (int i = 0; i < want.length; i++) {
            due("trace(" + cell + ", " + i + ")", book().trace(at(cell), i), at(want[i]));
        }
        due("trace(" + cell + ", " + want.length + ")", book().trace(at(cell), want.length), -1);
    }

    static void needed(String cell, String... want) {
        for (int i = 0; i < want.length; i++) {
            due("needs(" + cell + ", " + i + ")", book().needs(at(cell), i), at(want[i]));
        }
        due("needs(" + cell + ", " + want.length + ")", book().needs(at(cell), want.length), -1);
    }

    /** Recalculates; the cells that are DONE, in order. */
    static void doneCells(String... want) {
        due("recalculate()", book().recalculate(), want.length);
        for (int i = 0; i < want.length; i++) {
            due("done(" + i + ")", book().done(i), at(want[i]));
        }
        due("done(" + want.length + ")", book().done(want.length), -1);
    }

    static void cycleIs(int i, int... want) {
        for (int k = 0; k < want.length; k++) {
            due("cycle(" + i + ", " + k + ")", book().cycle(i, k), want[k]);
        }
        due("cycle(" + i + ", " + want.length + ")", book().cycle(i, want.length), -1);
        due("cycle(" + i + ", -1)", book().cycle(i, -1), -1);
    }

    static void constantIs(int sheet, int i, long state, long value, long kind) {
        due("named(" + sheet + ", " + i + ", 0)", book().named(sheet, i, 0), state);
        due("named(" + sheet + ", " + i + ", 1)", book().named(sheet, i, 1), value);
        due("named(" + sheet + ", " + i + ", 2)", book().named(sheet, i, 2), kind);
    }
}
