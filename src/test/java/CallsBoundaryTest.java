/** The boundary cases that the promises 1 to 25 name: arguments too small and too large, codes, their order. */
public final class CallsBoundaryTest extends Bench {
    private static final int[] NO_CELLS = {Integer.MIN_VALUE, -256, -64, -1, 256, 257, 320, 512, Integer.MAX_VALUE};
    private static final int[] NO_SHEETS = {Integer.MIN_VALUE, -4, -1, 4, 5, 64, Integer.MAX_VALUE};

    public static void main(String[] args) {
        allIsEmpty();
        typeTakesWhatIsNotZero();
        typeBeyond240();
        wipeAnswersWhatItHad();
        wholeOfNoCell();
        wholeOverOthers();
        numberOfNoCell();
        numberByPowersOfTen();
        emptyOfAll();
        formulaCodes();
        functionCodes();
        constantCodes();
        faultOfTheLatest();
        printCodes();
        signsOfOut();
        takeOf240();
        recalculateAnswers();
        statesOfCells();
        valuesOfCells();
        failuresInOrder();
        failuresByState();
        doneOfTheLatest();
        needsOfNoCell();
        neededByNumbers();
        neededByFortyEight();
        cyclesByNumbers();
        tracesOfNone();
        namedCodes();
        namedNotWorkedOut();
        oldCodes();
        countsOfAll();
        countsOfNone();
        end();
    }

    private static void allIsEmpty() {
        begin("LoadBook(): All is empty");
        due("fault()", book().fault(), -1);
        due("sign(0)", book().sign(0), -1);
        due("done(0)", book().done(0), -1);
        due("cycle(0, 0)", book().cycle(0, 0), -1);
        due("wipe()", book().wipe(), 0);
        due("take()", book().take(), 0);
        for (int what = 0; what < 15; what++) {
            due("count(" + what + ")", book().count(what), 0);
        }
        for (int sheet = 0; sheet < 4; sheet++) {
            due("named(" + sheet + ", 0, 0)", book().named(sheet, 0, 0), -1);
        }
        for (int cell = 0; cell < 256; cell++) {
            due("state(" + cell + ")", book().state(cell), 0);
        }
        again();
        for (int cell = 0; cell < 256; cell++) {
            due("value(" + cell + ")", book().value(cell), 0);
            due("print(" + cell + ")", book().print(cell), -3);
        }
        again();
        for (int cell = 0; cell < 256; cell += 17) {
            due("failure(" + cell + ", 0)", book().failure(cell, 0), -1);
            due("needs(" + cell + ", 0)", book().needs(cell, 0), -1);
            due("neededBy(" + cell + ", 0)", book().neededBy(cell, 0), -1);
            due("trace(" + cell + ", 0)", book().trace(cell, 0), -1);
            due("old(1, " + cell + ", 0)", book().old(1, cell, 0), -3);
            due("empty(" + cell + ")", book().empty(cell), 0);
        }
    }

    private static void typeTakesWhatIsNotZero() {
        begin("Those of the eight bytes of a long that aren't 0, the lowest first, come behind THE TEXT");
        due("none", book().type(0), 0);
        for (int i = 0; i < 8; i++) {
            due("byte " + i + " alone", book().type((long) ('1' + i) << (8 * i)), i + 1);
        }
        book().formula(0);
        printedIs(0, "12345678");
        due("all eight", book().type(bytes("87654321")), 8);
        book().formula(0);
        printedIs(0, "87654321");
        due("with gaps", book().type(0x3900380037003600L), 4);
        due("with gaps", book().type(0x0035003400330032L), 8);
        book().formula(0);
        printedIs(0, "67892345");
        due("bytes above 127", book().type(-1L), 8);
        due("are no TOKENS", book().formula(0), -101);
        due("the highest byte alone", book().type(Long.MIN_VALUE), 1);
        due("is no TOKEN", book().formula(0), -101);
        due("fault()", book().fault(), 0);
    }

    private static void printedIs(int cell, String want) {
        due("print(" + cell + ")", book().print(cell), want.length());
        String got = out();
        due("OUT is " + got, got.equals(want) ? 1 : 0, 1);
    }

    private static void typeBeyond240() {
        begin("-2: there would be more than 240");
        for (int room = 0; room <= 8; room++) {
            again();
            text(times(240 - room, " "));
            for (int more = 8; more > room; more--) {
                due(more + " where there is room for " + room, book().type(bytes(times(more, "1"))), -2);
                due("count(5)", book().count(5), 240 - room);
            }
            due("0 bytes", book().type(0), 240 - room);
            due("just so many", book().type(bytes(times(room, "1"))), 240);
            due("one more", book().type(1L << 56), -2);
            due("count(5)", book().count(5), 240);
        }
        for (int bit = 0; bit < 64; bit++) {
            due("a byte with bit " + bit, book().type(1L << bit), -2);
            due("count(5)", book().count(5), 240);
        }
        due("nothing of what was refused is there", book().formula(0), 1);
        printedIs(0, "11111111");
    }

    private static void wipeAnswersWhatItHad() {
        begin("THE TEXT is emptied: how many bytes it had");
        due("wipe()", book().wipe(), 0);
        text("1");
        due("wipe()", book().wipe(), 1);
        due("wipe()", book().wipe(), 0);
        text(times(240, "1"));
        due("wipe()", book().wipe(), 240);
        due("count(5)", book().count(5), 0);
        due("room for 240 again", text(times(240, " ")), 240);
        book().wipe();
        due("nothing is left", book().formula(0), -102);
        due("fault()", book().fault(), 0);
    }

    private static void wholeOfNoCell() {
        begin("whole: -1: no such cell");
        for (int cell : NO_CELLS) {
            due("whole(" + cell + ", 5)", book().whole(cell, 5), -1);
        }
        due("whole(0, 5)", book().whole(0, 5), 1);
        due("whole(255, 6)", book().whole(255, 6), 1);
        isWhole("Aa0", 5);
        isWhole("Dh7", 6);
        for (int cell = 1; cell < 255; cell++) {
            due("state(" + cell + ")", book().state(cell), 0);
        }
    }

    private static void wholeOverOthers() {
        begin("A cell's VALUE becomes a LONG (a FORMULA there is gone): 1");
        for (long v : new long[] {Long.MIN_VALUE, -1, 0, 1, Long.MAX_VALUE}) {
            due("whole(7, " + v + ")", book().whole(7, v), 1);
            isWhole("Ah0", v);
        }
        book().number(7, 5, 1);
        due("over a DOUBLE", book().whole(7, 3), 1);
        isWhole("Ah0", 3);
        tell("Ah0", "Aa0");
        due("over a FORMULA not worked out", book().whole(7, 4), 1);
        isWhole("Ah0", 4);
        tell("Ah0", "Aa0");
        book().recalculate();
        due("over one that FAILED", book().whole(7, 5), 1);
        isWhole("Ah0", 5);
        due("failure(7, 0)", book().failure(7, 0), -1);
        due("count(1)", book().count(1), 0);
        due("print(7)", book().print(7), -3);
        due("needs(7, 0)", book().needs(7, 0), -1);
        due("neededBy(0, 0)", book().neededBy(0, 0), -1);
        due("trace(7, 0)", book().trace(7, 0), -1);
        due("recalculate()", book().recalculate(), 0);
        isWhole("Ah0", 5);
    }

    private static void numberOfNoCell() {
        begin("number: -1: no such cell. -2: e is not 0 to 15");
        for (int cell : NO_CELLS) {
            due("number(" + cell + ", 5, 0)", book().number(cell, 5, 0), -1);
            due("-1 comes first", book().number(cell, 5, 16), -1);
        }
        for (int e : new int[] {Integer.MIN_VALUE, -1, 16, 17, 99, Integer.MAX_VALUE}) {
            due("number(0, 5, " + e + ")", book().number(0, 5, e), -2);
            due("state(0)", book().state(0), 0);
        }
        due("number(0, 5, 0)", book().number(0, 5, 0), 1);
        due("number(255, 5, 15)", book().number(255, 5, 15), 1);
        due("value(0)", book().value(0), Double.doubleToLongBits(5.0));
        due("value(255)", book().value(255), Double.doubleToLongBits(5e-15));
        tell("Ab0", "1");
        due("refused over a FORMULA", book().number(1, 5, 16), -2);
        due("which stays", book().print(1), 1);
        due("over a FORMULA", book().number(1, 5, 1), 1);
        due("which is gone", book().print(1), -3);
        due("count(1)", book().count(1), 0);
    }

    private static void numberByPowersOfTen() {
        begin("A cell's VALUE becomes the DOUBLE of n, divided by 10 to the e");
        double power = 1.0;
        for (int e = 0; e <= 15; e++) {
            for (long n : new long[] {0, 1, -1, 7, 123456789, -987654321012345678L, 9007199254740993L,
                Long.MAX_VALUE, Long.MIN_VALUE}) {
                book().number(3, n, e);
                due("number(3, " + n + ", " + e + ")", book().value(3), Double.doubleToLongBits((double) n / power));
            }
            due("state(3)", book().state(3), 2);
            power = power * 10;
        }
    }

    private static void emptyOfAll() {
        begin("empty: 1; 0 if it was (nothing changes then). -1: no such cell");
        for (int cell : NO_CELLS) {
            due("empty(" + cell + ")", book().empty(cell), -1);
        }
        due("empty(0)", book().empty(0), 0);
        due("empty(255)", book().empty(255), 0);
        book().whole(0, 0);
        book().number(255, 0, 0);
        tell("Ab0", "1");
        tell("Ac0", "1/0");
        book().recalculate();
        tell("Ad0", "1");
        for (int cell : new int[] {0, 255, 1, 2, 3}) {
            due("empty(" + cell + ")", book().empty(cell), 1);
            due("state(" + cell + ")", book().state(cell), 0);
            due("value(" + cell + ")", book().value(cell), 0);
            due("print(" + cell + ")", book().print(cell), -3);
            due("empty(" + cell + ")", book().empty(cell), 0);
        }
        due("count(1)", book().count(1), 0);
        due("recalculate()", book().recalculate(), 0);
    }

    private static void formulaCodes() {
        begin("formula: -1 (THE TEXT stays): no such cell. -100 less the FAULT's number. -2: no room");
        text("1+");
        for (int cell : NO_CELLS) {
            due("formula(" + cell + ")", book().formula(cell), -1);
            due("THE TEXT stays", book().count(5), 2);
        }
        due("no FAULT was looked for", book().fault(), -1);
        text("2");
        due("formula(0)", book().formula(0), 3);
        due("formula(255)", tell("Dh7", "1"), 1);
        due("1", tell("Ab0", "&"), -101);
        due("2", tell("Ab0", "+"), -102);
        due("3", tell("Ab0", times(11, "(")), -103);
        due("4", tell("Ab0", "zz"), -104);
        due("the cell is EMPTY still", book().state(1), 0);
        for (int cell = 2; cell < 48; cell++) {
            text("1");
            book().formula(cell);
        }
        text("1");
        due("-1 comes before -2", book().formula(256), -1);
        due("-2", book().formula(100), -2);
        due("FAULTS come before -2", tell("Dg7", "&"), -101);
        due("FAULTS come before -2", tell("Dg7", "zz"), -104);
    }

    private static void functionCodes() {
        begin("function: its number. -100 less the FAULT's number. -2: no room");
        due("2", book().function(), -102);
        due("1", tellFunction("f(x)=&"), -101);
        due("2", tellFunction("f(x)="), -102);
        due("3", tellFunction("f(x)=" + times(11, "-")), -103);
        due("4", tellFunction("f(x)=y"), -104);
        due("5", tellFunction("f(x,x)=x"), -105);
        due("count(2)", book().count(2), 0);
        for (int i = 0; i < 8; i++) {
            due("number " + i, tellFunction((char) ('a' + i) + "(x)=x"), i);
        }
        due("-2", tellFunction("k(x)=x"), -2);
        due("FAULTS come before -2", tellFunction("k(x)=&"), -101);
        due("FAULTS come before -2", tellFunction("k(x)=y"), -104);
        due("FAULTS come before -2", tellFunction("k(x,x)=x"), -105);
        due("5 of one that is told", tellFunction("a(x,y)=x"), -105);
        due("count(2)", book().count(2), 8);
    }

    private static void constantCodes() {
        begin("constant: -1 (THE TEXT stays): no such SHEET. -100 less the FAULT's number. -2: no room");
        text("a=");
        for (int sheet : NO_SHEETS) {
            due("constant(" + sheet + ")", book().constant(sheet), -1);
            due("THE TEXT stays", book().count(5), 2);
        }
        due("no FAULT was looked for", book().fault(), -1);
        text("1");
        due("constant(0)", book().constant(0), 0);
        due("constant(3)", tellConstant(3, "a=1"), 0);
        due("1", tellConstant(0, "b=&"), -101);
        due("2", tellConstant(0, "b"), -102);
        due("3", tellConstant(0, "b=" + times(11, "-")), -103);
        due("4", tellConstant(0, "b=b"), -104);
        due("count(7)", book().count(7), 1);
        for (int i = 1; i < 5; i++) {
            due("number " + i, tellConstant(0, (char) ('a' + i) + "=1"), i);
        }
        due("-2", tellConstant(0, "z=1"), -2);
        due("FAULTS come before -2", tellConstant(0, "z=&"), -101);
        due("FAULTS come before -2", tellConstant(0, "z=z"), -104);
        text("z=1");
        due("-1 comes before -2", book().constant(4), -1);
        due("another SHEET has room", book().constant(1), 0);
    }

    private static void faultOfTheLatest() {
        begin("The place of the FAULT of the latest formula(), function() or constant() that took THE TEXT; NONE ..");
        due("there was none", book().fault(), -1);
        tell("Aa0", "1+&");
        due("fault()", book().fault(), 2);
        due("again", book().fault(), 2);
        text("1+2+&");
        book().formula(256);
        book().constant(4);
        due("that took no TEXT", book().fault(), 2);
        book().wipe();
        due("nor did wipe()", book().fault(), 2);
        tell("Aa0", "1");
        due("it had none", book().fault(), -1);
        tellFunction("f(x)=y");
        due("of a FUNCTION", book().fault(), 5);
        tellFunction("f(x)=x");
        due("it had none", book().fault(), -1);
        tellConstant(0, "a=b");
        due("of a CONSTANT", book().fault(), 2);
        tellConstant(0, "a=1");
        due("it had none", book().fault(), -1);
        tell("Aa0", "&");
        due("place 0", book().fault(), 0);
        for (int i = 0; i < 5; i++) {
            tellConstant(0, (char) ('a' + i) + "=1");
        }
        tell("Aa0", "&");
        due("no room", tellConstant(0, "z=1"), -2);
        due("is no FAULT", book().fault(), -1);
    }

    private static void printCodes() {
        begin("print: how many bytes. -1: no such cell. -3: it has no FORMULA");
        tell("Aa0", "1+2");
        due("print(0)", book().print(0), 5);
        for (int cell : NO_CELLS) {
            due("print(" + cell + ")", book().print(cell), -1);
        }
        due("EMPTY", book().print(1), -3);
        book().whole(2, 1);
        due("a LONG", book().print(2), -3);
        book().number(255, 1, 0);
        due("a DOUBLE", book().print(255), -3);
        due("OUT stays", book().count(6), 5);
        due("sign(0)", book().sign(0), '(');
        tell("Dh7", "7");
        due("print(255)", book().print(255), 1);
        due("count(6)", book().count(6), 1);
        book().recalculate();
        due("when it is worked out", book().print(0), 5);
        tell("Aa0", "1+2+");
        due("behind a refused one", book().print(0), 5);
        again();
        printsTheLongest();
    }

    /** 240 bytes and 40 PARTS, 28 of which get brackets: 12 WHOLES, 11 signs between, 17 - of ATOMS. */
    private static void printsTheLongest() {
        String eighteen = "123456789012345678";
        String seventeen = "12345678901234567";
        String s = "--" + eighteen;
        String want = "(-(-" + eighteen + "))";
        for (int i = 1; i < 12; i++) {
            String whole = i < 8 ? eighteen : seventeen;
            String minus = i <= 4 ? "--" : "-";
            s = s + "+" + minus + whole;
            want = "(" + want + "+" + (i <= 4 ? "(-(-" + whole + "))" : "(-" + whole + ")") + ")";
        }
        due("bytes", s.length(), 240);
        due("bytes to print", want.length(), 296);
        due("PARTS", tell("Aa0", s), 40);
        printedIs(0, want);
        due("sign(296)", book().sign(296), -1);
        due("take()", book().take(), -2);
    }

    private static void signsOfOut() {
        begin("Byte i of OUT; NONE if there is none");
        due("sign(0)", book().sign(0), -1);
        tell("Aa0", "Aa0<Dh7");
        book().print(0);
        String want = "(Aa0<Dh7)";
        for (int i = 0; i < want.length(); i++) {
            due("sign(" + i + ")", book().sign(i), want.charAt(i));
        }
        for (int i : new int[] {9, 10, 240, 319, 320, Integer.MAX_VALUE, -1, -2, Integer.MIN_VALUE}) {
            due("sign(" + i + ")", book().sign(i), -1);
        }
        tell("Ab0", "1");
        book().print(1);
        due("sign(0)", book().sign(0), '1');
        due("nothing of a longer one", book().sign(1), -1);
    }

    private static void takeOf240() {
        begin("THE TEXT becomes what OUT is: how many bytes. -2: OUT has more than 240");
        text("12");
        due("of an empty OUT", book().take(), 0);
        due("count(5)", book().count(5), 0);
        String s = "11111111111111" + times(12, "+111111111111111");
        for (int digits = 0; digits <= 4; digits++) {
            book().wipe();
            tell("Aa0", "cut(" + "1234".substring(0, digits) + (digits == 0 ? "9" : "") + ")*" + s);
            int length = 238 + Math.max(digits, 1);
            due("print", book().print(0), length);
            text("xyz");
            due("take() of " + length, book().take(), length > 240 ? -2 : length);
            due("count(5)", book().count(5), length > 240 ? 3 : length);
            due("OUT stays", book().count(6), length);
        }
        again();
        tell("Aa0", "-(1+2)*3");
        book().print(0);
        due("take()", book().take(), 12);
        due("what was taken is THE TEXT", book().formula(1), 6);
        due("print(1)", book().print(1), 12);
        due("twice", book().take(), 12);
        due("twice", book().take(), 12);
        due("more behind it", text("+1"), 14);
        due("formula(2)", book().formula(2), 8);
    }

    private static void recalculateAnswers() {
        begin("recalculate: how many cells were DONE");
        due("recalculate()", book().recalculate(), 0);
        tell("Aa0", "1");
        due("recalculate()", book().recalculate(), 1);
        due("recalculate()", book().recalculate(), 0);
        tell("Ab0", "1/0");
        tell("Ac0", "Ac0");
        tell("Ad0", "Ab0");
        due("those that FAILED too", book().recalculate(), 3);
        due("count(3)", book().count(3), 3);
        due("recalculate()", book().recalculate(), 0);
        due("count(3)", book().count(3), 0);
        due("done(0)", book().done(0), -1);
        due("the CYCLE is there still", book().count(4), 1);
        cycleIs(0, 2);
    }

    private static void statesOfCells() {
        begin("state: 0 EMPTY, 1 a LONG, 2 a DOUBLE, 3 FAILED, 4 on a CYCLE, 5 HANGS, 6 told. -1: no such cell");
        for (int cell : NO_CELLS) {
            due("state(" + cell + ")", book().state(cell), -1);
        }
        due("0", book().state(0), 0);
        due("0", book().state(255), 0);
        book().whole(0, 0);
        due("1", book().state(0), 1);
        book().number(0, 0, 0);
        due("2", book().state(0), 2);
        tell("Aa0", "1/0");
        due("6", book().state(0), 6);
        book().recalculate();
        due("3", book().state(0), 3);
        tell("Ab0", "Aa0");
        tell("Ac0", "Ac0");
        due("6", book().state(1), 6);
        due("3 still", book().state(0), 3);
        book().recalculate();
        due("5", book().state(1), 5);
        due("4", book().state(2), 4);
        tell("Aa0", "1");
        due("6", book().state(0), 6);
        due("what hangs on it waits", book().state(1), 5);
        book().recalculate();
        due("1 of a FORMULA", book().state(0), 1);
        due("1 of a FORMULA", book().state(1), 1);
        tell("Aa0", "1.0");
        book().recalculate();
        due("2 of a FORMULA", book().state(0), 2);
        tell("Aa0", "1.0");
        due("6, though it is as it was", book().state(0), 6);
        tell("Aa0", "1.0+");
        due("6 behind a refused one", book().state(0), 6);
    }

    private static void valuesOfCells() {
        begin("value: A LONG itself; of a DOUBLE its bits; 0 in all other states, and for no such cell");
        for (int cell : NO_CELLS) {
            due("value(" + cell + ")", book().value(cell), 0);
        }
        book().whole(0, Long.MIN_VALUE);
        due("LONG", book().value(0), Long.MIN_VALUE);
        book().number(255, -1, 0);
        due("DOUBLE", book().value(255), Double.doubleToLongBits(-1.0));
        tell("Aa0", "7");
        due("told", book().value(0), 0);
        book().recalculate();
        due("LONG of a FORMULA", book().value(0), 7);
        tell("Aa0", "1/0");
        tell("Ab0", "Aa0");
        tell("Ac0", "Ac0");
        due("told", book().value(0), 0);
        book().recalculate();
        due("FAILED", book().value(0), 0);
        due("HANGS", book().value(1), 0);
        due("on a CYCLE", book().value(2), 0);
        book().empty(255);
        due("EMPTY", book().value(255), 0);
        tell("Ad0", "-0.0");
        book().recalculate();
        due("-0.0", book().value(3), Long.MIN_VALUE);
        tell("Ad0", "0.0");
        book().recalculate();
        due("0.0", book().value(3), 0);
    }

    private static void failuresInOrder() {
        begin("failure: -2: what is not 0 to 2. -3: no such cell. (The first that fits of -3, -2, NONE.)");
        int[] noWhats = {Integer.MIN_VALUE, -1, 3, 4, Integer.MAX_VALUE};
        for (int cell : NO_CELLS) {
            due("failure(" + cell + ", 0)", book().failure(cell, 0), -3);
            due("-3 comes before -2", book().failure(cell, 3), -3);
            due("-3 comes before -2", book().failure(cell, -1), -3);
        }
        tell("Ab0", "1/0");
        book().recalculate();
        for (int what : noWhats) {
            due("-2 comes before NONE", book().failure(0, what), -2);
            due("-2 comes before NONE", book().failure(255, what), -2);
            due("-2 of one that FAILED", book().failure(1, what), -2);
        }
        for (int what = 0; what < 3; what++) {
            due("NONE", book().failure(0, what), -1);
            due("NONE", book().failure(255, what), -1);
        }
        failed(1, 1, 1, 0);
    }

    private static void failuresByState() {
        begin("Of a cell in state 3, 4 or 5: 0 the kind, 1 the first cell, 2 the cause (0 without one). NONE "
            + "in another");
        tell("Aa0", "Bh7");
        tell("Ab0", "Aa0");
        tell("Ac0", "Ac0");
        tell("Ad0", "1");
        tell("Ae0", "1.5");
        due("6", book().failure(0, 0), -1);
        book().recalculate();
        failed(0, 3, 0, 0);
        failed(1, 3, 0, 0);
        failed(2, 9, 2, 0);
        failed(3, -1, -1, -1);
        failed(4, -1, -1, -1);
        failed(5, -1, -1, -1);
        tell("Aa0", "Bh7");
        failed(0, -1, -1, -1);
        failed(1, 3, 0, 0);
        book().recalculate();
        failed(0, 3, 0, 0);
        tell("Aa0", "1+");
        failed(0, 3, 0, 0);
        book().whole(0, 1);
        failed(0, -1, -1, -1);
        book().empty(1);
        failed(1, -1, -1, -1);
        tellConstant(3, "a=1/0");
        tell("Da0", "Bh7");
        book().recalculate();
        failed(192, 10, 192, 1);
        tellConstant(3, "a=1");
        book().recalculate();
        failed(192, 3, 192, 0);
    }

    private static void doneOfTheLatest() {
        begin("The i-th cell (from 0) that the latest recalculate() did; NONE");
        tell("Ac0", "1");
        tell("Aa0", "Ac0");
        due("there was none", book().done(0), -1);
        book().recalculate();
        for (int i : new int[] {Integer.MIN_VALUE, -1, 2, 3, 47, 48, Integer.MAX_VALUE}) {
            due("done(" + i + ")", book().done(i), -1);
        }
        due("done(0)", book().done(0), 2);
        due("done(1)", book().done(1), 0);
        book().empty(0);
        tell("Ac0", "2");
        due("as it was DONE", book().done(1), 0);
        book().recalculate();
        due("done(0)", book().done(0), 2);
        due("done(1)", book().done(1), -1);
    }

    private static void needsOfNoCell() {
        begin("The i-th cell that a cell needs; NONE");
        tell("Aa0", "sum(Dg7:Dh7)");
        for (int cell : NO_CELLS) {
            due("needs(" + cell + ", 0)", book().needs(cell, 0), -1);
        }
        due("needs(0, 0)", book().needs(0, 0), 254);
        due("needs(0, 1)", book().needs(0, 1), 255);
        for (int i : new int[] {Integer.MIN_VALUE, -1, 2, 3, 256, Integer.MAX_VALUE}) {
            due("needs(0, " + i + ")", book().needs(0, i), -1);
        }
        due("needs(1, 0)", book().needs(1, 0), -1);
        book().whole(1, 5);
        due("needs(1, 0)", book().needs(1, 0), -1);
        tell("Aa0", "1");
        due("told again", book().needs(0, 0), -1);
    }

    private static void neededByNumbers() {
        begin("The i-th cell, by numbers, that needs a cell; NONE");
        tell("Dh7", "Bb0");
        tell("Aa0", "sum(Ba0:Bh0)");
        tell("Ca0", "if(1,1,Bb0)");
        tell("Cb0", "Ca0");
        due("neededBy(65, 0)", book().neededBy(65, 0), 0);
        due("neededBy(65, 1)", book().neededBy(65, 1), 128);
        due("neededBy(65, 2)", book().neededBy(65, 2), 255);
        for (int i : new int[] {Integer.MIN_VALUE, -1, 3, 4, 48, Integer.MAX_VALUE}) {
            due("neededBy(65, " + i + ")", book().neededBy(65, i), -1);
        }
        due("neededBy(64, 0)", book().neededBy(64, 0), 0);
        due("neededBy(64, 1)", book().neededBy(64, 1), -1);
        due("neededBy(72, 0)", book().neededBy(72, 0), -1);
        due("neededBy(63, 0)", book().neededBy(63, 0), -1);
        due("neededBy(128, 0)", book().neededBy(128, 0), 129);
        for (int cell : NO_CELLS) {
            due("neededBy(" + cell + ", 0)", book().neededBy(cell, 0), -1);
        }
        book().whole(128, 1);
        due("neededBy(65, 1)", book().neededBy(65, 1), 255);
        tell("Dh7", "1");
        due("neededBy(65, 1)", book().neededBy(65, 1), -1);
    }

    private static void neededByFortyEight() {
        begin("neededBy: a cell that all 48 need");
        for (int i = 0; i < 48; i++) {
            text("Ab0");
            book().formula(5 * i);
        }
        for (int i = 0; i < 48; i++) {
            due("neededBy(1, " + i + ")", book().neededBy(1, i), 5 * i);
        }
        due("neededBy(1, 48)", book().neededBy(1, 48), -1);
    }

    private static void cyclesByNumbers() {
        begin("The k-th cell, by numbers, of the i-th CYCLE (by first cells) that there was at the latest "
            + "recalculate()");
        tell("Dh7", "Aa0");
        tell("Aa0", "Dh7");
        tell("Ab0", "Ab0");
        due("there was none", book().cycle(0, 0), -1);
        book().recalculate();
        cycleIs(0, 0, 255);
        cycleIs(1, 1);
        for (int i : new int[] {Integer.MIN_VALUE, -1, 2, 3, 47, 48, Integer.MAX_VALUE}) {
            due("cycle(" + i + ", 0)", book().cycle(i, 0), -1);
            due("cycle(0, " + i + ")", book().cycle(0, i), -1);
            due("cycle(1, " + i + ")", book().cycle(1, i), -1);
        }
        book().empty(0);
        tell("Ac0", "Ac0");
        cycleIs(0, 0, 255);
        due("count(4)", book().count(4), 2);
        book().recalculate();
        cycleIs(0, 1);
        cycleIs(1, 2);
        cycleIs(2);
        // One that is not CHANGED is there still.
        book().recalculate();
        cycleIs(0, 1);
        cycleIs(1, 2);
    }

    private static void tracesOfNone() {
        begin("READS as it was DONE last (a cell whose FORMULA was told since has none; nor has one without a "
            + "FORMULA)");
        tell("Aa0", "try(Ab0,0)+try(Ac0,0)");
        reads("Aa0");
        book().recalculate();
        reads("Aa0", "Ab0", "Ac0");
        for (int i : new int[] {Integer.MIN_VALUE, -1, 2, 23, 24, 25, Integer.MAX_VALUE}) {
            due("trace(0, " + i + ")", book().trace(0, i), -1);
        }
        for (int cell : NO_CELLS) {
            due("trace(" + cell + ", 0)", book().trace(cell, 0), -1);
        }
        due("an EMPTY one", book().trace(1, 0), -1);
        tell("Aa0", "Ab0+");
        reads("Aa0", "Ab0", "Ac0");
        tell("Aa0", "try(Ab0,0)+try(Ac0,0)");
        reads("Aa0");
        book().recalculate();
        reads("Aa0", "Ab0", "Ac0");
        book().whole(0, 1);
        reads("Aa0");
        tell("Aa0", "Ad0");
        book().recalculate();
        reads("Aa0", "Ad0");
        book().empty(0);
        reads("Aa0");
        // What others had before is not theirs.
        for (int i = 0; i < 6; i++) {
            tell("Aa0", "try(Ab0,0)+try(Ac0,0)");
            book().recalculate();
            tell("Aa0", "Ad0");
            reads("Aa0");
            tell("Ae0", "Ad0");
            reads("Ae0");
            tell("Af0", "Ad0");
            reads("Af0");
        }
    }

    private static void namedCodes() {
        begin("named: -1: no such SHEET or CONSTANT. -2: what is not 0 to 2");
        tellConstant(0, "a=7");
        tellConstant(3, "a=7.5");
        tellConstant(3, "b=1/0");
        for (int sheet : NO_SHEETS) {
            due("named(" + sheet + ", 0, 0)", book().named(sheet, 0, 0), -1);
            due("-1 comes first", book().named(sheet, 0, 3), -1);
        }
        for (int i : new int[] {Integer.MIN_VALUE, -1, 1, 2, 4, 5, 6, Integer.MAX_VALUE}) {
            due("named(0, " + i + ", 0)", book().named(0, i, 0), -1);
            due("-1 comes first", book().named(0, i, 3), -1);
        }
        due("named(1, 0, 0)", book().named(1, 0, 0), -1);
        due("named(3, 2, 0)", book().named(3, 2, 0), -1);
        for (int what : new int[] {Integer.MIN_VALUE, -1, 3, 4, Integer.MAX_VALUE}) {
            due("named(0, 0, " + what + ")", book().named(0, 0, what), -2);
            due("named(3, 1, " + what + ")", book().named(3, 1, what), -2);
        }
        constantIs(0, 0, 0, 0, 0);
        book().recalculate();
        constantIs(0, 0, 1, 7, 0);
        constantIs(3, 0, 2, Double.doubleToLongBits(7.5), 0);
        constantIs(3, 1, 3, 0, 1);
    }

    private static void namedNotWorkedOut() {
        begin("(0 if it was not worked out since it was told, or was not come to when its SHEET's were worked "
            + "out last)");
        tellConstant(0, "a=7");
        tellConstant(0, "b=8");
        constantIs(0, 0, 0, 0, 0);
        book().recalculate();
        tellConstant(0, "b=9");
        constantIs(0, 0, 1, 7, 0);
        constantIs(0, 1, 0, 0, 0);
        tellConstant(0, "b=b");
        constantIs(0, 1, 0, 0, 0);
        book().recalculate();
        constantIs(0, 1, 1, 9, 0);
        tellConstant(0, "b=b");
        constantIs(0, 1, 1, 9, 0);
        tellConstant(0, "a=1/0");
        constantIs(0, 0, 0, 0, 0);
        constantIs(0, 1, 1, 9, 0);
        book().recalculate();
        constantIs(0, 0, 3, 0, 1);
        constantIs(0, 1, 0, 0, 0);
        book().recalculate();
        constantIs(0, 0, 3, 0, 1);
        tellConstant(0, "a=3");
        constantIs(0, 0, 0, 0, 0);
        book().recalculate();
        constantIs(0, 0, 1, 3, 0);
        constantIs(0, 1, 1, 9, 0);
    }

    private static void oldCodes() {
        begin("old: -1: no such cell. -2: what is not 0 or 1. -3: no such EDITION, or it is not kept any more");
        book().whole(0, 7);
        for (int cell : NO_CELLS) {
            due("-1 comes first", book().old(0, cell, 2), -1);
        }
        for (int what : new int[] {Integer.MIN_VALUE, -1, 2, 3, Integer.MAX_VALUE}) {
            due("-2 comes before -3", book().old(0, 0, what), -2);
            due("-2 comes before -3", book().old(1, 255, what), -2);
        }
        for (int e : new int[] {Integer.MIN_VALUE, -1, 0, 1, 2, 10, 11, Integer.MAX_VALUE}) {
            due("old(" + e + ", 0, 0)", book().old(e, 0, 0), -3);
            due("old(" + e + ", 255, 1)", book().old(e, 255, 1), -3);
        }
        book().recalculate();
        for (int cell : NO_CELLS) {
            due("old(1, " + cell + ", 0)", book().old(1, cell, 0), -1);
        }
        due("old(1, 0, 2)", book().old(1, 0, 2), -2);
        due("old(1, 0, 0)", book().old(1, 0, 0), 1);
        due("old(1, 0, 1)", book().old(1, 0, 1), 7);
        for (int e : new int[] {Integer.MIN_VALUE, -9, -1, 0, 2, 11, 12, Integer.MAX_VALUE}) {
            due("old(" + e + ", 0, 0)", book().old(e, 0, 0), -3);
        }
        for (int i = 0; i < 9; i++) {
            book().recalculate();
        }
        due("of 10 the first", book().old(1, 0, 1), 7);
        due("of 10 the last", book().old(10, 0, 1), 7);
        due("none yet", book().old(11, 0, 1), -3);
        book().recalculate();
        due("of 11 the first", book().old(1, 0, 1), -3);
        due("of 11 the second", book().old(2, 0, 1), 7);
        due("of 11 the last", book().old(11, 0, 1), 7);
    }

    private static void countsOfAll() {
        begin("count: How many");
        tellFunction("f(x)=x");
        tellFunction("g(x)=x");
        for (int sheet = 0; sheet < 4; sheet++) {
            for (int i = 0; i <= sheet; i++) {
                tellConstant(sheet, (char) ('a' + i) + "=1");
            }
        }
        tell("Aa0", "Aa0");
        tell("Ba0", "Bb0");
        tell("Bb0", "Ba0");
        tell("Ca0", "1");
        text("12345");
        book().print(64);
        int[] ahead = {0, 4, 2, 0, 0, 5, 3, 1, 2, 3, 4, 0, 0, 0, 0};
        for (int what = 0; what < 15; what++) {
            due("count(" + what + ")", book().count(what), ahead[what]);
        }
        book().recalculate();
        int[] behind = {1, 4, 2, 4, 2, 5, 3, 1, 2, 3, 4, 1, 1, 1, 1};
        for (int what = 0; what < 15; what++) {
            due("count(" + what + ")", book().count(what), behind[what]);
        }
        book().wipe();
        tellConstant(2, "a=1/0");
        book().empty(0);
        book().recalculate();
        int[] later = {2, 3, 2, 1, 1, 0, 3, 1, 2, 3, 4, 1, 1, 2, 1};
        for (int what = 0; what < 15; what++) {
            due("count(" + what + ")", book().count(what), later[what]);
        }
    }

    private static void countsOfNone() {
        begin("count: NONE for another what");
        for (int what : new int[] {Integer.MIN_VALUE, -2, -1, 15, 16, 17, 64, Integer.MAX_VALUE}) {
            due("count(" + what + ")", book().count(what), -1);
        }
        due("count(0)", book().count(0), 0);
        due("count(14)", book().count(14), 0);
    }
}
