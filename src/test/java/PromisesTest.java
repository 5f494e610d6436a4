/** The promises of the document, one method each, with answers worked out by hand; then the Terms behind them. */
public final class PromisesTest extends Bench {
    public static void main(String[] args) {
        newObject();
        type();
        wipe();
        whole();
        number();
        empty();
        formula();
        function();
        constant();
        fault();
        print();
        sign();
        take();
        recalculate();
        state();
        value();
        failure();
        done();
        needs();
        neededBy();
        cycle();
        trace();
        named();
        old();
        count();
        faultsOfTokens();
        faultsOfGrammar();
        faultsOfLimits();
        faultsOfNames();
        arithmeticOfLongs();
        arithmeticOfDoubles();
        remainders();
        comparisons();
        choicesAndTries();
        gathering();
        tables();
        roots();
        calls();
        steps();
        changes();
        spoiledSheets();
        manyTellings();
        end();
    }

    // ---- the promises

    private static void newObject() {
        begin("1");
        for (int cell = 0; cell < 256; cell++) {
            due("state(" + cell + ")", book().state(cell), 0);
        }
        again();
        for (int cell = 0; cell < 256; cell++) {
            due("value(" + cell + ")", book().value(cell), 0);
            due("needs(" + cell + ", 0)", book().needs(cell, 0), -1);
        }
        again();
        for (int what = 0; what < 15; what++) {
            due("count(" + what + ")", book().count(what), 0);
        }
        due("fault()", book().fault(), -1);
        due("sign(0)", book().sign(0), -1);
        due("old(0, 0, 0)", book().old(0, 0, 0), -3);
        due("NONE", LoadBook.NONE, -1);
        LoadBook other = new LoadBook();
        other.whole(0, 5);
        due("state(0) beside another book", book().state(0), 0);
    }

    private static void type() {
        begin("2");
        due("type(0)", book().type(0), 0);
        due("bytes with gaps", book().type(0x3100002b00000032L), 3);
        due("formula(0)", book().formula(0), 3);
        book().print(0);
        due("lowest first", book().sign(1), '2');
        due("then the others", book().sign(3), '1');
        due("type(-1)", book().type(-1L), 8);
        due("a byte of 255 is no TOKEN", book().formula(0), -101);
        for (int i = 1; i <= 29; i++) {
            due("type, time " + i, book().type(0x2020202020202020L), 8 * i);
        }
        due("type seven", book().type(0x20202020202020L), 239);
        due("two where one has room", book().type(0x2020L), -2);
        due("count(5)", book().count(5), 239);
        due("one more", book().type(0x2000L), 240);
        due("type(0) when full", book().type(0), 240);
        due("one too many", book().type(0x20L), -2);
        due("count(5)", book().count(5), 240);
    }

    private static void wipe() {
        begin("3");
        due("wipe()", book().wipe(), 0);
        text("abc");
        due("wipe()", book().wipe(), 3);
        due("count(5)", book().count(5), 0);
        due("wipe()", book().wipe(), 0);
    }

    private static void whole() {
        begin("4");
        due("whole(-1, 1)", book().whole(-1, 1), -1);
        due("whole(256, 1)", book().whole(256, 1), -1);
        due("whole(255, least)", book().whole(255, Long.MIN_VALUE), 1);
        due("value(255)", book().value(255), Long.MIN_VALUE);
        due("state(255)", book().state(255), 1);
        tell("Aa0", "Dh7");
        book().recalculate();
        due("count(1)", book().count(1), 1);
        due("whole over a FORMULA", book().whole(0, 3), 1);
        due("count(1)", book().count(1), 0);
        due("print(0)", book().print(0), -3);
        due("needs(0, 0)", book().needs(0, 0), -1);
        due("neededBy(255, 0)", book().neededBy(255, 0), -1);
        due("trace(0, 0)", book().trace(0, 0), -1);
        due("state(0)", book().state(0), 1);
        due("value(0)", book().value(0), 3);
    }

    private static void number() {
        begin("5");
        due("number(-1, 1, 99)", book().number(-1, 1, 99), -1);
        due("number(256, 1, 0)", book().number(256, 1, 0), -1);
        due("number(0, 1, -1)", book().number(0, 1, -1), -2);
        due("number(0, 1, 16)", book().number(0, 1, 16), -2);
        due("state(0)", book().state(0), 0);
        due("number(0, 1, 15)", book().number(0, 1, 15), 1);
        due("value(0)", book().value(0), Double.doubleToLongBits(1e-15));
        due("state(0)", book().state(0), 2);
        book().number(0, -7, 0);
        due("value of -7.0", book().value(0), Double.doubleToLongBits(-7.0));
        book().number(0, 0, 3);
        due("value of 0.0", book().value(0), 0);
        book().number(0, 9007199254740993L, 0);
        due("the even one of two as near", book().value(0), Double.doubleToLongBits(9007199254740992.0));
        book().number(0, Long.MAX_VALUE, 0);
        due("value of 2 to the 63", book().value(0), Double.doubleToLongBits(0x1p63));
        book().number(0, Long.MIN_VALUE, 1);
        due("value", book().value(0), Double.doubleToLongBits(-922337203685477580.8));
        tell("Ab0", "1");
        book().number(1, 1, 1);
        due("a FORMULA there is gone", book().count(1), 0);
    }

    private static void empty() {
        begin("6");
        due("empty(-1)", book().empty(-1), -1);
        due("empty(256)", book().empty(256), -1);
        due("empty(5)", book().empty(5), 0);
        book().whole(5, 0);
        due("empty(5)", book().empty(5), 1);
        due("state(5)", book().state(5), 0);
        due("empty(5)", book().empty(5), 0);
        tell("Aa0", "sum(Ab0:Ab0)");
        due("empty of a FORMULA not yet worked out", book().empty(0), 1);
        due("count(1)", book().count(1), 0);
        due("state(0)", book().state(0), 0);
        tell("Aa0", "sum(Ab0:Ab0)");
        doneCells("Aa0");
        due("empty of an EMPTY one", book().empty(1), 0);
        doneCells();
        book().whole(1, 4);
        doneCells("Aa0");
        due("empty of 4", book().empty(1), 1);
        doneCells("Aa0");
        due("value(0)", book().value(0), 0);
    }

    private static void formula() {
        begin("7");
        text("1+2*3");
        due("formula(-1)", book().formula(-1), -1);
        due("formula(256)", book().formula(256), -1);
        due("THE TEXT stays", book().count(5), 5);
        due("formula(0)", book().formula(0), 5);
        due("THE TEXT is taken", book().count(5), 0);
        due("empty THE TEXT", book().formula(0), -102);
        due("the FORMULA stays", book().state(0), 6);
        due("one REF", tell("Aa0", "Ab0"), 1);
        due("brackets are no PARTS", tell("Aa0", "((Ab0))"), 1);
        due("- ATOM", tell("Aa0", "--3.5"), 3);
        due("R and CALL", tell("Aa0", "sum(Ab0:Ac0)"), 2);
        due("line", tell("Aa0", "line(1,Ab0:Ac0,Ab1:Ac1)"), 4);
        tellFunction("f(x)=x");
        due("the NAME of root", tell("Aa0", "root(f,1,2)"), 3);
        due("CALL", tell("Aa0", "f(1)"), 2);
        due("a FAULT", tell("Aa0", "f(1"), -102);
        due("THE TEXT is taken", book().count(5), 0);
        due("the FORMULA stays", book().print(0), 4);
        for (int cell = 1; cell < 48; cell++) {
            text("1");
            due("formula(" + cell + ")", book().formula(cell), 1);
        }
        due("count(1)", book().count(1), 48);
        due("no room", tell("Da0", "1"), -2);
        due("THE TEXT is taken", book().count(5), 0);
        due("no FAULT", book().fault(), -1);
        due("a FAULT comes first", tell("Da0", "1+"), -102);
        due("fault()", book().fault(), 2);
        due("in the place of one", tell("Ab0", "2"), 1);
        book().empty(1);
        due("room again", tell("Da0", "1"), 1);
    }

    private static void function() {
        begin("8");
        due("empty", book().function(), -102);
        due("first", tellFunction("f(x)=x"), 0);
        due("second", tellFunction(" g ( x , y , z ) = x + y + z "), 1);
        due("again", tellFunction("f(y)=y*2"), 0);
        due("another number of ARGUMENTS", tellFunction("f(x,y)=x"), -105);
        due("THE TEXT is taken", book().count(5), 0);
        gives("f(21)", 42);
        due("a FUNCTION may call itself", tellFunction("h(x)=h(x)"), 2);
        for (int i = 3; i < 8; i++) {
            due("number " + i, tellFunction((char) ('h' + i) + "(x)=x"), i);
        }
        due("count(2)", book().count(2), 8);
        due("no room", tellFunction("z(x)=z(x)"), -2);
        due("no FAULT", book().fault(), -1);
        due("a FAULT comes first", tellFunction("z(x)=y"), -104);
        due("again, when full", tellFunction("g(x,y,z)=z"), 1);
        gives("g(1,2,3)", 3);
        due("a CONSTANT may have a FUNCTION's NAME", tellConstant(3, "f=5"), 0);
        gives("f(f)", 10);
    }

    private static void constant() {
        begin("9");
        text("a=1");
        due("constant(-1)", book().constant(-1), -1);
        due("constant(4)", book().constant(4), -1);
        due("THE TEXT stays", book().count(5), 3);
        due("constant(3)", book().constant(3), 0);
        due("THE TEXT is taken", book().count(5), 0);
        due("another", tellConstant(3, "b=a+1"), 1);
        due("of another SHEET", tellConstant(2, "b=7"), 0);
        due("not of this SHEET", tellConstant(2, "c=a"), -104);
        due("again", tellConstant(3, "a=5"), 0);
        gives("b*10", 60);
        due("an E with =", tellConstant(3, "c=a=5"), 2);
        gives("c", 1);
        due("fourth", tellConstant(3, "d=0"), 3);
        due("fifth", tellConstant(3, "e=0"), 4);
        due("no room", tellConstant(3, "g=e"), -2);
        due("THE TEXT is taken", book().count(5), 0);
        due("a FAULT comes first", tellConstant(3, "g=g"), -104);
        due("again, when full", tellConstant(3, "e=d+3"), 4);
        gives("e", 3);
    }

    private static void fault() {
        begin("10");
        tell("Aa0", "1+");
        due("fault()", book().fault(), 2);
        tell("Aa0", "1");
        due("no FAULT", book().fault(), -1);
        tellFunction("f(x)=y");
        due("of a FUNCTION", book().fault(), 5);
        text("a");
        book().formula(256);
        due("one that took no TEXT", book().fault(), 5);
        book().constant(9);
        due("one that took no TEXT", book().fault(), 5);
        book().constant(0);
        due("of a CONSTANT", book().fault(), 1);
        book().recalculate();
        due("later", book().fault(), 1);
    }

    private static void print() {
        begin("11");
        due("print(-1)", book().print(-1), -1);
        due("print(256)", book().print(256), -1);
        due("print(0)", book().print(0), -3);
        tellFunction("f(x)=x");
        tellFunction("g(x,y,z)=x");
        tellConstant(0, "abc=1");
        printed("1+2*3-4", "((1+(2*3))-4)");
        printed(" 1 - ( 2 - 3 ) ", "(1-(2-3))");
        printed("007+000+00.50+1.0+10.00", "((((7+0)+0.50)+1.0)+10.00)");
        printed("-1", "(-1)");
        printed("--abc*2", "((-(-abc))*2)");
        printed("-(1+2)", "(-(1+2))");
        printed("1<2", "(1<2)");
        printed("1<=2", "(1<=2)");
        printed("1+1<>2%3", "((1+1)<>(2%3))");
        printed("(1=2)=3", "((1=2)=3)");
        printed("if ( 1 , Aa0 , ( Bb1 ) )", "if(1,Aa0,Bb1)");
        printed("try(f(1),g(1,2,3/4))", "try(f(1),g(1,2,(3/4)))");
        printed("sum(Aa0 : Ab0)+least(Aa0:Ab0)", "(sum(Aa0:Ab0)+least(Aa0:Ab0))");
        printed("most(Aa0:Ab0)-count(Aa0:Ab0)", "(most(Aa0:Ab0)-count(Aa0:Ab0))");
        printed("at(Aa0:Ab0,1+1)", "at(Aa0:Ab0,(1+1))");
        printed("line(1*2,Aa0:Ab0,Ba0:Bb0)", "line((1*2),Aa0:Ab0,Ba0:Bb0)");
        printed("area(Aa0:Ab0,Ba0:Bb0)", "area(Aa0:Ab0,Ba0:Bb0)");
        printed("root ( f , 1 , 2 )", "root(f,1,2)");
        printed("cut(1.5)+real(1)", "(cut(1.5)+real(1))");
        due("print(9)", book().print(9), -3);
        due("OUT stays", book().count(6), 18);
    }

    private static void sign() {
        begin("12");
        tell("Aa0", "1+2");
        due("sign(0) ahead of print", book().sign(0), -1);
        book().print(0);
        due("sign(-1)", book().sign(-1), -1);
        due("sign(0)", book().sign(0), '(');
        due("sign(4)", book().sign(4), ')');
        due("sign(5)", book().sign(5), -1);
        tell("Aa0", "7");
        due("OUT stays", book().sign(0), '(');
        book().print(0);
        due("sign(0)", book().sign(0), '7');
        due("sign(1)", book().sign(1), -1);
    }

    private static void take() {
        begin("13");
        text("xyz");
        due("take() of an empty OUT", book().take(), 0);
        due("count(5)", book().count(5), 0);
        tell("Aa0", "1+2+3");
        book().print(0);
        text("xyz");
        due("take()", book().take(), 9);
        due("count(5)", book().count(5), 9);
        due("OUT stays", book().count(6), 9);
        due("formula(1)", book().formula(1), 5);
        book().print(1);
        due("as it was PRINTED", out().equals("((1+2)+3)") ? 1 : 0, 1);
        StringBuilder s = new StringBuilder("12345678901");
        for (int i = 0; i < 19; i++) {
            s.append("+12345678901");
        }
        tell("Aa0", s.toString());
        due("print of a long one", book().print(0), 239 + 38);
        text("xyz");
        due("take()", book().take(), -2);
        due("THE TEXT stays", book().count(5), 3);
        book().wipe();
        tell("Aa0", "(" + s.substring(0, 10) + ")+1.5");
        book().print(0);
        due("take()", book().take(), 16);
        book().wipe();
        exactlyFull();
    }

    private static void exactlyFull() {
        StringBuilder s = new StringBuilder("11111111111111");
        for (int i = 0; i < 12; i++) {
            s.append("+111111111111111");
        }
        tell("Aa0", s.toString());
        due("print", book().print(0), 14 + 12 * 16 + 24);
        tell("Aa0", "cut(123)*" + s);
        due("print of 241", book().print(0), 241);
        due("take() of 241", book().take(), -2);
        tell("Aa0", "cut(12)*" + s);
        due("print of 240", book().print(0), 240);
        due("take() of 240", book().take(), 240);
    }

    private static void recalculate() {
        begin("14");
        doneCells();
        tell("Ac0", "Ab0+1");
        tell("Ab0", "Aa0+1");
        tell("Aa0", "5");
        tell("Ad0", "1");
        doneCells("Aa0", "Ab0", "Ac0", "Ad0");
        due("value", book().value(2), 7);
        doneCells();
        due("value stays", book().value(2), 7);
        tell("Aa0", "Ad0");
        doneCells("Aa0", "Ab0", "Ac0");
        due("value", book().value(2), 3);
        tell("Aa0", "Dh7");
        tell("Dh7", "1");
        tell("Ad0", "8");
        doneCells("Ad0", "Dh7", "Aa0", "Ab0", "Ac0");
        due("count(0)", book().count(0), 5);
    }

    private static void state() {
        begin("15");
        due("state(-1)", book().state(-1), -1);
        due("state(256)", book().state(256), -1);
        due("EMPTY", book().state(0), 0);
        book().whole(0, 1);
        due("LONG", book().state(0), 1);
        book().number(0, 1, 0);
        due("DOUBLE", book().state(0), 2);
        tell("Ab0", "1/0");
        due("told", book().state(1), 6);
        tell("Ac0", "Ac0");
        tell("Ad0", "Ab0");
        tell("Ae0", "1");
        tell("Af0", "1.5");
        book().recalculate();
        due("FAILED", book().state(1), 3);
        due("on a CYCLE", book().state(2), 4);
        due("HANGS", book().state(3), 5);
        due("LONG of a FORMULA", book().state(4), 1);
        due("DOUBLE of a FORMULA", book().state(5), 2);
        book().whole(1, 1);
        due("not worked out anew yet", book().state(3), 5);
        tell("Ad0", "Ab0");
        due("told again", book().state(3), 6);
    }

    private static void value() {
        begin("16");
        due("value(-1)", book().value(-1), 0);
        due("value(256)", book().value(256), 0);
        due("EMPTY", book().value(0), 0);
        book().whole(0, -9);
        due("LONG", book().value(0), -9);
        for (long n : new long[] {1, -1, 3, 10, 123456789, -987654321987654321L, Long.MAX_VALUE}) {
            book().number(0, n, 7);
            due("value of " + n + " by 10 to the 7", book().value(0), Double.doubleToLongBits((double) n / 1e7));
        }
        book().number(0, -5, 1);
        due("DOUBLE", book().value(0), Double.doubleToLongBits(-0.5));
        tell("Aa0", "5");
        due("told", book().value(0), 0);
        book().recalculate();
        due("LONG of a FORMULA", book().value(0), 5);
        tell("Aa0", "5/0");
        book().recalculate();
        due("FAILED", book().value(0), 0);
        tell("Ab0", "-0.0");
        book().recalculate();
        due("0 below", book().value(1), Long.MIN_VALUE);
        smallAndGreat();
    }

    /** Powers of 2 from the greatest down to the least, and beyond. */
    private static void smallAndGreat() {
        tellFunction("sq(x)=x*x");
        givesReal("sq(sq(sq(sq(sq(sq(sq(sq(sq(2.0)))))))))", 0x1p512);
        givesReal("sq(sq(sq(sq(sq(sq(sq(sq(sq(2.0)))))))))*sq(sq(sq(sq(sq(sq(sq(sq(2.0))))))))", 0x1p768);
        givesReal("sq(sq(sq(sq(sq(sq(sq(sq(sq(0.5)))))))))", 0x1p-512);
        givesReal("sq(sq(sq(sq(sq(sq(sq(sq(sq(sq(0.5))))))))))", 0x1p-1024);
        givesReal("sq(sq(sq(sq(sq(sq(sq(sq(sq(sq(0.5))))))))))*-0.75", -0x1.8p-1025);
        tell("Aa0", "sq(sq(sq(sq(sq(sq(sq(sq(sq(sq(0.5))))))))))");
        givesReal("Aa0/sq(sq(sq(sq(2.0))))/sq(sq(sq(sq(2.0))))/sq(sq(sq(sq(2.0))))/4", 0x1p-1074);
        givesReal("Aa0/sq(sq(sq(sq(2.0))))/sq(sq(sq(sq(2.0))))/sq(sq(sq(sq(2.0))))/8", 0.0);
        givesReal("sq(sq(sq(sq(sq(0.1)))))", squares(0.1, 5));
    }

    private static double squares(double d, int times) {
        double x = d;
        for (int i = 0; i < times; i++) {
            x *= x;
        }
        return x;
    }

    private static void failure() {
        begin("17");
        due("failure(-1, 9)", book().failure(-1, 9), -3);
        due("failure(256, 0)", book().failure(256, 0), -3);
        due("failure(0, -1)", book().failure(0, -1), -2);
        due("failure(0, 3)", book().failure(0, 3), -2);
        due("EMPTY", book().failure(0, 0), -1);
        tell("Aa0", "1%0");
        due("told", book().failure(0, 0), -1);
        tell("Ab0", "Aa0");
        tell("Ac0", "Ab0+Ae0");
        tell("Ba0", "Bb0");
        tell("Bb0", "Ba0");
        tell("Ad0", "Bb0");
        book().recalculate();
        failed(0, 1, 0, 0);
        failed(1, 1, 0, 0);
        failed(2, 1, 0, 0);
        failed(64, 9, 64, 0);
        failed(65, 9, 64, 0);
        failed(3, 9, 64, 0);
        due("state(3)", book().state(3), 5);
        tellConstant(2, "a=5.5/0.0");
        tell("Ca0", "1");
        tell("Ae0", "Ca0");
        tell("Af0", "Ae0");
        book().recalculate();
        failed(128, 10, 128, 1);
        due("state(128)", book().state(128), 3);
        failed(4, 10, 128, 1);
        failed(5, 10, 128, 1);
        due("state(5)", book().state(5), 5);
        book().whole(0, 1);
        due("a VALUE", book().failure(0, 0), -1);
    }

    private static void done() {
        begin("18");
        due("done(0)", book().done(0), -1);
        tell("Ab0", "1");
        due("done(0) ahead of recalculate()", book().done(0), -1);
        doneCells("Ab0");
        due("done(-1)", book().done(-1), -1);
        tell("Ab0", "2");
        due("of the latest", book().done(0), 1);
        tell("Aa0", "Ac0");
        tell("Ac0", "Ad0");
        tell("Ad0", "Ac0");
        tell("Ae0", "1");
        // Ac0 and Ad0 are on a CYCLE, so they need not wait; Aa0 waits for Ac0 alone.
        doneCells("Ab0", "Ac0", "Aa0", "Ad0", "Ae0");
    }

    private static void needs() {
        begin("19");
        due("needs(-1, 0)", book().needs(-1, 0), -1);
        due("needs(256, 0)", book().needs(256, 0), -1);
        tell("Aa0", "if(Ac0,at(Ab1:Ac2,Ah7),Ab0)+Ac1+Ac0+try(Bd3,sum(Ag7:Ah7))");
        int[] want = {2, 9, 10, 17, 18, 63, 1, 64 + 27, 62};
        for (int i = 0; i < want.length; i++) {
            due("needs(0, " + i + ")", book().needs(0, i), want[i]);
        }
        due("needs(0, 9)", book().needs(0, 9), -1);
        due("needs(0, -1)", book().needs(0, -1), -1);
        tell("Ab0", "count(Aa0:Ah7)+count(Ba0:Bh7)+count(Ca0:Ch7)+count(Da0:Dh7)");
        for (int i = 0; i < 256; i++) {
            due("needs(1, " + i + ")", book().needs(1, i), i);
        }
        due("needs(1, 256)", book().needs(1, 256), -1);
        tell("Ab0", "5");
        due("told again", book().needs(1, 0), -1);
    }

    private static void neededBy() {
        begin("20");
        tell("Db2", "Aa0");
        tell("Ac0", "sum(Aa0:Ab0)");
        tell("Aa0", "Aa0");
        tell("Ad0", "Ac0");
        due("neededBy(0, 0)", book().neededBy(0, 0), 0);
        due("neededBy(0, 1)", book().neededBy(0, 1), 2);
        due("neededBy(0, 2)", book().neededBy(0, 2), at("Db2"));
        due("neededBy(0, 3)", book().neededBy(0, 3), -1);
        due("neededBy(0, -1)", book().neededBy(0, -1), -1);
        due("neededBy(1, 0)", book().neededBy(1, 0), 2);
        due("neededBy(3, 0)", book().neededBy(3, 0), -1);
        due("neededBy(-1, 0)", book().neededBy(-1, 0), -1);
        due("neededBy(256, 0)", book().neededBy(256, 0), -1);
        book().empty(2);
        due("neededBy(1, 0)", book().neededBy(1, 0), -1);
    }

    private static void cycle() {
        begin("21");
        tell("Ab0", "Ac0");
        tell("Ac0", "Da0+Ad0");
        tell("Da0", "Ab0");
        tell("Ad0", "Ad0");
        tell("Aa0", "Ba0");
        tell("Ba0", "Aa0+Ab0");
        due("cycle(0, 0) ahead of recalculate()", book().cycle(0, 0), -1);
        book().recalculate();
        due("count(4)", book().count(4), 3);
        cycleIs(0, 0, 64);
        cycleIs(1, 1, 2, 192);
        cycleIs(2, 3);
        cycleIs(3);
        cycleIs(-1);
        book().whole(192, 1);
        cycleIs(1, 1, 2, 192);
        due("state of a cell on it", book().state(1), 4);
        book().recalculate();
        due("count(4)", book().count(4), 2);
        cycleIs(0, 0, 64);
        cycleIs(1, 3);
        due("HANGS on the other", book().state(2), 5);
        due("its first cell", book().failure(1, 1), 3);
        // Ab0 joins the CYCLE of Aa0 and Ba0: all three have the same first cell now.
        tell("Ab0", "Ba0");
        book().recalculate();
        cycleIs(0, 0, 1, 64);
        due("first cell", book().failure(1, 1), 0);
    }

    private static void trace() {
        begin("22");
        due("trace(-1, 0)", book().trace(-1, 0), -1);
        due("trace(256, 0)", book().trace(256, 0), -1);
        book().whole(1, 7);
        tell("Aa0", "Ab0+Ac0*Ad0");
        reads("Aa0");
        book().recalculate();
        reads("Aa0", "Ab0", "Ac0");
        due("trace(0, -1)", book().trace(0, -1), -1);
        book().whole(2, 7);
        reads("Aa0", "Ab0", "Ac0");
        tell("Aa0", "try(Ad0,Ab0)+Ab0+if(0,Ac0,1)");
        reads("Aa0");
        book().recalculate();
        reads("Aa0", "Ad0", "Ab0", "Ab0");
        book().whole(0, 1);
        reads("Aa0");
        tell("Aa0", "sum(Ab0:Ad1)+at(Ab0:Ac1,1)");
        book().recalculate();
        reads("Aa0", "Ab0", "Ac0", "Ad0", "Ab1", "Ac1", "Ad1", "Ac0");
        tell("Aa0", "Aa0+Ab0");
        book().recalculate();
        reads("Aa0");
        tell("Aa0", "count(Ba0:Bh7)");
        book().recalculate();
        for (int i = 0; i < 24; i++) {
            due("trace(0, " + i + ")", book().trace(0, i), 64 + i);
        }
        due("trace(0, 24)", book().trace(0, 24), -1);
        tellConstant(0, "a=1/0");
        book().recalculate();
        due("SPOILED", book().trace(0, 0), -1);
    }

    private static void named() {
        begin("23");
        due("named(-1, 0, 9)", book().named(-1, 0, 9), -1);
        due("named(4, 0, 0)", book().named(4, 0, 0), -1);
        due("named(0, 0, 0)", book().named(0, 0, 0), -1);
        tellConstant(0, "a=7");
        tellConstant(0, "b=a/2.0");
        constantIs(0, 0, 0, 0, 0);
        due("named(0, -1, 0)", book().named(0, -1, 0), -1);
        due("named(0, 2, 0)", book().named(0, 2, 0), -1);
        due("named(0, 2, 9)", book().named(0, 2, 9), -1);
        due("named(0, 0, 3)", book().named(0, 0, 3), -2);
        due("named(0, 0, -1)", book().named(0, 0, -1), -2);
        book().recalculate();
        constantIs(0, 0, 1, 7, 0);
        constantIs(0, 1, 2, Double.doubleToLongBits(3.5), 0);
        tellConstant(0, "a=a0");
        constantIs(0, 0, 1, 7, 0);
        tellConstant(0, "c=1");
        tellConstant(0, "a=1%0");
        constantIs(0, 0, 0, 0, 0);
        constantIs(0, 1, 2, Double.doubleToLongBits(3.5), 0);
        book().recalculate();
        constantIs(0, 0, 3, 0, 1);
        constantIs(0, 1, 0, 0, 0);
        constantIs(0, 2, 0, 0, 0);
        tellConstant(0, "a=0-1");
        book().recalculate();
        constantIs(0, 0, 1, -1, 0);
        constantIs(0, 1, 2, Double.doubleToLongBits(-0.5), 0);
        constantIs(0, 2, 1, 1, 0);
    }

    private static void old() {
        begin("24");
        due("old(0, -1, 9)", book().old(0, -1, 9), -1);
        due("old(0, 256, 0)", book().old(0, 256, 0), -1);
        due("old(0, 0, 2)", book().old(0, 0, 2), -2);
        due("old(0, 0, -1)", book().old(0, 0, -1), -2);
        due("old(1, 0, 0)", book().old(1, 0, 0), -3);
        tell("Ab0", "Aa0*1.5");
        book().recalculate();
        due("old(1, 1, 0)", book().old(1, 1, 0), 3);
        for (int e = 2; e <= 12; e++) {
            book().whole(0, e);
            book().recalculate();
            book().whole(0, 99);
        }
        due("old(2, 0, 0)", book().old(2, 0, 0), -3);
        due("old(12, 0, 1)", book().old(12, 0, 1), 12);
        due("old(13, 0, 0)", book().old(13, 0, 0), -3);
        due("old(0, 0, 0)", book().old(0, 0, 0), -3);
        due("old(-1, 0, 0)", book().old(-1, 0, 0), -3);
        for (int e = 3; e <= 12; e++) {
            due("old(" + e + ", 0, 0)", book().old(e, 0, 0), 1);
            due("old(" + e + ", 0, 1)", book().old(e, 0, 1), e);
            due("old(" + e + ", 1, 0)", book().old(e, 1, 0), 2);
            due("old(" + e + ", 1, 1)", book().old(e, 1, 1), Double.doubleToLongBits(e * 1.5));
            due("old(" + e + ", 9, 0)", book().old(e, 9, 0), 0);
        }
    }

    private static void count() {
        begin("25");
        due("count(-1)", book().count(-1), -1);
        due("count(15)", book().count(15), -1);
        tellFunction("f(x)=x");
        tellConstant(1, "a=1");
        tellConstant(1, "b=f(a)");
        tellConstant(3, "a=1");
        tell("Aa0", "Aa0");
        tell("Ab0", "1");
        counts(0, 2, 1, 0, 0);
        due("count(8)", book().count(8), 2);
        due("count(10)", book().count(10), 1);
        due("count(7)", book().count(7), 0);
        due("count(9)", book().count(9), 0);
        due("count(12) ahead of recalculate()", book().count(12), 0);
        book().recalculate();
        counts(1, 2, 1, 2, 1);
        timesAre(0, 1, 0, 1);
        book().recalculate();
        counts(2, 2, 1, 0, 1);
        timesAre(0, 1, 0, 1);
        tellFunction("f(x)=1/0");
        book().recalculate();
        timesAre(0, 2, 0, 1);
        tellConstant(3, "a=2");
        tellConstant(3, "b=2");
        book().recalculate();
        timesAre(0, 2, 0, 2);
        text("12345");
        book().print(1);
        due("count(5)", book().count(5), 5);
        due("count(6)", book().count(6), 1);
    }

    private static void counts(int editions, int formulas, int functions, int done, int cycles) {
        due("count(0)", book().count(0), editions);
        due("count(1)", book().count(1), formulas);
        due("count(2)", book().count(2), functions);
        due("count(3)", book().count(3), done);
        due("count(4)", book().count(4), cycles);
    }

    private static void timesAre(int... want) {
        for (int sheet = 0; sheet < 4; sheet++) {
            due("count(" + (11 + sheet) + ")", book().count(11 + sheet), want[sheet]);
        }
    }

    // ---- the Terms

    private static void faultsOfTokens() {
        begin("FAULT 1");
        formulaFault("&", 1, 0);
        formulaFault("  \u00ff", 1, 2);
        formulaFault("1+\t2", 1, 2);
        formulaFault("1+A", 1, 2);
        formulaFault("1+Ba", 1, 2);
        formulaFault("1+Ci0", 1, 2);
        formulaFault("1+Da8", 1, 2);
        formulaFault("1+A0a", 1, 2);
        formulaFault("1+Ea0", 1, 2);
        formulaFault("Aa", 1, 0);
        formulaFault("1.", 1, 1);
        formulaFault("1. 5", 1, 1);
        formulaFault("1 .5", 1, 2);
        formulaFault(".5", 1, 0);
        formulaFault("1.5.2", 1, 3);
        formulaFault("1.5.", 1, 3);
        formulaFault("1+abcdefghi", 1, 2);
        formulaFault("1+abcdefghi(", 1, 2);
        formulaFault("1+1234567890123456789", 1, 2);
        formulaFault("0000000000000000001", 1, 0);
        formulaFault("1234567890123456789.", 1, 0);
        formulaFault("1+12345678.12345678", 1, 2);
        formulaFault("1+1234567890123456.5", 1, 2);
        formulaFault("1>2", 1, 1);
        formulaFault("1+1234567890123456.", 1, 18);
        due("a WHOLE of 18", tell("Aa0", "123456789012345678"), 1);
        due("a DECIMAL of 15", tell("Aa0", "12345678.1234567"), 1);
        tellConstant(0, "abcdefgh=1");
        due("a NAME of 8", tell("Aa0", "abcdefgh"), 1);
        // The first one by its place.
        formulaFault("+ &", 2, 0);
        formulaFault("1 & +", 1, 2);
        formulaFault("zz+&", 1, 3);
    }

    private static void faultsOfGrammar() {
        begin("FAULT 2");
        tellFunction("f(x)=x");
        formulaFault("", 2, 0);
        formulaFault("   ", 2, 3);
        formulaFault("1+", 2, 2);
        formulaFault("1+  ", 2, 4);
        formulaFault("1 2", 2, 2);
        formulaFault("Aa01", 2, 3);
        formulaFault("12Aa0", 2, 2);
        formulaFault("1<2<3", 2, 3);
        formulaFault("1< =2", 2, 3);
        formulaFault("1=<2", 2, 2);
        formulaFault("(1", 2, 2);
        formulaFault("1)", 2, 1);
        formulaFault("()", 2, 1);
        formulaFault("+1", 2, 0);
        formulaFault("1*-", 2, 3);
        formulaFault("f(", 2, 2);
        formulaFault("f()", 2, 2);
        formulaFault("f(1,2,3,4)", 2, 7);
        formulaFault("if", 2, 2);
        formulaFault("if+1", 2, 2);
        formulaFault("if(1,2)", 2, 6);
        formulaFault("if(1,2,3,4)", 2, 8);
        formulaFault("try(1)", 2, 5);
        formulaFault("sum(1)", 2, 4);
        formulaFault("sum(Aa0)", 2, 7);
        formulaFault("sum(Aa0:Ab0:Ac0)", 2, 11);
        formulaFault("Aa0:Ab0", 2, 3);
        formulaFault("sum(Aa0:1)", 2, 8);
        formulaFault("at(Aa0:Ab0)", 2, 10);
        formulaFault("at(1,Aa0:Ab0)", 2, 3);
        formulaFault("line(Aa0:Ab0,Aa0:Ab0,1)", 2, 8);
        formulaFault("area(Aa0:Ab0)", 2, 12);
        formulaFault("root(1,2,3)", 2, 5);
        formulaFault("root(sum,2,3)", 2, 5);
        formulaFault("root(f,2)", 2, 8);
        formulaFault("cut(1,2)", 2, 5);
        formulaFault("real()", 2, 5);
        headFault(true, "f", 1);
        headFault(true, "f(", 2);
        headFault(true, "f()", 2);
        headFault(true, "f(1)=1", 2);
        headFault(true, "f(if)=1", 2);
        headFault(true, "sum(x)=1", 0);
        headFault(true, "f(x,y,z,u)=1", 7);
        headFault(true, "f(x)", 4);
        headFault(true, "f(x)+1", 4);
        headFault(true, "f(x)=", 5);
        headFault(true, "f(x)=1 2", 7);
        headFault(true, "f=1", 1);
        headFault(false, "a", 1);
        headFault(false, "1=1", 0);
        headFault(false, "most=1", 0);
        headFault(false, "a(x)=1", 1);
        headFault(false, "a<1", 1);
        headFault(false, "a=", 2);
        headFault(false, "a=1=2=3", 5);
    }

    private static void headFault(boolean function, String s, int place) {
        due("head " + s, function ? tellFunction(s) : tellConstant(0, s), -102);
        due("fault of " + s, book().fault(), place);
    }

    private static void faultsOfLimits() {
        begin("FAULT 3");
        tellFunction("f(x)=x");
        String ten = "1+1+1+1+1+1+1+1+1+1+";
        due("39 PARTS", tell("Aa0", ten + ten.substring(0, 19)), 39);
        due("40 PARTS", tell("Aa0", ten + ten.substring(0, 18) + "-1"), 40);
        formulaFault(ten + ten + "1", 3, 40);
        formulaFault(ten + ten.substring(0, 18) + "--1", 3, 40);
        formulaFault(ten + ten.substring(0, 18) + "-1*2", 3, 40);
        formulaFault(ten + ten + "zz", 3, 40);
        formulaFault(ten + ten + "sum(Aa0:Ab0)", 3, 40);
        formulaFault(ten + ten.substring(0, 18) + "sum(Aa0:Ab0)*2", 3, 50);
        formulaFault(ten + ten.substring(0, 18) + "area(Aa0:Ab0,Aa0:Ab0)", 3, 51);
        due("39 PARTS with R", tell("Aa0", ten + ten.substring(0, 16) + "area(Aa0:Ab0,Aa0:Ab0)"), 39);
        formulaFault(ten + ten + "&", 1, 40);
        formulaFault(ten + ten + ")", 2, 40);
        due("10 OPEN", tell("Aa0", "((((((((((1))))))))))"), 1);
        formulaFault("(((((((((((1", 3, 10);
        formulaFault("-----------1", 3, 10);
        due("10 OPEN", tell("Aa0", "----------1"), 11);
        formulaFault("-----f(-----1)", 3, 11);
        due("10 OPEN", tell("Aa0", "-----f(----1)"), 11);
        formulaFault("(((((((((f(f(1", 3, 12);
        formulaFault("if(((((((((((1", 3, 12);
        due("OPEN ones end", tell("Aa0", "-1+-1+(1)+(1)+f(1)+f(1)+(1)+(1)+(1)+(1)+(1)+(1)"), 27);
        due("40 PARTS of a CONSTANT", tellConstant(0, "a=" + ten + ten.substring(0, 18) + "-1"), 0);
        due("41 PARTS of a CONSTANT", tellConstant(0, "a=" + ten + ten + "1"), -103);
        due("fault()", book().fault(), 42);
        due("41 PARTS of a FUNCTION", tellFunction("f(x)=" + ten + ten + "1"), -103);
        due("the 11th OPEN of a FUNCTION", tellFunction("f(x)=(((((((((((1"), -103);
        due("fault()", book().fault(), 15);
    }

    private static void faultsOfNames() {
        begin("FAULTS 4, 5");
        tellFunction("f(x)=x");
        tellFunction("g(x,y)=x");
        tellConstant(0, "a=1");
        tellConstant(1, "b=1");
        formulaFault("1+zz", 4, 2);
        formulaFault("a+b", 4, 2);
        formulaFault("f+1", 4, 0);
        formulaFault("zz(1)+yy", 4, 0);
        formulaFault("a(1)", 4, 0);
        formulaFault("f(1,2)", 4, 0);
        formulaFault("g(1)", 4, 0);
        formulaFault("g(1,2,zz)", 4, 0);
        formulaFault("f(zz)+g(1)", 4, 2);
        formulaFault("root(g,1,2)", 4, 5);
        formulaFault("root(zz,1,2)", 4, 5);
        formulaFault("root(a,yy,2)", 4, 5);
        formulaFault("1+sum(Aa0:Ba0)", 4, 6);
        formulaFault("1+sum(Ab0:Aa0)", 4, 6);
        formulaFault("1+sum(Aa1:Aa0)", 4, 6);
        formulaFault("1+sum(Ab0:Aa1)", 4, 6);
        formulaFault("zz+1+(", 2, 6);
        due("f(x)=y", tellFunction("h(x)=y"), -104);
        due("fault()", book().fault(), 5);
        due("a CONSTANT in a FUNCTION", tellFunction("h(x)=x+a"), -104);
        due("fault()", book().fault(), 7);
        due("a REF in a FUNCTION", tellFunction("h(x)=x+Aa0"), -104);
        due("fault()", book().fault(), 7);
        due("an R in a FUNCTION", tellFunction("h(x)=sum(Aa0:Ab0)"), -104);
        due("fault()", book().fault(), 9);
        due("another number of its own ARGUMENTS", tellFunction("h(x)=h(x,x)"), -104);
        due("fault()", book().fault(), 5);
        due("root of itself", tellFunction("h(x)=root(h,x,1)"), 2);
        due("root of itself with two", tellFunction("k(x,y)=root(k,x,1)"), -104);
        due("a second ARGUMENT", tellFunction("k(x,y,x)=zz"), -105);
        due("fault()", book().fault(), 6);
        due("another number", tellFunction(" g(x,x,x)=x"), -105);
        due("fault()", book().fault(), 1);
        due("another number, itself called", tellFunction("g(x)=g(x)"), -105);
        due("a REF in a CONSTANT", tellConstant(0, "c=1+Aa0"), -104);
        due("fault()", book().fault(), 4);
        due("an R in a CONSTANT", tellConstant(0, "c=count(Aa0:Ab0)"), -104);
        due("fault()", book().fault(), 8);
        due("itself in a CONSTANT", tellConstant(0, "c=c"), -104);
        due("c", tellConstant(0, "c=a"), 1);
        due("itself, again", tellConstant(0, "a=a"), -104);
        due("one behind it", tellConstant(0, "a=c"), -104);
        due("fault()", book().fault(), 2);
    }

    private static void arithmeticOfLongs() {
        begin("LONGS");
        gives("7/2", 3);
        gives("-7/2", -3);
        gives("7%-3", 1);
        gives("-7%3", -1);
        gives("2-3-4", -5);
        gives("100/10/5", 2);
        gives("2+3*4%5", 4);
        gives("999999999999999999*999999999999999999", 999999999999999999L * 999999999999999999L);
        book().whole(0, Long.MIN_VALUE);
        gives("Aa0/-1", Long.MIN_VALUE);
        gives("Aa0%-1", 0);
        gives("-Aa0", Long.MIN_VALUE);
        gives("Aa0-1", Long.MAX_VALUE);
        gives("--5", 5);
        gives("-5*-5", 25);
        gives("cut(7)", 7);
        fails("1/0", 1);
        fails("1%0", 1);
        fails("0/0", 1);
    }

    private static void arithmeticOfDoubles() {
        begin("DOUBLES");
        givesReal("0.1+0.2", 0.1 + 0.2);
        givesReal("1/2.0", 0.5);
        givesReal("1.0-1", 0.0);
        givesReal("-0.0", -0.0);
        givesReal("-0.0+-0.0", -0.0);
        givesReal("-0.0+0.0", 0.0);
        givesReal("-1*0.0", -0.0);
        givesReal("0.0/-3", -0.0);
        givesReal("0-0.0", 0.0);
        givesReal("real(9007199254740993)", 9007199254740992.0);
        givesReal("real(9007199254740995)", 9007199254740996.0);
        givesReal("12345678.1234567", 123456781234567.0 / 1e7);
        givesReal("0.10000000000000", 0.1);
        givesReal("real(1.5)", 1.5);
        givesReal("1.0/3", 1.0 / 3);
        gives("cut(2.9)", 2);
        gives("cut(-2.9)", -2);
        gives("cut(99999999999999.9*9999999)", Long.MAX_VALUE);
        gives("cut(-99999999999999.9*9999999)", Long.MIN_VALUE);
        fails("1/0.0", 1);
        fails("1/-0.0", 1);
        fails("1.5%0", 1);
        fails("1%-0.0", 1);
        tellFunction("sq(x)=x*x");
        tellFunction("big(x)=sq(sq(sq(sq(sq(sq(sq(sq(sq(2.0)))))))))*x");
        givesReal("big(big(1)/2)", 0x1p1023);
        fails("big(big(1))", 5);
        fails("big(big(-1))", 5);
        fails("big(big(1)/2)+big(big(1)/2)", 5);
        fails("-big(big(1)/2)-big(big(1)/2)", 5);
        fails("big(big(1)/2)/0.5", 5);
        givesReal("1/big(1)/big(1)", 0x1p-1024);
        tell("Aa0", "big(big(1)/2)");
        givesReal("Aa0+(Aa0-Aa0/4503599627370496)", Double.MAX_VALUE);
        givesReal("-Aa0-(Aa0-Aa0/4503599627370496)", -Double.MAX_VALUE);
        fails("Aa0+(Aa0-Aa0/4503599627370496/2)", 5);
    }

    private static void remainders() {
        begin("%");
        givesReal("7.5%2", 1.5);
        givesReal("-7.5%2", -1.5);
        givesReal("7.5%-2", 1.5);
        givesReal("-6.0%2", -0.0);
        givesReal("6.0%2", 0.0);
        givesReal("0.0%2", 0.0);
        givesReal("-0.0%2", -0.0);
        givesReal("1.5%7", 1.5);
        givesReal("1.0%0.1", 1.0 % 0.1);
        givesReal("99999999999999.0%7", 99999999999999.0 % 7);
        tellFunction("sq(x)=x*x");
        double great = squares(1.5, 10);
        double small = squares(0.7, 10);
        String toGreat = "sq(sq(sq(sq(sq(sq(sq(sq(sq(sq(1.5))))))))))";
        String toSmall = "sq(sq(sq(sq(sq(sq(sq(sq(sq(sq(0.7))))))))))";
        givesReal(toGreat + "%7.3", great % 7.3);
        givesReal("-1*" + toGreat + "%7.3", -great % 7.3);
        tell("Aa0", toGreat);
        tell("Ab0", toSmall);
        givesReal("Aa0%Ab0", great % small);
        givesReal("3.1%Ab0", 3.1 % small);
        givesReal("Ab0%Aa0", small);
        tell("Ac0", "Ab0*Ab0");
        givesReal("Ac0", small * small);
        givesReal("Aa0%Ac0", great % (small * small));
        double y = 99999999999999.0;
        tell("Ad0", "99999999999999.0*99999999999999");
        givesReal("Aa0%Ad0", great % (y * y));
        givesReal("Aa0%(Ad0*3)", great % (y * y * 3));
        givesReal("Aa0%(Ad0*Ad0*-5)", great % (y * y * (y * y) * -5));
        givesReal("Aa0%Aa0", 0.0);
        givesReal("Aa0*3%Aa0", great * 3 % great);
    }

    private static void comparisons() {
        begin("< <= = <>");
        gives("1<2", 1);
        gives("2<2", 0);
        gives("2<=2", 1);
        gives("3<=2", 0);
        gives("2=2", 1);
        gives("2=3", 0);
        gives("2<>2", 0);
        gives("2<>3", 1);
        gives("1<1.5", 1);
        gives("0.0=-0.0", 1);
        gives("-0.0<0", 0);
        gives("-0.0<>0", 0);
        gives("9007199254740993<=9007199254740992", 0);
        gives("9007199254740993<=9007199254740992*1.0", 1);
        gives("9007199254740993=real(9007199254740992)", 1);
        gives("-1<=-2", 0);
        gives("(1<2)+(2<3)", 2);
    }

    private static void choicesAndTries() {
        begin("if, try");
        gives("if(0,1,2)", 2);
        gives("if(5,1,2)", 1);
        gives("if(-0.0,1,2)", 2);
        gives("if(0.1,1,2)", 1);
        gives("if(1,1,1/0)", 1);
        gives("if(0,1/0,1)", 1);
        fails("if(1/0,1,2)", 1);
        gives("try(1,1/0)", 1);
        gives("try(1/0,2)", 2);
        gives("1+try(2*(3+try(1/0,Aa0)),5)*10", 51);
        reads("Dh7", "Aa0");
        fails("try(1/0,Aa0)", 3);
        fails("try(Aa0,1/0)", 1);
        fails("Aa0", 3);
        tell("Aa0", "1/0");
        tell("Ab0", "Aa0+Ac0");
        tell("Ad0", "Ad0");
        gives("try(Aa0,1)+try(Ab0,2)+try(Ac0,3)+try(Ad0,4)", 10);
        reads("Dh7", "Aa0", "Ab0", "Ac0", "Ad0");
        tell("Ae0", "try(1/0,Aa0)");
        book().recalculate();
        due("HANGS", book().state(4), 5);
        tellFunction("f(x)=x/0");
        gives("try(f(1)+1,8)+try(f(f(2)),9)", 17);
    }

    private static void gathering() {
        begin("sum, least, most, count, at");
        gives("sum(Aa0:Ah7)", 0);
        gives("count(Aa0:Ah7)", 0);
        fails("least(Aa0:Ah7)", 3);
        fails("most(Aa0:Ah7)", 3);
        book().whole(at("Ab1"), 5);
        book().number(at("Ac2"), 25, 1);
        book().whole(at("Ad3"), -4);
        gives("count(Aa0:Ah7)", 3);
        gives("count(Ac2:Ah7)", 2);
        givesReal("sum(Aa0:Ah7)", 3.5);
        gives("sum(Aa0:Ab1)", 5);
        givesReal("sum(Ac2:Ac2)", 2.5);
        gives("least(Aa0:Ah7)", -4);
        gives("most(Aa0:Ah7)", 5);
        givesReal("most(Ac2:Ad3)", 2.5);
        book().number(at("Aa0"), 50, 1);
        givesReal("most(Aa0:Ab1)", 5.0);
        givesReal("least(Aa0:Ab1)", 5.0);
        gives("at(Aa0:Ad3,5)", 5);
        gives("at(Ab1:Ad3,8)", -4);
        givesReal("at(Ab1:Ad3,4)", 2.5);
        reads("Dh7", "Ac2");
        fails("at(Ab1:Ad3,9)", 2);
        fails("at(Ab1:Ad3,-1)", 2);
        fails("at(Ab1:Ad3,1)", 3);
        fails("at(Ab1:Ad3,1.0)", 11);
        fails("at(Ab1:Ad3,99.5)", 11);
        gives("at(Ab1:Ad3,at(Ab1:Ad3,8)+4)", 5);
        reads("Dh7", "Ad3", "Ab1");
        book().whole(at("Ba0"), Long.MAX_VALUE);
        book().whole(at("Bb0"), 1);
        gives("sum(Ba0:Bb0)", Long.MIN_VALUE);
        tell("Bc0", "1/0");
        tell("Dh7", "try(count(Ba0:Be0),0)");
        book().recalculate();
        reads("Dh7", "Ba0", "Bb0", "Bc0");
        tellFunction("sq(x)=x*x");
        tell("Ca0", "sq(sq(sq(sq(sq(sq(sq(sq(sq(2.0)))))))))/2*sq(sq(sq(sq(sq(sq(sq(sq(sq(2.0)))))))))");
        tell("Cb0", "Ca0");
        book().whole(at("Cc0"), 1);
        fails("sum(Ca0:Cc0)", 5);
        reads("Dh7", "Ca0", "Cb0");
    }

    private static void tables() {
        begin("line, area");
        int[] xs = {0, 10, 20, 40};
        int[] ys = {5, 7, -3, 1};
        for (int i = 0; i < 4; i++) {
            book().whole(i, xs[i]);
            book().whole(8 + i, ys[i]);
        }
        givesReal("line(-5,Aa0:Ad0,Aa1:Ad1)", 5.0);
        givesReal("line(0,Aa0:Ad0,Aa1:Ad1)", 5.0);
        givesReal("line(40,Aa0:Ad0,Aa1:Ad1)", 1.0);
        givesReal("line(99,Aa0:Ad0,Aa1:Ad1)", 1.0);
        givesReal("line(5,Aa0:Ad0,Aa1:Ad1)", 6.0);
        givesReal("line(10,Aa0:Ad0,Aa1:Ad1)", 7.0);
        givesReal("line(25,Aa0:Ad0,Aa1:Ad1)", -2.0);
        givesReal("line(0.3,Aa0:Ab0,Aa1:Ab1)", 5.0 + 2.0 * (0.3 / 10.0));
        reads("Dh7", "Aa0", "Ab0", "Aa1", "Ab1");
        givesReal("area(Aa0:Ad0,Aa1:Ad1)", 60.0 + 20.0 - 20.0);
        givesReal("area(Aa0:Ab0,Aa1:Ab1)", 60.0);
        givesReal("area(Aa1:Ab1,Aa0:Ab0)", 10.0);
        givesReal("area(Ab1:Ac1,Ab0:Ac0)", -150.0);
        fails("line(1,Aa0:Ad0,Aa1:Ac1)", 7);
        fails("line(1,Aa0:Aa0,Aa1:Aa1)", 7);
        fails("line(1,Aa1:Ad1,Aa0:Ad0)", 7);
        fails("area(Aa0:Ad0,Aa1:Ac1)", 7);
        fails("area(Aa0:Aa0,Aa1:Aa1)", 7);
        fails("line(1,Aa0:Ad0,Aa2:Ac2)", 3);
        reads("Dh7", "Aa0", "Ab0", "Ac0", "Ad0", "Aa2");
        fails("line(Ah7,Aa0:Ad0,Aa1:Ad1)", 3);
        // Two rows of two cells are read by rows: 0, 10, 5, 7.
        givesReal("line(5,Aa0:Ad0,Aa0:Ab1)", 5.0);
        reads("Dh7", "Aa0", "Ab0", "Ac0", "Ad0", "Aa0", "Ab0", "Aa1", "Ab1");
        book().whole(1, 0);
        fails("line(1,Aa0:Ad0,Aa1:Ad1)", 7);
        givesReal("area(Aa0:Ad0,Aa1:Ad1)", 20.0 * 4 / 2 + 20.0 * -2 / 2);
        beyondTables();
    }

    private static void beyondTables() {
        tellFunction("sq(x)=x*x");
        tell("Ba0", "-Bb0");
        tell("Bb0", "sq(sq(sq(sq(sq(sq(sq(sq(sq(2.0)))))))))/2*sq(sq(sq(sq(sq(sq(sq(sq(sq(2.0)))))))))");
        book().whole(at("Ca0"), 0);
        book().whole(at("Cb0"), 1);
        fails("line(0,Ba0:Bb0,Ca0:Cb0)", 5);
        fails("line(0.5,Ca0:Cb0,Ba0:Bb0)", 5);
        givesReal("line(1,Ca0:Cb0,Ba0:Bb0)", 0x1p1023);
        fails("area(Ba0:Bb0,Ca0:Cb0)", 5);
        tell("Bc0", "Bb0");
        fails("area(Ca0:Cb0,Bb0:Bc0)", 5);
        givesReal("area(Ca0:Cb0,Ba0:Bb0)", 0.0);
        // Where x is one of R, nothing is taken from its neighbour, however far that is.
        book().whole(at("Cc0"), 2);
        givesReal("line(0,Ca0:Cc0,Ba0:Bc0)", -0x1p1023);
        givesReal("line(1,Ca0:Cc0,Ba0:Bc0)", 0x1p1023);
        fails("line(0.5,Ca0:Cc0,Ba0:Bc0)", 5);
        for (int i = 0; i < 64; i++) {
            book().whole(i, i);
        }
        givesReal("line(62.5,Aa0:Ah7,Aa0:Ah7)", 62.5);
        givesReal("area(Aa0:Ah7,Aa0:Ah7)", 63.0 * 63.0 / 2.0);
    }

    private static void roots() {
        begin("root");
        tellFunction("f(x)=x*x-2");
        tellFunction("g(x)=x-0.3");
        tellFunction("h(x)=cut(x)-3");
        tellFunction("k(x)=1/cut(x)");
        tell("Dh7", "root(f,0,2)");
        book().recalculate();
        due("root(f,0,2)", book().value(255), 4609047870845172684L);
        tell("Dh7", "root(g,1,0)");
        book().recalculate();
        due("root(g,1,0)", book().value(255), 4599075939470750514L);
        fails("root(f,2,3)", 6);
        fails("root(f,-1,1)", 6);
        fails("root(k,-2,0)", 1);
        fails("root(k,2,Aa0)", 3);
        gives("cut(root(h,0,9)*1000)", 3000);
        tellFunction("sq(x)=x*x");
        tell("Aa0", "sq(sq(sq(sq(sq(sq(sq(sq(sq(2.0)))))))))/2*sq(sq(sq(sq(sq(sq(sq(sq(sq(2.0)))))))))");
        fails("root(g,-Aa0,Aa0)", 5);
        gives("try(root(f,2,3),7)", 7);
    }

    private static void calls() {
        begin("CALLS");
        tellFunction("t(n)=if(n<1,0,t(n-1)+1)");
        tellFunction("s(x,y,z)=x*100+y*10+z");
        tellFunction("u(n)=s(n,t(n),try(t(99),n))");
        gives("s(1,2,3)", 123);
        gives("s(s(0,0,1),t(2),u(3))", 100 + 20 + 333);
        gives("t(19)", 19);
        fails("t(20)", 4);
        gives("try(t(20),5)+t(19)", 24);
        gives("t(t(19))", 19);
        tellFunction("w(x)=root(t,0,x)");
        fails("w(18)", 6);
        fails("w(19)", 4);
        fails("root(t,0,20)", 4);
        fails("s(1/0,Aa0,Ab0)", 1);
        due("no reads", book().trace(255, 0), -1);
        tellFunction("id(x)=x");
        gives("id(3)/2", 1);
        givesReal("id(3.0)/2", 1.5);
    }

    /** t(k) takes 7 + 8 * k STEPS, with its CALL and its WHOLE; k is 19 at most. */
    private static void steps() {
        begin("STEPS");
        tellFunction("t(n)=if(n<1,0,t(n-1))");
        String most = "(t(19)+t(19)+t(19)+t(19)+t(19)+t(19)+t(4))";
        gives("-" + most, 0);
        fails("--" + most, 8);
        fails("try(-" + most + ",5)", 8);
        tell("Aa0", "--" + most);
        gives("try(Aa0,5)", 5);
        tell("Dh7", "Aa0");
        book().recalculate();
        due("HANGS", book().state(255), 5);
        due("kind", book().failure(255, 0), 8);
        due("first cell", book().failure(255, 1), 0);
        // Six t(19) and signs take 960; a sum takes one, and each cell of its R, EMPTY ones too.
        String six = "t(19)+t(19)+t(19)+t(19)+t(19)+t(19)+";
        gives(six + "-------sum(Ba0:Bd7)", 0);
        fails(six + "--------sum(Ba0:Bd7)", 8);
        fails(six + "sum(Ba0:Be7)", 8);
        fails(six + "area(Ba0:Bh7,Ba0:Bh7)", 3);
        due("the cell that was read", book().trace(255, 0), at("Ba0"));
        // These take 992; at, its WHOLE and the cell that is read take three more.
        String seven = six + "t(3)+";
        book().whole(at("Ca0"), 9);
        gives(seven + "-----at(Ca0:Cb0,0)", -9);
        reads("Dh7", "Ca0");
        fails(seven + "------at(Ca0:Cb0,0)", 8);
        reads("Dh7");
        rootSteps();
    }

    /** root takes one, a and b one each; then there are 62 CALLS, each a STEP and the five PARTS of z. */
    private static void rootSteps() {
        tellFunction("z(x)=x*x-2");
        String root = "cut(root(z,0,2))+t(19)+t(19)+t(19)+t(16)+";
        due("STEPS behind the root and the t", 1 + 3 + 62 * 6 + 3 * 159 + (7 + 8 * 16) + 5, 993);
        gives(root + "------2", 3);
        fails(root + "-------2", 8);
    }

    private static void changes() {
        begin("CHANGED");
        tellFunction("f(x)=x");
        tellFunction("g(x)=f(x)+1");
        tellFunction("h(x)=if(0,root(g,0,x),5)");
        tell("Aa0", "f(1)");
        tell("Ab0", "g(1)");
        tell("Ac0", "h(1)");
        tell("Ad0", "1");
        tell("Ae0", "if(1,1,Ac0)");
        doneCells("Aa0", "Ab0", "Ac0", "Ad0", "Ae0");
        tellFunction("f(x)=x*2");
        doneCells("Aa0", "Ab0", "Ac0", "Ae0");
        tellFunction("g(x)=x");
        doneCells("Ab0", "Ac0", "Ae0");
        tellFunction("h(x)=x");
        doneCells("Ac0", "Ae0");
        tellFunction("g(x)=x");
        doneCells("Ab0");
        tellFunction("h(x)=y");
        doneCells();
        tellConstant(0, "a=f(1)");
        doneCells("Aa0", "Ab0", "Ac0", "Ad0", "Ae0");
        tellConstant(0, "a=f(1)");
        doneCells("Aa0", "Ab0", "Ac0", "Ad0", "Ae0");
        tellFunction("f(x)=x*3");
        doneCells("Aa0", "Ab0", "Ac0", "Ad0", "Ae0");
        due("named(0, 0, 1)", book().named(0, 0, 1), 3);
        tell("Ba0", "Ad0");
        tell("Bb0", "2");
        doneCells("Ba0", "Bb0");
        tellConstant(0, "b=1");
        doneCells("Aa0", "Ab0", "Ac0", "Ad0", "Ae0", "Ba0");
        book().whole(at("Ad0"), 1);
        doneCells("Ba0");
        book().whole(at("Ad0"), 1);
        doneCells("Ba0");
        tell("Af0", "1+");
        doneCells();
        tell("Af0", "7");
        book().whole(at("Af0"), 7);
        doneCells();
    }

    private static void spoiledSheets() {
        begin("SPOILED");
        tellConstant(0, "a=1");
        tellConstant(0, "b=2");
        tell("Aa0", "a+b");
        tell("Ab0", "7");
        tell("Ac0", "Ac0");
        tell("Ba0", "Ab0");
        book().recalculate();
        due("value", book().value(0), 3);
        tellConstant(0, "a=0%0");
        book().recalculate();
        failed(0, 10, 0, 1);
        failed(1, 10, 1, 1);
        failed(2, 9, 2, 0);
        failed(64, 10, 1, 1);
        tell("Ad0", "5");
        doneCells("Ad0");
        failed(3, 10, 3, 1);
        due("count(11)", book().count(11), 2);
        tellConstant(0, "b=3");
        book().recalculate();
        failed(0, 10, 0, 1);
        tellConstant(0, "a=4");
        doneCells("Aa0", "Ab0", "Ac0", "Ad0", "Ba0");
        due("value", book().value(0), 7);
        due("value", book().value(64), 7);
        tellFunction("f(x)=f(x)+f(x)");
        tellConstant(0, "b=f(1)");
        book().recalculate();
        failed(0, 10, 0, 4);
    }

    /** FORMULAS come and go; what they leave behind must not show in later ones. */
    private static void manyTellings() {
        begin("many tellings");
        for (int round = 0; round < 60; round++) {
            int cell = round % 50;
            text("Da0+" + round);
            due("formula", book().formula(cell), 3);
            book().whole(192, round);
            due("recalculate()", book().recalculate(), round % 2 == 0 ? 1 : 2);
            due("value(" + cell + ")", book().value(cell), 2L * round);
            if (round % 2 == 1) {
                due("empty(" + cell + ")", book().empty(cell), 1);
                due("empty(" + (cell - 1) + ")", book().empty(cell - 1), 1);
                due("count(1)", book().count(1), 0);
                due("neededBy(192, 0)", book().neededBy(192, 0), -1);
            }
        }
    }
}
