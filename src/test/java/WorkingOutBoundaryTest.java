import java.util.function.DoubleUnaryOperator;

/** The boundary cases that section 2 of the Terms (WORKING OUT) names, a method for each sentence. */
public final class WorkingOutBoundaryTest extends Bench {
    private static final long LEAST_LONG = Long.MIN_VALUE;
    private static final long GREATEST_LONG = Long.MAX_VALUE;
    private static final double GREATEST = Double.MAX_VALUE;

    public static void main(String[] args) {
        longsWrap();
        doublesAreNeverInfinite();
        thousandSteps();
        stepsOfParts();
        stepsOfWords();
        stepsOfAreas();
        stepsOfRoots();
        stepsOfWhatIsNotWorkedOut();
        stepsOfEachE();
        noTryTakesSpent();
        readsBeforeSpent();
        numbersAreThemselves();
        namesAreTheirValues();
        fromLeftToRight();
        whatFailsEndsThePartsAround();
        tries();
        triesThatEnded();
        triesInOneAnother();
        nineteenTries();
        choices();
        thirteenChoices();
        divisionOfLongs();
        leastLongByMinusOne();
        nearestDoubles();
        oneRounding();
        remaindersOfDoubles();
        signsOfZeros();
        divisionByZero();
        beyond();
        minusOfAtoms();
        comparisonsOfLongs();
        comparisonsOfDoubles();
        cutDoubles();
        realValues();
        readingEmptyCells();
        readingFailedCells();
        byRows();
        sums();
        leastAndMost();
        counts();
        doneAsEachIsRead();
        indexes();
        thatCellAlone();
        tablesOfUnlikeNumbers();
        tablesThatRise();
        allIsReadBeforeTheTable();
        endsOfLines();
        insideOfLines();
        linesBeyond();
        tablesOfSheets();
        areasUnderCurves();
        areasBeyond();
        noRoot();
        orderInRoots();
        sixtyHalvings();
        rootsBeyond();
        twentyCalls();
        callsOfRoots();
        endedCalls();
        end();
    }

    // ---- STEPS of which one knows how many they are

    /** t(k) takes 7 + 8 * k STEPS with its WHOLE, and has k + 1 CALLS under way. */
    private static void tellCounters() {
        again();
        tellFunction("t(n)=if(n<1,0,t(n-1))");
        tellFunction("z(x)=x*x-2");
        tellFunction("s(x,y,z)=x+y+z");
        tellFunction("i(x)=x");
    }

    /** What stands ahead of an ATOM and takes just so many STEPS. */
    private static String ahead(int steps) {
        int left = steps % 160;
        String s = times(steps / 160, "t(19)+");
        if (left >= 8) {
            s = s + "t(" + (left / 8 - 1) + ")+";
        }
        return s + times(left % 8 / 2, "1+") + times(left % 2, "-");
    }

    /** With that many STEPS left it is worked out, with one less it is SPENT. */
    private static void takes(String e, int steps) {
        due("told " + e, tell("Dh7", ahead(1000 - steps) + "(" + e + ")") > 0 ? 1 : 0, 1);
        book().recalculate();
        due("SPENT in " + e + " with enough", book().failure(255, 0) == 8 ? 1 : 0, 0);
        due("told " + e, tell("Dh7", ahead(1001 - steps) + "(" + e + ")") > 0 ? 1 : 0, 1);
        book().recalculate();
        due("state of " + e + " with one STEP less", book().state(255), 3);
        due("kind of " + e + " with one STEP less", book().failure(255, 0), 8);
    }

    // ---- DOUBLES at the ends of what there is

    /** Ca0: 2 to the 1023; Cb0: the greatest; Cc0: the least above 0; Cd0: half a place of the greatest; Ca1: 2^512. */
    private static void tellExtremes() {
        again();
        tellFunction("q(x)=x*x");
        tell("Ca1", "q(q(q(q(q(q(q(q(q(2.0)))))))))");
        tell("Ca0", "Ca1/2*Ca1");
        tell("Cb0", "Ca0+(Ca0-Ca0/4503599627370496)");
        tell("Cc0", "1/Ca1/Ca1/1125899906842624");
        tell("Cd0", "Ca0/9007199254740992");
        book().recalculate();
        due("2 to the 1023", book().value(at("Ca0")), Double.doubleToLongBits(0x1p1023));
        due("the greatest", book().value(at("Cb0")), Double.doubleToLongBits(GREATEST));
        due("the least", book().value(at("Cc0")), 1);
        due("half a place", book().value(at("Cd0")), Double.doubleToLongBits(0x1p970));
    }

    private static void longsWrap() {
        begin("VALUES are LONGS, which wrap");
        book().whole(0, GREATEST_LONG);
        book().whole(1, LEAST_LONG);
        book().whole(2, 1);
        gives("Aa0", GREATEST_LONG);
        gives("Aa0+1", LEAST_LONG);
        gives("Aa0+0", GREATEST_LONG);
        gives("Ab0-1", GREATEST_LONG);
        gives("Ab0-0", LEAST_LONG);
        gives("Aa0*2", -2);
        gives("Ab0*2", 0);
        gives("Ab0*-1", LEAST_LONG);
        gives("Aa0-Ab0", -1);
        gives("Aa0+Aa0", -2);
        gives("0-Ab0", LEAST_LONG);
        gives("-Ab0", LEAST_LONG);
        gives("-Aa0", -GREATEST_LONG);
        gives("sum(Aa0:Ac0)", 0);
        gives("4294967296*4294967296", 0);
        gives("4294967296*2147483648", LEAST_LONG);
    }

    private static void doublesAreNeverInfinite() {
        begin("and DOUBLES, which are never infinite");
        tellExtremes();
        givesReal("Cb0", GREATEST);
        givesReal("-Cb0", -GREATEST);
        givesReal("Cb0+Cd0*0.9", GREATEST);
        fails("Cb0+Cd0", 5);
        fails("-Cb0-Cd0", 5);
        givesReal("Cb0*1", GREATEST);
        fails("Cb0*1.00000000000001", 5);
        givesReal("Cb0/1", GREATEST);
        fails("Cb0/0.5", 5);
        givesReal("Cb0-Cb0", 0.0);
        givesReal("-Cb0*1", -GREATEST);
        givesReal("-Cb0-0.0", -GREATEST);
        givesReal("-Ca0-(Ca0-Ca0/4503599627370496)", -GREATEST);
        givesReal("sum(Cb0:Cb0)+0", GREATEST);
        book().number(0, GREATEST_LONG, 0);
        due("number() of the greatest LONG", book().value(0), Double.doubleToLongBits(0x1p63));
        book().number(0, LEAST_LONG, 0);
        due("number() of the least LONG", book().value(0), Double.doubleToLongBits(-0x1p63));
    }

    private static void thousandSteps() {
        begin("An E is worked out with 1000 STEPS");
        tellCounters();
        gives(ahead(999) + "1", -1 + 1 + 1 + 1);
        gives(ahead(998) + "1", 1 + 1 + 1 + 1);
        fails(ahead(1000) + "1", 8);
        fails(ahead(1001) + "1", 8);
        fails(ahead(1100) + "1", 8);
        // The E of a FUNCTION takes of the same ones.
        tellFunction("u(n)=t(18)+t(10)+n");
        gives("u(0)+u(0)+u(0)+u(0)", 0);
        fails("u(0)+u(0)+u(0)+u(0)+t(3)", 8);
        takes("u(0)", 2 + 151 + 87 + 3);
    }

    private static void stepsOfParts() {
        begin("each PART takes one ahead of what is in it");
        tellCounters();
        book().whole(0, 5);
        tellConstant(3, "a=7");
        takes("1", 1);
        takes("1.5", 1);
        takes("Aa0", 1);
        takes("a", 1);
        takes("-1", 2);
        takes("--1", 3);
        takes("((1))", 1);
        takes("1*2", 3);
        takes("1*2<3", 5);
        takes("i(1)", 3);
        takes("s(1,2,3)", 9);
        takes("s(1,i(2),-3)", 12);
        tellCounters();
        for (String sign : new String[] {"+", "-", "*", "/", "%", "<", "<=", "=", "<>"}) {
            takes("7" + sign + "2", 3);
        }
        tellCounters();
        takes("7.5%2", 3);
        takes("t(0)", 7);
        takes("t(1)", 15);
        takes("t(19)", 159);
    }

    private static void stepsOfWords() {
        begin("each PART takes one ahead of what is in it: WORDS");
        tellCounters();
        takes("if(1,2,3)", 3);
        takes("if(0,2,3)", 3);
        takes("if(1*1,2*2,3)", 7);
        takes("try(1,2)", 2);
        takes("try(1*1,2)", 4);
        takes("cut(1.5)", 2);
        takes("cut(1)", 2);
        takes("real(1)", 2);
        takes("real(cut(1*1))", 5);
        takes("if(i(1),try(2,3),4)", 6);
    }

    private static void stepsOfAreas() {
        begin("(but the R of sum, least, most, count, at, line, area) .. and each cell of an R that is read takes one");
        tellCounters();
        for (int i = 0; i < 4; i++) {
            book().whole(i, i);
            book().whole(8 + i, 5);
        }
        takes("sum(Aa0:Aa0)", 2);
        takes("sum(Aa0:Ab0)", 3);
        takes("sum(Aa0:Ah7)", 65);
        takes("least(Aa0:Ad1)", 9);
        takes("most(Aa0:Ad1)", 9);
        takes("count(Aa0:Ad1)", 9);
        // EMPTY cells are read too.
        takes("count(Ba0:Bh7)", 65);
        takes("sum(Ba0:Bd0)", 5);
        takes("least(Ba0:Bd0)", 5);
        tellCounters();
        for (int i = 0; i < 4; i++) {
            book().whole(i, i);
            book().whole(8 + i, 5);
        }
        takes("at(Aa0:Ah7,3)", 3);
        takes("at(Aa0:Ah7,1+1)", 5);
        takes("line(1,Aa0:Ad0,Aa1:Ad1)", 10);
        takes("line(1*1,Aa0:Ab0,Aa1:Ab1)", 8);
        takes("area(Aa0:Ad0,Aa1:Ad1)", 9);
        takes("area(Aa0:Ab0,Aa1:Ab1)", 5);
        // A TABLE that does not hold is read as far as it goes.
        takes("area(Aa0:Ab0,Aa1:Ad1)", 7);
        takes("line(1,Aa0:Aa0,Aa1:Aa1)", 4);
    }

    private static void stepsOfRoots() {
        begin("f of low, f of high (as CALLS, each a STEP more)");
        tellCounters();
        // root, a, b; then 62 CALLS, each one and the five PARTS of z.
        takes("root(z,0,2)", 3 + 62 * 6);
        takes("root(z,1-1,2)", 5 + 62 * 6);
        takes("root(z,0,1)", 3 + 2 * 6);
        tellFunction("i(x)=x");
        takes("root(i,-1,1)", 4 + 62 * 2);
        tellFunction("d(x)=1/0");
        takes("root(d,0,2)", 3 + 1 + 3);
        tellFunction("d(x)=if(x<1,0-1,1/0)");
        takes("root(d,0,2)", 3 + 1 + 7 + 1 + 7);
    }

    private static void stepsOfWhatIsNotWorkedOut() {
        begin("What is not worked out takes no STEPS");
        tellCounters();
        takes("if(1,2,3*4*5)", 3);
        takes("if(0,2*3*4,5)", 3);
        takes("try(1,2*3*4)", 2);
        takes("try(1/0,2*3)", 1 + 3 + 3);
        takes("1/0+2*3", 1 + 3);
        takes("s(1,1/0,2*3)", 1 + 1 + 3);
        takes("at(Aa0:Ah7,64)", 2);
        takes("at(Aa0:Ah7,-1)", 3);
        takes("at(Aa0:Ah7,1.5)", 2);
        takes("at(Aa0:Ah7,1/0)", 4);
        tellCounters();
        book().whole(0, 1);
        tell("Ac0", "1/0");
        takes("sum(Aa0:Ah7)", 1 + 3);
        takes("count(Aa0:Ah7)", 1 + 3);
        takes("line(1,Aa0:Ah0,Aa1:Ah1)", 2 + 2);
        takes("line(1/0,Aa0:Ah0,Aa1:Ah1)", 4);
        takes("area(Aa0:Ah0,Aa1:Ah1)", 1 + 2);
        takes("area(Aa0:Aa0,Aa1:Ah1)", 1 + 2);
        takes("root(z,1/0,2*3)", 1 + 3);
        // A CALL that is too deep has its ARGUMENT, and no more.
        takes("t(20)", 2 + 20 * 8);
    }

    private static void stepsOfEachE() {
        begin("each as an E of its own");
        tellCounters();
        tell("Aa0", ahead(999) + "1");
        tell("Ab0", ahead(999) + "1");
        tell("Ac0", ahead(999) + "Aa0");
        tell("Ad0", ahead(1000) + "Aa0");
        book().recalculate();
        due("1000 STEPS", book().state(0), 1);
        due("1000 more of another cell", book().state(1), 1);
        due("what is read takes none of them", book().state(2), 1);
        due("1001", book().state(3), 3);
        tellConstant(0, "a=" + ahead(999) + "1");
        tellConstant(0, "b=" + ahead(999) + "a");
        tellConstant(0, "c=" + ahead(999) + "b");
        book().recalculate();
        constantIs(0, 0, 1, 2, 0);
        constantIs(0, 1, 1, 1, 0);
        constantIs(0, 2, 1, 2, 0);
        tell("Aa0", ahead(997) + "(a+b)");
        book().recalculate();
        due("a CONSTANT takes one", book().state(0), 1);
        tellConstant(0, "b=" + ahead(1000) + "a");
        book().recalculate();
        constantIs(0, 0, 1, 2, 0);
        constantIs(0, 1, 3, 0, 8);
        constantIs(0, 2, 0, 0, 0);
        failed(0, 10, 0, 8);
    }

    private static void noTryTakesSpent() {
        begin("it FAILS with 8 SPENT, which no try takes (one that came by reading a cell, it does)");
        tellCounters();
        String spent = ahead(1000) + "1";
        fails("try(" + spent + ",5)", 8);
        fails("try(try(" + spent + ",5),6)", 8);
        fails("1+try(1/0," + spent + ")", 8);
        tellFunction("r(n)=try(r(n)+r(n),1)");
        // Each CALL that is too deep is taken, until the STEPS are.
        fails("r(1)", 8);
        fails("try(r(1),2)", 8);
        tell("Aa0", spent);
        gives("try(Aa0,5)", 5);
        gives("try(Aa0+1,try(Aa0,6))", 6);
        gives("try(sum(Aa0:Ab0),7)", 7);
        hangs("Aa0", 8, 0, 0);
        tell("Ab0", "Aa0");
        gives("try(Ab0,8)", 8);
        hangs("Ab0+1", 8, 0, 0);
        // The try that took it goes on with the STEPS that are left.
        takes("try(Aa0,5)", 3);
        takes("try(1+Aa0,5)", 5);
    }

    private static void readsBeforeSpent() {
        begin("Where none is left it FAILS: what was read before that was read");
        tellCounters();
        for (int i = 0; i < 4; i++) {
            book().whole(i, i);
        }
        fails(ahead(998) + "(Aa0+Ab0)", 8);
        reads("Dh7", "Aa0");
        fails(ahead(999) + "(Aa0+Ab0)", 8);
        reads("Dh7");
        fails(ahead(997) + "sum(Aa0:Ad0)", 8);
        reads("Dh7", "Aa0", "Ab0");
        fails(ahead(999) + "sum(Aa0:Ad0)", 8);
        reads("Dh7");
        fails(ahead(998) + "at(Aa0:Ad0,1)", 8);
        reads("Dh7");
        fails(ahead(995) + "line(1,Aa0:Ab0,Ac0:Ad0)", 8);
        reads("Dh7", "Aa0", "Ab0", "Ac0");
        fails(ahead(998) + "area(Aa0:Ab0,Ac0:Ad0)", 8);
        reads("Dh7", "Aa0");
    }

    private static void numbersAreThemselves() {
        begin("NUMBERS are themselves. A REF reads its cell.");
        gives("0", 0);
        gives("999999999999999999", 999999999999999999L);
        givesReal("0.0", 0.0);
        givesReal("3.0", 3.0);
        book().whole(0, LEAST_LONG);
        gives("Aa0", LEAST_LONG);
        reads("Dh7", "Aa0");
        book().number(0, -5, 1);
        givesReal("Aa0", -0.5);
        tell("Ab0", "-0.0");
        givesReal("Ab0", -0.0);
        tell("Dg7", "Ab0");
        givesReal("Dg7", -0.0);
        givesReal("Aa0+Aa0", -1.0);
        reads("Dh7", "Aa0", "Aa0");
    }

    private static void namesAreTheirValues() {
        begin("A NAME is the CONSTANT's VALUE, the ARGUMENT's");
        tellFunction("f(x,y,z)=x-y*z");
        tellFunction("g(x)=x");
        tellConstant(3, "a=7");
        tellConstant(3, "b=7.0");
        tellConstant(3, "c=-0.0");
        gives("a", 7);
        gives("a/2", 3);
        givesReal("b/2", 3.5);
        givesReal("c", -0.0);
        gives("f(20,3,4)", 8);
        gives("g(a)/2", 3);
        givesReal("g(b)/2", 3.5);
        givesReal("g(c)", -0.0);
        gives("f(g(1),g(2),g(3))", -5);
        gives("f(f(9,2,1),f(3,1,1),f(5,1,2))", 7 - 2 * 3);
        tellFunction("h(x,y)=g(y)*10+f(y,x,x)+x");
        gives("h(2,3)", 30 + 3 - 4 + 2);
    }

    private static void fromLeftToRight() {
        begin("What is in a PART is worked out from left to right, as far as nothing FAILS");
        for (int i = 0; i < 8; i++) {
            book().whole(i, i + 1);
        }
        tellFunction("f(x,y,z)=z");
        gives("Ac0-Ab0*Aa0", 1);
        reads("Dh7", "Ac0", "Ab0", "Aa0");
        gives("Ab0<Aa0+Ac0", 1);
        reads("Dh7", "Ab0", "Aa0", "Ac0");
        gives("f(Ac0,Ab0,Aa0)", 1);
        reads("Dh7", "Ac0", "Ab0", "Aa0");
        gives("if(Aa0,Ac0,Ab0)", 3);
        reads("Dh7", "Aa0", "Ac0");
        givesReal("line(Ah0,Ac0:Ad0,Aa0:Ab0)", 2.0);
        reads("Dh7", "Ah0", "Ac0", "Ad0", "Aa0", "Ab0");
        givesReal("area(Ac0:Ad0,Aa0:Ab0)", 1.5);
        reads("Dh7", "Ac0", "Ad0", "Aa0", "Ab0");
        fails("Aa0+Aa1+Ab0", 3);
        reads("Dh7", "Aa0", "Aa1");
        fails("Aa0*(1/0)*Ab0", 1);
        reads("Dh7", "Aa0");
        fails("f(Aa0,Aa1,Ab0)", 3);
        reads("Dh7", "Aa0", "Aa1");
        fails("f(1/0,Aa1,Ab0)", 1);
        reads("Dh7");
        fails("line(Aa1,Ac0:Ad0,Aa0:Ab0)", 3);
        reads("Dh7", "Aa1");
    }

    private static void whatFailsEndsThePartsAround() {
        begin("What FAILS ends the PART, and those around it, but a try");
        tellFunction("f(x)=1/x");
        fails("1+2*(3-f(0))", 1);
        fails("f(f(f(0)))", 1);
        fails("-(1/0)", 1);
        fails("cut(1/0)", 1);
        fails("real(1%0)", 1);
        fails("if(1/0,1,1)", 1);
        fails("if(1,1/0,1)", 1);
        gives("1+try(2*(3-f(0)),4)*10", 41);
        gives("try(f(f(f(0))),5)", 5);
        gives("if(try(1/0,0),1,2)", 2);
    }

    private static void tries() {
        begin("try ( x , y ) is x, or, if x FAILED, y");
        tellFunction("t(n)=t(n)");
        tellFunction("p(x)=1");
        book().whole(2, 1);
        book().whole(3, 1);
        tell("Ae0", "Ae0");
        tell("Af0", "1%0");
        tell("Ag0", "Af0");
        tellConstant(1, "a=1/0");
        tell("Ba0", "1");
        gives("try(3,4)", 3);
        givesReal("try(3.5,4)", 3.5);
        String[] failing = {"1/0", "at(Aa0:Ab0,9)", "Aa0", "t(1)", "root(p,1,2)", "area(Ac0:Ac0,Ad0:Ad0)",
            "at(Aa0:Ab0,1.5)", "Ae0", "Af0", "Ag0", "Ba0"};
        for (String x : failing) {
            gives("try(" + x + ",4)", 4);
        }
        givesReal("try(1/0,4.5)", 4.5);
        fails("try(1/0,Aa0)", 3);
        fails("try(Aa0,1/0)", 1);
        hangs("try(Aa0,Af0)", 1, 5, 0);
        fails("try(Af0,Aa0)", 3);
        gives("try(try(1/0,2/0),3)", 3);
        gives("try(try(1/0,2),3/0)", 2);
        gives("try(1,Aa0)", 1);
        reads("Dh7");
    }

    private static void triesThatEnded() {
        begin("try ( x , y ): what FAILS behind it, it does not take");
        tellFunction("f(x)=try(x,2)");
        tellFunction("g(x)=try(1/x,2)");
        fails("try(1,2)+1/0", 1);
        fails("try(1,2)/0", 1);
        fails("try(1/0,2)/0", 1);
        fails("f(1)/0", 1);
        fails("g(0)/0", 1);
        fails("try(1,2)+Aa0", 3);
        fails("try(1/0,try(1,2)/0)", 1);
        gives("try(try(1,2)/0,3)", 3);
        gives("try(f(1)/0,f(4))", 4);
        gives("try(1/0,2)+try(3,4)*10", 32);
        gives("try(try(1,2)+try(3/0,4)+5%0,6)", 6);
        gives("if(try(1,0),try(2,3),4)", 2);
    }

    private static void triesInOneAnother() {
        begin("try ( x , y ): ten in one another, and as many in each of 20 CALLS");
        String nine = times(9, "try(");
        tellFunction("v(x)=" + nine + "v(x)" + ",1)" + times(8, ",0)"));
        tellFunction("w(x)=" + times(9, "try(1/0,") + "w(x)" + times(9, ")"));
        gives(nine + "v(1)" + times(9, ",7)"), 1);
        gives("v(1)", 1);
        fails("w(1)", 4);
        gives(times(10, "try(") + "1/0" + times(10, ",6)"), 6);
        gives(nine + "1/0" + times(8, ",1/0)") + ",5)", 5);
        gives(nine + "w(1)" + times(9, ",4)"), 4);
    }

    /** As many tries as 40 PARTS have room for, with all that is in them worked out. */
    private static void nineteenTries() {
        begin("try ( x , y ): 19 of them around 20 REFS");
        String[] cells = new String[20];
        for (int i = 0; i < 20; i++) {
            cells[i] = "B" + (char) ('a' + i % 8) + i / 8;
        }
        due("PARTS", tell("Aa0", triesOf(cells, 0, 20)), 39);
        book().recalculate();
        due("all FAIL", book().failure(0, 0), 3);
        reads("Aa0", cells);
        book().whole(at(cells[19]), 7);
        book().recalculate();
        isWhole("Aa0", 7);
        reads("Aa0", cells);
        book().whole(at(cells[0]), 8);
        book().recalculate();
        isWhole("Aa0", 8);
        reads("Aa0", cells[0]);
        due("40 PARTS", tell("Aa0", "-" + triesOf(cells, 0, 20)), 40);
        book().recalculate();
        isWhole("Aa0", -8);
    }

    private static String triesOf(String[] cells, int from, int to) {
        if (to - from == 1) {
            return cells[from];
        }
        int middle = (from + to) / 2;
        return "try(" + triesOf(cells, from, middle) + "," + triesOf(cells, middle, to) + ")";
    }

    /** As many ifs as 40 PARTS have room for. */
    private static void thirteenChoices() {
        begin("if ( c , x , y ): 13 of them, with 14 WHOLES to choose from");
        due("PARTS", tell("Dh7", choicesOf(1, 15)), 40);
        book().whole(0, 1);
        book().recalculate();
        isWhole("Dh7", 1);
        reads("Dh7", "Aa0", "Aa0", "Aa0");
        book().whole(0, 0);
        book().recalculate();
        isWhole("Dh7", 14);
        reads("Dh7", "Aa0", "Aa0", "Aa0", "Aa0");
    }

    private static String choicesOf(int from, int to) {
        if (to - from == 1) {
            return String.valueOf(from);
        }
        int middle = (from + to) / 2;
        return "if(Aa0," + choicesOf(from, middle) + "," + choicesOf(middle, to) + ")";
    }

    private static void choices() {
        begin("if ( c , x , y ) is x if c is not 0, else y; the other one is not worked out");
        book().whole(0, LEAST_LONG);
        tell("Ab0", "-0.0");
        tellFunction("q(x)=x*x");
        tell("Ac0", "1.0/q(q(q(q(q(q(q(q(q(2.0)))))))))");
        tell("Ad0", "Ac0*Ac0");
        gives("if(0,1,2)", 2);
        gives("if(1,1,2)", 1);
        gives("if(-1,1,2)", 1);
        gives("if(Aa0,1,2)", 1);
        gives("if(0.0,1,2)", 2);
        gives("if(Ab0,1,2)", 2);
        gives("if(0.00000000000001,1,2)", 1);
        gives("if(Ad0,1,2)", 1);
        gives("if(-Ad0,1,2)", 1);
        gives("if(4294967296,1,2)", 1);
        gives("if(1,3,Ah0)", 3);
        reads("Dh7");
        gives("if(0,Ah0,3)", 3);
        reads("Dh7");
        gives("if(1,3,1/0)", 3);
        gives("if(0,1/0,3)", 3);
        givesReal("if(1,3.0,4)", 3.0);
        gives("if(0,3.0,4)", 4);
    }

    private static void divisionOfLongs() {
        begin("two LONGS give a LONG (/ towards 0, % with the sign of the left one)");
        gives("7/2", 3);
        gives("-7/2", -3);
        gives("7/-2", -3);
        gives("-7/-2", 3);
        gives("1/2", 0);
        gives("-1/2", 0);
        gives("7%2", 1);
        gives("-7%2", -1);
        gives("7%-2", 1);
        gives("-7%-2", -1);
        gives("6%3", 0);
        gives("-6%3", 0);
        gives("0/5", 0);
        gives("0%5", 0);
        gives("2%7", 2);
        gives("-2%7", -2);
    }

    private static void leastLongByMinusOne() {
        begin("the least LONG by -1: itself, and 0");
        book().whole(0, LEAST_LONG);
        book().whole(1, GREATEST_LONG);
        book().whole(2, -1);
        gives("Aa0/Ac0", LEAST_LONG);
        gives("Aa0%Ac0", 0);
        gives("Aa0/-1", LEAST_LONG);
        gives("Aa0%-1", 0);
        gives("Aa0/1", LEAST_LONG);
        gives("Aa0%1", 0);
        gives("Ab0/-1", -GREATEST_LONG);
        gives("Ab0%-1", 0);
        gives("(Aa0+1)/-1", GREATEST_LONG);
        gives("Aa0/-2", 1L << 62);
        gives("Aa0%Ab0", -1);
        gives("Ab0%Aa0", GREATEST_LONG);
        gives("Aa0/Aa0", 1);
        gives("Ab0/Aa0", 0);
    }

    private static void nearestDoubles() {
        begin("Otherwise both as DOUBLES (the nearest to a LONG, of two as near the even one)");
        long two53 = 1L << 53;
        long[] wholes = {two53 - 1, two53, two53 + 1, two53 + 2, two53 + 3, two53 + 5, -two53 - 1, -two53 - 3,
            GREATEST_LONG, GREATEST_LONG - 511, GREATEST_LONG - 512, LEAST_LONG, LEAST_LONG + 512, LEAST_LONG + 513};
        double[] nearest = {0x1p53 - 1, 0x1p53, 0x1p53, 0x1p53 + 2, 0x1p53 + 4, 0x1p53 + 4, -0x1p53, -0x1p53 - 4,
            0x1p63, 0x1p63, 0x1p63 - 1024, -0x1p63, -0x1p63, -0x1p63 + 1024};
        for (int i = 0; i < wholes.length; i++) {
            book().whole(0, wholes[i]);
            givesReal("Aa0*1.0", nearest[i]);
            givesReal("real(Aa0)", nearest[i]);
            givesReal("Aa0-0.0", nearest[i]);
        }
        givesReal("1+0.5", 1.5);
        givesReal("0.5+1", 1.5);
        givesReal("1/2.0", 0.5);
        givesReal("1.0/2", 0.5);
        givesReal("7%2.5", 2.0);
    }

    private static void oneRounding() {
        begin("by one rounding, as IEEE 754 has it");
        givesReal("0.1+0.2", 0.1 + 0.2);
        givesReal("0.3-0.1", 0.3 - 0.1);
        givesReal("0.1*0.1", 0.1 * 0.1);
        givesReal("1.0/3", 1.0 / 3);
        givesReal("1/49.0*49", 1 / 49.0 * 49);
        again();
        tellExtremes();
        givesReal("Cc0/2", 0.0);
        givesReal("Cc0*0.5", 0.0);
        givesReal("Cc0*0.75", Double.MIN_VALUE);
        givesReal("Cc0*1.5", 2 * Double.MIN_VALUE);
        givesReal("-Cc0/2", -0.0);
        givesReal("Cc0+Cc0", 2 * Double.MIN_VALUE);
        givesReal("Cc0*4503599627370496", Double.MIN_NORMAL);
        givesReal("Cc0*4503599627370496-Cc0", Double.MIN_NORMAL - Double.MIN_VALUE);
        givesReal("1/Cb0", 1 / GREATEST);
        givesReal("1+Cc0", 1.0);
    }

    private static void remaindersOfDoubles() {
        begin("% is what is left of the quotient towards 0, exactly (a 0 has the sign of the left one)");
        givesReal("7.5%2", 1.5);
        givesReal("-7.5%2", -1.5);
        givesReal("7.5%-2", 1.5);
        givesReal("-7.5%-2", -1.5);
        givesReal("6.0%2", 0.0);
        givesReal("-6.0%2", -0.0);
        givesReal("6.0%-2", 0.0);
        givesReal("-6.0%-2", -0.0);
        givesReal("0.0%2", 0.0);
        givesReal("-0.0%2", -0.0);
        givesReal("1.0%0.1", 1.0 % 0.1);
        givesReal("0.5%0.5", 0.0);
        givesReal("0.4%0.5", 0.4);
        tellExtremes();
        givesReal("Cb0%3", GREATEST % 3);
        givesReal("Cb0%0.1", GREATEST % 0.1);
        givesReal("-Cb0%0.1", -GREATEST % 0.1);
        givesReal("Cb0%Cc0", 0.0);
        givesReal("-Cb0%Cc0", -0.0);
        givesReal("Cc0%Cb0", Double.MIN_VALUE);
        givesReal("Cb0%Ca0", GREATEST % 0x1p1023);
        givesReal("Ca0%Cb0", 0x1p1023);
        givesReal("Cb0%Cb0", 0.0);
        givesReal("1%(Cc0*3)", 1 % (3 * Double.MIN_VALUE));
        givesReal("Cc0*5%(Cc0*3)", 2 * Double.MIN_VALUE);
        givesReal("Cb0%(Cc0*7)", GREATEST % (7 * Double.MIN_VALUE));
        // The least ones with 53 bits, and the greatest with fewer.
        givesReal("1%(Cc0*6755399441055744)", 1 % (6755399441055744L * Double.MIN_VALUE));
        givesReal("1%(Cc0*3377699720527872)", 1 % (3377699720527872L * Double.MIN_VALUE));
        givesReal("1%(Cc0*4503599627370495)", 1 % (4503599627370495L * Double.MIN_VALUE));
        givesReal("1%(Cc0*4503599627370497)", 1 % (4503599627370497L * Double.MIN_VALUE));
    }

    private static void signsOfZeros() {
        begin("(0s have signs)");
        givesReal("-0.0", -0.0);
        givesReal("0.0+0.0", 0.0);
        givesReal("0.0+-0.0", 0.0);
        givesReal("-0.0+-0.0", -0.0);
        givesReal("-0.0-0.0", -0.0);
        givesReal("0.0-0.0", 0.0);
        givesReal("1.5-1.5", 0.0);
        givesReal("-0.0+0", 0.0);
        givesReal("-0.0*1", -0.0);
        givesReal("-0.0*-1", 0.0);
        givesReal("0*-1.0", -0.0);
        givesReal("0/-1.0", -0.0);
        givesReal("-0.0/-1", 0.0);
        gives("-0", 0);
        book().number(0, 0, 15);
        due("number() of 0", book().value(0), 0);
    }

    private static void divisionByZero() {
        begin("/ and % by 0 (of either sign): 1 DIVISION");
        String[] lefts = {"1", "0", "1.5", "-0.0"};
        for (String left : lefts) {
            for (String zero : new String[] {"0", "0.0", "-0.0"}) {
                fails(left + "/" + zero, 1);
                fails(left + "%" + zero, 1);
            }
        }
        again();
        tellExtremes();
        gives("1/-1", -1);
        givesReal("Cc0/Cc0", 1.0);
        fails("Cb0/(Cc0/2)", 1);
        fails("Cb0%(Cc0/2)", 1);
        fails("Cb0/(-Cc0/2)", 1);
        fails("1/(2-2)", 1);
        fails("1%(2.5-2.5)", 1);
    }

    private static void beyond() {
        begin("What would be infinite: 5 BEYOND");
        tellExtremes();
        fails("Ca0+Ca0", 5);
        fails("-Ca0-Ca0", 5);
        fails("-Ca0+-Ca0", 5);
        fails("Ca0-(-Ca0)", 5);
        fails("Ca0*2", 5);
        fails("Ca0*-2", 5);
        fails("2*Ca0", 5);
        fails("Ca0/0.5", 5);
        fails("-Ca0/0.5", 5);
        fails("1/Cc0", 5);
        fails("-1/Cc0", 5);
        givesReal("Ca0*1.5", 0x1.8p1023);
        givesReal("Ca0/2+Ca0/2", 0x1p1023);
        givesReal("1/(Cc0*9007199254740992)", 0x1p1021);
        gives("try(Ca0*2,5)", 5);
        gives("try(1/Cc0,6)", 6);
        tell("Da0", "Ca0*2");
        hangs("Da0", 5, at("Da0"), 0);
    }

    private static void minusOfAtoms() {
        begin("- ATOM: 0 less a LONG; a DOUBLE with its sign changed");
        book().whole(0, LEAST_LONG);
        book().whole(1, GREATEST_LONG);
        gives("-1", -1);
        gives("-0", 0);
        gives("-Aa0", LEAST_LONG);
        gives("-Ab0", LEAST_LONG + 1);
        gives("-(Aa0+1)", GREATEST_LONG);
        givesReal("-1.5", -1.5);
        givesReal("--1.5", 1.5);
        givesReal("-0.0", -0.0);
        givesReal("--0.0", 0.0);
        givesReal("0-0.0", 0.0);
        tellExtremes();
        givesReal("-Cb0", -GREATEST);
        givesReal("-Cc0", -Double.MIN_VALUE);
        givesReal("--Cb0", GREATEST);
    }

    private static void compares(String x, String y, int order) {
        gives(x + "<" + y, order < 0 ? 1 : 0);
        gives(x + "<=" + y, order <= 0 ? 1 : 0);
        gives(x + "=" + y, order == 0 ? 1 : 0);
        gives(x + "<>" + y, order != 0 ? 1 : 0);
    }

    private static void comparisonsOfLongs() {
        begin("< <= = <> : two LONGS as such: LONG 1 or 0");
        book().whole(0, GREATEST_LONG);
        book().whole(1, GREATEST_LONG - 1);
        book().whole(2, LEAST_LONG);
        compares("1", "2", -1);
        compares("2", "2", 0);
        compares("3", "2", 1);
        compares("Ab0", "Aa0", -1);
        compares("Aa0", "Ab0", 1);
        compares("Ac0", "Aa0", -1);
        compares("Aa0", "Ac0", 1);
        compares("9007199254740993", "9007199254740992", 1);
    }

    private static void comparisonsOfDoubles() {
        begin("otherwise as DOUBLES (0s of both signs are alike)");
        compares("0.0", "-0.0", 0);
        compares("-0.0", "0.0", 0);
        compares("-0.0", "0", 0);
        compares("0", "-0.0", 0);
        compares("1.5", "2", -1);
        compares("2.0", "2", 0);
        compares("3", "2.5", 1);
        again();
        // As DOUBLES these two are alike.
        compares("9007199254740993", "9007199254740992*1.0", 0);
        compares("real(9007199254740993)", "9007199254740992", 0);
        compares("9007199254740994", "9007199254740992*1.0", 1);
        again();
        book().whole(0, GREATEST_LONG);
        compares("Aa0", "real(Aa0)", 0);
        compares("Aa0-512", "real(Aa0)", -1);
        again();
        tellExtremes();
        compares("Cc0", "0", 1);
        compares("-Cc0", "0", -1);
        compares("-Cb0", "Cb0", -1);
    }

    private static void cutDoubles() {
        begin("cut: a LONG itself; a DOUBLE towards 0, the least or greatest LONG beyond these");
        book().whole(0, GREATEST_LONG);
        book().whole(1, LEAST_LONG);
        gives("cut(Aa0)", GREATEST_LONG);
        gives("cut(Ab0)", LEAST_LONG);
        gives("cut(7)", 7);
        gives("cut(2.9)", 2);
        gives("cut(-2.9)", -2);
        gives("cut(0.9)", 0);
        gives("cut(-0.9)", 0);
        gives("cut(-0.0)", 0);
        gives("cut(3.0)", 3);
        gives("cut(real(9007199254740993))", 9007199254740992L);
        gives("cut(real(Aa0)-1024)", GREATEST_LONG - 1023);
        gives("cut(real(Aa0))", GREATEST_LONG);
        gives("cut(real(Aa0)+2048)", GREATEST_LONG);
        gives("cut(real(Ab0)+1024)", LEAST_LONG + 1024);
        gives("cut(real(Ab0))", LEAST_LONG);
        gives("cut(real(Ab0)-2048)", LEAST_LONG);
        tellExtremes();
        gives("cut(Cb0)", GREATEST_LONG);
        gives("cut(-Cb0)", LEAST_LONG);
        gives("cut(Cc0)", 0);
        gives("cut(-Cc0)", 0);
    }

    private static void realValues() {
        begin("real: as a DOUBLE");
        givesReal("real(0)", 0.0);
        givesReal("real(-0)", 0.0);
        givesReal("real(-0.0)", -0.0);
        givesReal("real(1.5)", 1.5);
        givesReal("real(7)/2", 3.5);
        givesReal("real(-7)", -7.0);
        book().whole(0, LEAST_LONG);
        givesReal("real(Aa0)", -0x1p63);
        givesReal("-real(Aa0)", 0x1p63);
    }

    private static void readingEmptyCells() {
        begin("READING a cell: EMPTY: 3 EMPTY, but in sum, least, most, count, which pass it over");
        tellFunction("f(x)=x");
        book().whole(1, 7);
        book().whole(3, 9);
        fails("Aa0", 3);
        reads("Dh7", "Aa0");
        fails("-Aa0", 3);
        fails("if(Aa0,1,2)", 3);
        fails("f(Aa0)", 3);
        fails("at(Aa0:Ab0,0)", 3);
        gives("at(Aa0:Ab0,1)", 7);
        fails("at(Aa0:Ab0,Aa0)", 3);
        fails("line(1,Aa0:Ab0,Ab0:Ac0)", 3);
        reads("Dh7", "Aa0");
        fails("line(1,Ab0:Ac0,Aa0:Ab0)", 3);
        reads("Dh7", "Ab0", "Ac0");
        fails("area(Aa0:Ab0,Ab0:Ac0)", 3);
        fails("root(f,Aa0,1)", 3);
        gives("sum(Aa0:Ae0)", 16);
        reads("Dh7", "Aa0", "Ab0", "Ac0", "Ad0", "Ae0");
        gives("least(Aa0:Ae0)", 7);
        gives("most(Aa0:Ae0)", 9);
        gives("count(Aa0:Ae0)", 2);
        book().empty(1);
        gives("count(Aa0:Ae0)", 1);
        book().whole(0, 0);
        gives("Aa0", 0);
        gives("count(Aa0:Ae0)", 2);
    }

    private static void readingFailedCells() {
        begin("One that FAILED, HANGS, or is on a CYCLE: what reads it HANGS: with the kind, first cell and "
            + "cause of it");
        tell("Aa0", "1%0");
        tell("Ab0", "Aa0");
        tell("Ac0", "Ab0");
        tell("Ba1", "Bb0");
        tell("Bb0", "Ba1");
        tellConstant(2, "a=1/0");
        tell("Ca0", "1");
        tell("Da0", "Ca0");
        hangs("Aa0", 1, 0, 0);
        hangs("Ab0", 1, 0, 0);
        hangs("Ac0", 1, 0, 0);
        hangs("Ba1", 9, 65, 0);
        hangs("Bb0", 9, 65, 0);
        hangs("Ca0", 10, 128, 1);
        hangs("Da0", 10, 128, 1);
        hangs("sum(Ah0:Ah7)+sum(Ca0:Cb0)", 10, 128, 1);
        hangs("count(Aa0:Ac0)", 1, 0, 0);
        hangs("least(Bb0:Bb0)", 9, 65, 0);
        hangs("most(Ca0:Ca0)", 10, 128, 1);
        hangs("at(Aa0:Ac0,2)", 1, 0, 0);
        hangs("line(Aa0,Ba0:Bb0,Ba0:Bb0)", 1, 0, 0);
        hangs("line(1,Ca0:Cb0,Aa0:Ab0)", 10, 128, 1);
        hangs("area(Aa0:Ab0,Ca0:Cb0)", 1, 0, 0);
        hangs("1+Aa0*Ca0", 1, 0, 0);
        // The first one that is read.
        hangs("Ca0+Aa0", 10, 128, 1);
        hangs("try(Aa0,Ca0)", 10, 128, 1);
        fails("try(Aa0,Ah0)", 3);
        hangs("try(Ah0,Aa0)", 1, 0, 0);
        due("the reads of what HANGS", book().trace(255, 1), 0);
    }

    private static void byRows() {
        begin("R is read by rows, each from the left");
        for (int i = 0; i < 64; i++) {
            book().whole(64 + i, i);
        }
        gives("count(Bb1:Bd2)", 6);
        reads("Dh7", "Bb1", "Bc1", "Bd1", "Bb2", "Bc2", "Bd2");
        gives("sum(Bh6:Bh7)", 55 + 63);
        reads("Dh7", "Bh6", "Bh7");
        gives("sum(Bg7:Bh7)", 62 + 63);
        reads("Dh7", "Bg7", "Bh7");
        gives("at(Ba0:Bh7,63)", 63);
        gives("at(Bb1:Bd2,3)", 17);
        gives("at(Bb1:Bb7,3)", 8 * 4 + 1);
        gives("at(Bb1:Bh1,3)", 12);
        givesReal("line(17,Bb1:Bd2,Bb3:Bd4)", 33.0);
        gives("sum(Ba0:Bh7)", 63 * 32);
        needed("Dh7", ofSheet('B'));
    }

    private static String[] ofSheet(char sheet) {
        String[] all = new String[64];
        for (int i = 0; i < 64; i++) {
            all[i] = "" + sheet + (char) ('a' + i % 8) + i / 8;
        }
        return all;
    }

    private static void sums() {
        begin("sum: the first one that is there, and each of the others added by + ; LONG 0 without any");
        gives("sum(Aa0:Aa0)", 0);
        gives("sum(Aa0:Ah7)", 0);
        book().whole(1, GREATEST_LONG);
        gives("sum(Aa0:Ah0)", GREATEST_LONG);
        book().whole(3, 1);
        gives("sum(Aa0:Ah0)", LEAST_LONG);
        book().number(4, 5, 1);
        givesReal("sum(Aa0:Ah0)", -0x1p63 + 0.5);
        givesReal("sum(Ad0:Ae0)", 1.5);
        givesReal("sum(Ae0:Ae0)", 0.5);
        tell("Ba0", "-0.0");
        tell("Bb0", "-0.0");
        givesReal("sum(Ba0:Bb0)", -0.0);
        givesReal("sum(Ba0:Ba0)", -0.0);
        book().whole(at("Bc0"), 0);
        givesReal("sum(Ba0:Bc0)", 0.0);
        // LONGS come together as LONGS, up to the first DOUBLE.
        book().whole(at("Ca0"), 1L << 53);
        book().whole(at("Cb0"), 1);
        book().number(at("Cc0"), 10, 1);
        givesReal("sum(Ca0:Cb0)+0.0", 0x1p53);
        gives("sum(Ca0:Cb0)", (1L << 53) + 1);
        givesReal("sum(Ca0:Cc0)", 0x1p53);
        givesReal("Ca0+(Cb0+Cc0)", 0x1p53 + 2);
    }

    private static void leastAndMost() {
        begin("least: the first one, in its place each one that is < it; most: likewise; without any: 3 EMPTY");
        fails("least(Aa0:Aa0)", 3);
        fails("most(Aa0:Aa0)", 3);
        fails("least(Aa0:Ah7)", 3);
        fails("most(Aa0:Ah7)", 3);
        book().whole(1, 5);
        gives("least(Aa0:Ah7)", 5);
        gives("most(Aa0:Ah7)", 5);
        book().number(2, 50, 1);
        gives("least(Aa0:Ah7)", 5);
        gives("most(Aa0:Ah7)", 5);
        givesReal("least(Ac0:Ah7)", 5.0);
        book().whole(3, 5);
        givesReal("least(Ac0:Ah7)", 5.0);
        givesReal("most(Ac0:Ah7)", 5.0);
        book().whole(4, 6);
        book().whole(5, 4);
        gives("least(Aa0:Ah7)", 4);
        gives("most(Aa0:Ah7)", 6);
        tell("Ba0", "-0.0");
        book().number(at("Bb0"), 0, 0);
        givesReal("least(Ba0:Bb0)", -0.0);
        givesReal("most(Ba0:Bb0)", -0.0);
        book().whole(at("Ca0"), LEAST_LONG);
        book().whole(at("Cb0"), GREATEST_LONG);
        gives("least(Ca0:Cb0)", LEAST_LONG);
        gives("most(Ca0:Cb0)", GREATEST_LONG);
        mixedLeastAndMost();
    }

    private static void mixedLeastAndMost() {
        again();
        // LONGS as such, though they are alike as DOUBLES.
        book().whole(0, (1L << 53) + 1);
        book().whole(1, 1L << 53);
        book().whole(2, (1L << 53) + 1);
        gives("least(Aa0:Ab0)", 1L << 53);
        gives("most(Ab0:Ac0)", (1L << 53) + 1);
        book().whole(at("Ba0"), 3);
        book().number(at("Bb0"), 25, 1);
        book().whole(at("Bc0"), 2);
        book().number(at("Bd0"), 35, 1);
        givesReal("least(Ba0:Bb0)", 2.5);
        gives("most(Ba0:Bb0)", 3);
        gives("least(Bb0:Bc0)", 2);
        givesReal("most(Bb0:Bc0)", 2.5);
        gives("least(Bc0:Bd0)", 2);
        givesReal("most(Bc0:Bd0)", 3.5);
        gives("least(Ba0:Bd0)", 2);
        givesReal("most(Ba0:Bd0)", 3.5);
        // As DOUBLES these are alike, so the first one stays.
        book().number(at("Da0"), 1L << 53, 0);
        book().whole(at("Db0"), (1L << 53) + 1);
        givesReal("most(Da0:Db0)", 0x1p53);
        gives("most(Db0:Dc0)", (1L << 53) + 1);
    }

    private static void counts() {
        begin("count: how many are there");
        gives("count(Aa0:Aa0)", 0);
        gives("count(Aa0:Ah7)", 0);
        book().whole(0, 0);
        gives("count(Aa0:Aa0)", 1);
        gives("count(Aa0:Ah7)", 1);
        book().number(63, 0, 0);
        gives("count(Aa0:Ah7)", 2);
        gives("count(Ab0:Ah7)", 1);
        for (int i = 0; i < 64; i++) {
            book().whole(64 + i, i);
        }
        gives("count(Ba0:Bh7)", 64);
        book().empty(64);
        gives("count(Ba0:Bh7)", 63);
    }

    private static void doneAsEachIsRead() {
        begin("in sum, least, most what is told is done as each one is read");
        tellExtremes();
        tell("Da0", "Cb0");
        tell("Db0", "Cb0");
        tell("Dc0", "1/0");
        fails("sum(Da0:Dc0)", 5);
        reads("Dh7", "Da0", "Db0");
        tell("Dd0", "1/0");
        tell("Dc0", "Cb0");
        tell("Db0", "-Cb0");
        hangs("sum(Da0:Dd0)", 1, at("Dd0"), 0);
        reads("Dh7", "Da0", "Db0", "Dc0", "Dd0");
        hangs("most(Dd0:De0)", 1, at("Dd0"), 0);
        reads("Dh7", "Dd0");
        givesReal("sum(Da0:Dc0)", GREATEST);
        // Added the other way they would be beyond.
        tell("Db0", "Cb0");
        tell("Dc0", "-Cb0");
        fails("sum(Da0:Dc0)", 5);
    }

    private static void indexes() {
        begin("at ( R , i ): if it is a DOUBLE: 11 SORT; if it is below 0 or not below the number of cells: 2 INDEX");
        for (int i = 0; i < 6; i++) {
            book().whole(i, 10 + i);
            book().whole(8 + i, 20 + i);
        }
        book().whole(32, LEAST_LONG);
        book().whole(33, GREATEST_LONG);
        gives("at(Aa0:Ac1,0)", 10);
        gives("at(Aa0:Ac1,2)", 12);
        gives("at(Aa0:Ac1,3)", 20);
        gives("at(Aa0:Ac1,5)", 22);
        fails("at(Aa0:Ac1,6)", 2);
        fails("at(Aa0:Ac1,-1)", 2);
        fails("at(Aa0:Ac1,Aa4)", 2);
        fails("at(Aa0:Ac1,Ab4)", 2);
        fails("at(Aa0:Ac1,4294967296)", 2);
        fails("at(Aa0:Ac1,4294967297)", 2);
        fails("at(Aa0:Ac1,1.0)", 11);
        fails("at(Aa0:Ac1,-0.0)", 11);
        fails("at(Aa0:Ac1,-1.0)", 11);
        fails("at(Aa0:Ac1,6.0)", 11);
        fails("at(Aa0:Ac1,real(Ab4))", 11);
        gives("at(Aa0:Aa0,0)", 10);
        fails("at(Aa0:Aa0,1)", 2);
        gives("at(Aa0:Ac1,cut(1.0))", 11);
        gives("try(at(Aa0:Ac1,6),1)+try(at(Aa0:Ac1,1.0),2)", 3);
    }

    private static void thatCellAlone() {
        begin("i is worked out; otherwise that cell alone is read (from 0, in the order of reading)");
        book().whole(1, 7);
        tell("Aa0", "1/0");
        gives("at(Aa0:Ac0,1)", 7);
        reads("Dh7", "Ab0");
        hangs("at(Aa0:Ac0,0)", 1, 0, 0);
        reads("Dh7", "Aa0");
        fails("at(Aa0:Ac0,2)", 3);
        reads("Dh7", "Ac0");
        fails("at(Aa0:Ac0,3)", 2);
        reads("Dh7");
        gives("at(Aa0:Ac0,Ab0-6)", 7);
        reads("Dh7", "Ab0", "Ab0");
        fails("at(Aa0:Ac0,1/0)", 1);
        reads("Dh7");
        needed("Dh7", "Aa0", "Ab0", "Ac0");
    }

    private static void tellTable() {
        again();
        int[] xs = {0, 10, 20, 40};
        int[] ys = {5, 7, -3, 1};
        for (int i = 0; i < 4; i++) {
            book().whole(i, xs[i]);
            book().whole(8 + i, ys[i]);
        }
    }

    private static void tablesOfUnlikeNumbers() {
        begin("if R and S have unlike numbers of cells, or one alone: 7 TABLE");
        tellTable();
        givesReal("line(5,Aa0:Ab0,Aa1:Ab1)", 6.0);
        fails("line(5,Aa0:Aa0,Aa1:Aa1)", 7);
        fails("line(5,Aa0:Ab0,Aa1:Ac1)", 7);
        fails("line(5,Aa0:Ac0,Aa1:Ab1)", 7);
        fails("line(5,Aa0:Aa0,Aa1:Ab1)", 7);
        fails("line(5,Aa0:Ab0,Aa1:Aa1)", 7);
        givesReal("area(Aa0:Ab0,Aa1:Ab1)", 60.0);
        fails("area(Aa0:Aa0,Aa1:Aa1)", 7);
        fails("area(Aa0:Ab0,Aa1:Ac1)", 7);
        fails("area(Aa0:Ac0,Aa1:Ab1)", 7);
        fails("area(Aa0:Aa0,Aa1:Ab1)", 7);
        // Rows of other shapes with the same number of cells are fine: 0, 10, 20, 40 and 0, 10, 5, 7.
        givesReal("line(20,Aa0:Ad0,Aa0:Ab1)", 5.0);
        givesReal("line(30,Aa0:Ad0,Aa0:Ab1)", 6.0);
        givesReal("area(Aa0:Ad0,Aa0:Ab1)", 50.0 + 75.0 + 120.0);
    }

    private static void tablesThatRise() {
        begin("or one of R is not above the one before it: 7 TABLE");
        tellTable();
        book().whole(1, 1);
        givesReal("line(99,Aa0:Ad0,Aa1:Ad1)", 1.0);
        book().whole(1, 0);
        fails("line(99,Aa0:Ad0,Aa1:Ad1)", 7);
        book().whole(1, -1);
        fails("line(99,Aa0:Ad0,Aa1:Ad1)", 7);
        fails("line(-99,Aa0:Ad0,Aa1:Ad1)", 7);
        book().whole(1, 10);
        book().whole(3, 20);
        fails("line(0,Aa0:Ad0,Aa1:Ad1)", 7);
        book().whole(3, 21);
        givesReal("line(0,Aa0:Ad0,Aa1:Ad1)", 5.0);
        tell("Aa0", "-0.0");
        book().number(1, 0, 0);
        fails("line(0,Aa0:Ad0,Aa1:Ad1)", 7);
        // As DOUBLES these are not above one another.
        book().whole(2, 1L << 53);
        book().whole(3, (1L << 53) + 1);
        fails("line(0,Ac0:Ad0,Aa1:Ab1)", 7);
        book().whole(3, (1L << 53) + 2);
        givesReal("line(0,Ac0:Ad0,Aa1:Ab1)", 5.0);
        givesReal("area(Ac0:Ad0,Aa1:Ab1)", 12.0);
        // area has no order.
        givesReal("area(Aa1:Ad1,Aa1:Ad1)", (49.0 - 25) / 2 + (9.0 - 49) / 2 + (1.0 - 9) / 2);
    }

    private static void allIsReadBeforeTheTable() {
        begin("x, then all of R, then all of S, as DOUBLES; then .. 7 TABLE");
        tellTable();
        fails("line(Ah7,Aa0:Aa0,Aa1:Ab1)", 3);
        reads("Dh7", "Ah7");
        fails("line(1,Aa0:Aa0,Ag1:Ah1)", 3);
        reads("Dh7", "Aa0", "Ag1");
        fails("line(1,Aa1:Ad1,Aa0:Ad0)", 7);
        reads("Dh7", "Aa1", "Ab1", "Ac1", "Ad1", "Aa0", "Ab0", "Ac0", "Ad0");
        fails("area(Aa0:Ab0,Aa1:Ac1)", 7);
        reads("Dh7", "Aa0", "Ab0", "Aa1", "Ab1", "Ac1");
        fails("area(Aa0:Ab0,Ag1:Ah1)", 3);
        reads("Dh7", "Aa0", "Ab0", "Ag1");
        fails("line(1/0,Aa0:Aa0,Aa1:Aa1)", 1);
        reads("Dh7");
    }

    private static void endsOfLines() {
        begin("With x not above the first of R: the first of S; not below the last: the last of S");
        tellTable();
        givesReal("line(-99,Aa0:Ad0,Aa1:Ad1)", 5.0);
        givesReal("line(-0.00000000000001,Aa0:Ad0,Aa1:Ad1)", 5.0);
        givesReal("line(0,Aa0:Ad0,Aa1:Ad1)", 5.0);
        givesReal("line(-0.0,Aa0:Ad0,Aa1:Ad1)", 5.0);
        givesReal("line(1,Aa0:Ad0,Aa1:Ad1)", 5.0 + 2.0 * (1.0 / 10.0));
        givesReal("line(39,Aa0:Ad0,Aa1:Ad1)", -3.0 + 4.0 * (19.0 / 20.0));
        givesReal("line(40,Aa0:Ad0,Aa1:Ad1)", 1.0);
        givesReal("line(40.0000000001,Aa0:Ad0,Aa1:Ad1)", 1.0);
        givesReal("line(999,Aa0:Ad0,Aa1:Ad1)", 1.0);
        tell("Aa2", "-0.0");
        tell("Ab2", "-0.0");
        givesReal("line(0,Aa0:Ab0,Aa2:Ab2)", -0.0);
        givesReal("line(10,Aa0:Ab0,Aa2:Ab2)", -0.0);
        tell("Ah6", "line(5,Aa0:Ab0,Aa2:Ab2)");
        givesReal("Ah6", -0.0 + 0.0 * 0.5);
        book().whole(0, LEAST_LONG);
        book().whole(3, GREATEST_LONG);
        givesReal("line(Aa0,Aa0:Ad0,Aa1:Ad1)", 5.0);
        givesReal("line(Ad0,Aa0:Ad0,Aa1:Ad1)", 1.0);
    }

    private static void insideOfLines() {
        begin("p being the last of R that is not above x .. each by one rounding, in this order");
        tellTable();
        givesReal("line(10,Aa0:Ad0,Aa1:Ad1)", 7.0);
        givesReal("line(20,Aa0:Ad0,Aa1:Ad1)", -3.0);
        givesReal("line(9.9999999999,Aa0:Ad0,Aa1:Ad1)", 5.0 + 2.0 * (9.9999999999 / 10.0));
        givesReal("line(10.0000000001,Aa0:Ad0,Aa1:Ad1)", 7.0 + -10.0 * ((10.0000000001 - 10.0) / 10.0));
        // At one of R it is just the one of S, though 2^60 + (0.1 - 2^60) is not 0.1.
        book().whole(at("Ba0"), 1L << 60);
        book().number(at("Bb0"), 1, 1);
        book().whole(at("Bc0"), 5);
        givesReal("line(10,Aa0:Ac0,Ba0:Bc0)", 0.1);
        givesReal("line(9.5,Aa0:Ac0,Ba0:Bc0)", 0x1p60 + (0.1 - 0x1p60) * (9.5 / 10.0));
        long[][] numbers = {{1, 7, 11, 13}, {3, 11, -7, 29}};
        for (int i = 0; i < 4; i++) {
            book().number(i, numbers[0][i], 1);
            book().number(8 + i, numbers[1][i], 1);
        }
        for (int x = 2; x < 13; x++) {
            if (x != 7 && x != 11) {
                int k = x < 7 ? 0 : x < 11 ? 1 : 2;
                double p = numbers[0][k] / 10.0;
                double q = numbers[0][k + 1] / 10.0;
                double a = numbers[1][k] / 10.0;
                double b = numbers[1][k + 1] / 10.0;
                double t = (x / 10.0 - p) / (q - p);
                givesReal("line(" + x + "/10.0,Aa0:Ad0,Aa1:Ad1)", a + (b - a) * t);
            }
        }
    }

    private static void linesBeyond() {
        begin("5 BEYOND where one is infinite (line)");
        tellExtremes();
        tell("Da0", "-Ca0");
        tell("Db0", "Ca0");
        tell("Da1", "-Ca0");
        tell("Db1", "Ca0*0.9");
        book().whole(at("Da2"), 0);
        book().whole(at("Db2"), 1);
        // q - p
        fails("line(0,Da0:Db0,Da2:Db2)", 5);
        givesReal("line(0,Da1:Db1,Da2:Db2)", 0.0 + 1.0 * (0x1p1023 / (0x1p1023 * 0.9 + 0x1p1023)));
        // b - a
        fails("line(0.5,Da2:Db2,Da0:Db0)", 5);
        double height = 0x1p1023 * 0.9 + 0x1p1023;
        givesReal("line(0.5,Da2:Db2,Da1:Db1)", -0x1p1023 + height * 0.5);
        // At the ends nothing is worked out.
        givesReal("line(-Ca0,Da0:Db0,Da2:Db2)", 0.0);
        givesReal("line(Ca0,Da0:Db0,Da2:Db2)", 1.0);
        givesReal("line(0,Da2:Db2,Da0:Db0)", -0x1p1023);
        givesReal("line(1,Da2:Db2,Da0:Db0)", 0x1p1023);
    }

    private static void tablesOfSheets() {
        begin("line, area: of all 64 cells of a SHEET");
        for (int i = 0; i < 64; i++) {
            book().whole(i, i);
            book().whole(64 + i, 2 * i);
        }
        givesReal("line(0,Aa0:Ah7,Ba0:Bh7)", 0.0);
        givesReal("line(0.5,Aa0:Ah7,Ba0:Bh7)", 1.0);
        givesReal("line(7.5,Aa0:Ah7,Ba0:Bh7)", 15.0);
        givesReal("line(62.5,Aa0:Ah7,Ba0:Bh7)", 125.0);
        givesReal("line(63,Aa0:Ah7,Ba0:Bh7)", 126.0);
        givesReal("area(Aa0:Ah7,Ba0:Bh7)", 63.0 * 63.0);
        fails("line(1,Aa0:Ah7,Ba0:Bg7)", 7);
        fails("area(Aa0:Ah7,Bb0:Bh7)", 7);
    }

    private static void areasUnderCurves() {
        begin("area: from 0.0 on, for each two that follow in R: (q - p) * (a + b) / 2.0 is added");
        tellTable();
        givesReal("area(Aa0:Ad0,Aa1:Ad1)", 60.0 + 20.0 - 20.0);
        givesReal("area(Ac0:Ad0,Ac1:Ad1)", -20.0);
        for (int i = 0; i < 4; i++) {
            book().number(i, 3 - i * i, 1);
            book().number(8 + i, 7 + 10 * i, 2);
        }
        double[] r = {0.3, 0.2, -0.1, -0.6};
        double[] s = {0.07, 0.17, 0.27, 0.37};
        double all = 0.0;
        for (int i = 0; i < 3; i++) {
            all += (r[i + 1] - r[i]) * (s[i] + s[i + 1]) / 2.0;
        }
        givesReal("area(Aa0:Ad0,Aa1:Ad1)", all);
        tell("Aa2", "-0.0");
        tell("Ab2", "-0.0");
        givesReal("area(Aa2:Ab2,Aa2:Ab2)", 0.0);
        givesReal("area(Aa0:Ab0,Aa2:Ab2)", 0.0);
    }

    private static void areasBeyond() {
        begin("5 BEYOND where one of q - p, a + b, their product, the sum is infinite");
        tellExtremes();
        tell("Da0", "-Ca0");
        tell("Db0", "Ca0");
        tell("Dc0", "Ca0");
        book().whole(at("Da1"), 0);
        book().whole(at("Db1"), 0);
        book().whole(at("Dc1"), 1);
        // q - p, with a + b of 0
        fails("area(Da0:Db0,Da1:Db1)", 5);
        // a + b, with q - p of 0
        fails("area(Da1:Db1,Db0:Dc0)", 5);
        givesReal("area(Da1:Dc1,Da1:Dc1)", 0.5);
        // Their product, though half of it is not infinite.
        book().whole(at("Da2"), 0);
        tell("Db2", "Ca0");
        book().whole(at("Da3"), 1);
        book().whole(at("Db3"), 1);
        fails("area(Da2:Db2,Da3:Db3)", 5);
        book().number(at("Db3"), 9, 1);
        givesReal("area(Da2:Db2,Da3:Db3)", 0x1p1023 * 1.9 / 2.0);
        sumOfAreasBeyond();
    }

    private static void sumOfAreasBeyond() {
        tellExtremes();
        tell("Da0", "-Ca0*0.9");
        tell("Db0", "-Ca0*0.3");
        tell("Dc0", "Ca0*0.3");
        tell("Dd0", "Ca0*0.9");
        tell("De0", "Ca0*0.3");
        for (int i = 0; i < 5; i++) {
            book().number(at("Da1") + i, 16, 1);
        }
        // Each one that is added is 0.96 of 2^1023; the third is too much, though the fourth would be taken away.
        double first = (-0x1p1023 * 0.3 + 0x1p1023 * 0.9) * 3.2 / 2.0;
        double second = (0x1p1023 * 0.3 + 0x1p1023 * 0.3) * 3.2 / 2.0;
        givesReal("area(Da0:Db0,Da1:Db1)", first);
        givesReal("area(Da0:Dc0,Da1:Dc1)", first + second);
        fails("area(Da0:Dd0,Da1:Dd1)", 5);
        fails("area(Da0:De0,Da1:De1)", 5);
    }

    private static void noRoot() {
        begin("If both are below 0, or neither is: 6 NO ROOT");
        tellFunction("i(x)=x");
        tellFunction("n(x)=-x");
        tellFunction("c(x)=cut(x)");
        fails("root(i,1,2)", 6);
        fails("root(i,-2,-1)", 6);
        fails("root(i,0,1)", 6);
        fails("root(i,-0.0,1)", 6);
        fails("root(i,0,0)", 6);
        fails("root(c,-0.5,1)", 6);
        fails("root(n,0,-1)", 6);
        // 0 is not below 0.
        tell("Dh7", "root(i,-1,0)");
        book().recalculate();
        due("state", book().state(255), 2);
        tell("Dh7", "root(n,0,1)");
        book().recalculate();
        due("state", book().state(255), 2);
        tell("Dh7", "root(c,-1,0)");
        book().recalculate();
        due("state", book().state(255), 2);
        gives("try(root(i,1,2),7)", 7);
    }

    private static void orderInRoots() {
        begin("a and b as DOUBLES, low and high; then f of low, f of high");
        tellFunction("t(n)=t(n)");
        tellFunction("f(x)=if(x<1,1/0,t(1))");
        fails("root(f,0,2)", 1);
        fails("root(f,2,0)", 4);
        fails("root(f,1/0,Aa0)", 1);
        reads("Dh7");
        fails("root(f,Aa0,1/0)", 3);
        book().whole(0, -7);
        book().whole(1, 7);
        tellFunction("g(x)=x/2");
        tell("Dh7", "root(g,Aa0,Ab0)");
        book().recalculate();
        reads("Dh7", "Aa0", "Ab0");
        // g gets DOUBLES: 1/2 of LONGS would be 0.
        tellFunction("g(x)=x/2-0.25");
        givesReal("root(g,0,1)", root(x -> x / 2 - 0.25, 0, 1));
        tellFunction("h(x)=x-cut(x)-0.5");
        givesReal("root(h,0,0.75)", root(x -> x - (long) x - 0.5, 0, 0.75));
    }

    private static double root(DoubleUnaryOperator f, double a, double b) {
        double low = a;
        double high = b;
        boolean below = f.applyAsDouble(low) < 0;
        for (int i = 0; i < 60; i++) {
            double m = low + (high - low) * 0.5;
            if (f.applyAsDouble(m) < 0 == below) {
                low = m;
            } else {
                high = m;
            }
        }
        return low + (high - low) * 0.5;
    }

    private static void sixtyHalvings() {
        begin("Else 60 times: m is low + (high - low) * 0.5 .. It gives low + (high - low) * 0.5");
        tellFunction("f(x)=x-0.3");
        tellFunction("g(x)=0.3-x");
        tellFunction("h(x)=x*x-2");
        tellFunction("k(x)=if(x<0.7,0-1,0)");
        givesReal("root(f,0,1)", root(x -> x - 0.3, 0, 1));
        givesReal("root(f,1,0)", root(x -> x - 0.3, 1, 0));
        givesReal("root(g,0,1)", root(x -> 0.3 - x, 0, 1));
        givesReal("root(g,1,0)", root(x -> 0.3 - x, 1, 0));
        givesReal("root(h,0,2)", root(x -> x * x - 2, 0, 2));
        givesReal("root(h,-2,0)", root(x -> x * x - 2, -2, 0));
        givesReal("root(k,0,1)", root(x -> x < 0.7 ? -1 : 0, 0, 1));
        // So wide that 59 or 61 times would give something else.
        double wide = 900000000000000000.0;
        givesReal("root(f,-900000000000000000,900000000000000000)", root(x -> x - 0.3, -wide, wide));
        givesReal("root(f,900000000000000000,-800000000000000000)", root(x -> x - 0.3, wide, -800000000000000000.0));
        givesReal("root(g,-900000000000000000,900000000000000000)", root(x -> 0.3 - x, -wide, wide));
    }

    private static void rootsBeyond() {
        begin("m is low + (high - low) * 0.5 (5 BEYOND where one is infinite)");
        tellExtremes();
        tellFunction("i(x)=x");
        fails("root(i,-Ca0,Ca0)", 5);
        fails("root(i,Cb0,-Cb0)", 5);
        givesReal("root(i,-Ca0,Ca0*0.9)", root(x -> x, -0x1p1023, 0x1p1023 * 0.9));
        // f is asked first.
        tellFunction("n(x)=1");
        fails("root(n,-Cb0,Cb0)", 6);
        tellFunction("d(x)=1/cut(x-x)");
        fails("root(d,-Cb0,Cb0)", 1);
        gives("try(root(i,-Ca0,Ca0),7)", 7);
    }

    private static void twentyCalls() {
        begin("4 DEEP if 20 CALLS of FUNCTIONS are under way");
        tellFunction("t(n)=if(n<1,0,t(n-1)+1)");
        tellFunction("b(n)=n");
        tellFunction("a(n)=if(n<1,0,b(n-1)+1)");
        tellFunction("b(n)=if(n<1,0,a(n-1)+1)");
        gives("t(18)", 18);
        gives("t(19)", 19);
        fails("t(20)", 4);
        fails("t(21)", 4);
        gives("a(19)", 19);
        fails("a(20)", 4);
        // Other PARTS are no CALLS of FUNCTIONS.
        gives("-cut(if(1,try(t(19),0),0))", -19);
        gives("try(t(20),7)", 7);
        fails("try(1/0,t(20))", 4);
        tellFunction("c(n)=try(c(n+1),n)");
        gives("c(1)", 20);
        tellConstant(0, "k=t(19)");
        tellConstant(1, "k=t(20)");
        book().recalculate();
        constantIs(0, 0, 1, 19, 0);
        constantIs(1, 0, 3, 0, 4);
    }

    private static void callsOfRoots() {
        begin("f of low, f of high (as CALLS): DEEP too");
        tellFunction("i(x)=x");
        tellFunction("r(n)=if(n<1,root(i,0-1,2),r(n-1))");
        tellFunction("t(n)=if(n<1,n,t(n-1))");
        givesReal("r(18)", root(x -> x, -1, 2));
        fails("r(19)", 4);
        fails("r(20)", 4);
        gives("try(r(19),7)", 7);
        givesReal("root(t,-1,19.5)", root(WorkingOutBoundaryTest::fromBelowOne, -1, 19.5));
        fails("root(t,-1,20)", 4);
        fails("root(t,20,-1)", 4);
        // A root in a root takes its CALLS back; 62 roots take too many STEPS.
        tellFunction("w(x)=root(i,x-1,x+2)-x");
        givesReal("w(0)", root(x -> x, -1, 2));
        fails("w(2)", 6);
        fails("root(w,2,0)", 6);
        fails("root(w,-0.5,0.5)", 8);
    }

    private static double fromBelowOne(double x) {
        double n = x;
        while (n >= 1) {
            n = n - 1;
        }
        return n;
    }

    private static void endedCalls() {
        begin("CALLS that ended, or FAILED, are not under way; its ARGUMENTS are worked out ahead of the CALL");
        tellFunction("t(n)=if(n<1,0,t(n-1)+1)");
        gives("t(19)+t(19)+t(19)", 57);
        gives("t(t(t(19)))", 19);
        gives("try(t(20),0)+t(19)", 19);
        gives("try(t(20),t(19))", 19);
        tellFunction("d(n)=if(n<1,1/0,d(n-1))");
        gives("try(d(19),t(19))", 19);
        gives("try(d(5),try(d(6),t(19)))", 19);
        tellFunction("u(n)=try(d(n),t(n))");
        gives("u(18)", 18);
        fails("u(19)", 4);
    }
}
