/** Where two or more sentences of the document meet in one call; each method names those that meet. */
public final class MeetingSentencesTest extends Bench {
    public static void main(String[] args) {
        firstFaultsAndLaterOnes();
        laterFaultsOfOneText();
        faultsAndRoom();
        stepsOfRootsAndTries();
        spentThroughCellsAndSheets();
        stepsAndDeep();
        triesAndFunctions();
        triesAndRoots();
        triesAndAreas();
        readsOfIndexesAndTables();
        readsAndWhatFails();
        toldTwice();
        formulasThatAreGone();
        emptiedCells();
        functionsThatReachThemselves();
        constantsThatReach();
        cyclesOfSeveralSheets();
        spoiledInOrder();
        hangingOnSpoiled();
        unchangedNeeds();
        brokenCycles();
        refusedTexts();
        firstCodes();
        whatStandsUntilRecalculate();
        editionsAndTellings();
        end();
    }

    /** "1+1+..+1", with n ones: 2 * n - 1 PARTS, and as many bytes. */
    private static String ones(int n) {
        return times(n - 1, "1+") + "1";
    }

    // ---- FAULTS

    private static void firstFaultsAndLaterOnes() {
        begin("The first one by its place; of one place the least number. If there is none: 4 ..");
        // A NAME that is none there stands ahead of a FAULT of each lesser number.
        formulaFault("no+no(no)+&", 1, 10);
        formulaFault("no+no(no)+)", 2, 10);
        formulaFault("no+no(no)+", 2, 10);
        formulaFault("no+" + times(11, "(") + "1" + times(11, ")"), 3, 13);
        formulaFault("no+" + ones(20), 3, 41);
        // The 41st PART is itself a NAME that is none there, then a CALL of none, an R of two SHEETS, a root of none.
        formulaFault(ones(20) + "+no", 3, 40);
        formulaFault(ones(20) + "+no(1)", 3, 40);
        formulaFault("--" + ones(19) + "+no", 3, 40);
        formulaFault("-" + ones(19) + "+no", 4, 39);
        formulaFault("-" + ones(19) + "+sum(Aa0:Ba0)", 3, 43);
        formulaFault(ones(19) + "+sum(Aa0:Ba0)", 4, 42);
        formulaFault("--" + ones(18) + "+root(no,1,2)", 3, 48);
        formulaFault("-" + ones(18) + "+root(no,1,2)", 4, 42);
        // A WORD is no NAME: it does not go on, whatever is none there.
        formulaFault("no+if", 2, 5);
        formulaFault("no+root(if,1,2)", 2, 8);
        functionFault("if(x,x)=no", 2, 0);
        functionFault("f(x,if)=no", 2, 4);
        constantFault("real=no", 2, 0);
        // A head of another sort.
        functionFault("f=no", 2, 1);
        constantFault("f(x)=no", 2, 1);
        functionFault("f(x,y,z,x)=no", 2, 7);
        functionFault("f(x,x)=", 2, 7);
        functionFault("f(x,x)=abcdefghi", 1, 7);
        functionFault("f(x,x)=" + ones(21), 3, 47);
        // Blanks are none of the bytes that are looked at, but of those that are counted.
        formulaFault("  no  ", 4, 2);
        formulaFault("  no + ", 2, 7);
        formulaFault("  no +  &", 1, 8);
    }

    private static void laterFaultsOfOneText() {
        begin("Of these the first one by its place");
        tellFunction("one(x)=x");
        tellFunction("two(x,y)=x");
        // What comes to light last stands first: the number of ARGUMENTS, the second REF of an R.
        formulaFault("one(no,no)", 4, 0);
        formulaFault("two(no)", 4, 0);
        formulaFault("two(no,one(1,2))", 4, 4);
        formulaFault("two(1,one(no,2))", 4, 6);
        formulaFault("root(two,no,no)", 4, 5);
        formulaFault("root(one,1,two(1))", 4, 11);
        formulaFault("sum(Aa1:Aa0)+no", 4, 4);
        formulaFault("no+sum(Aa1:Aa0)", 4, 0);
        formulaFault("line(one(1,2),Aa0:Ba0,Ab0:Aa0)", 4, 5);
        formulaFault("line(1,Aa0:Ab0,Ab0:Aa0)+no", 4, 15);
        formulaFault("area(Aa0:Ab0,Aa0:Ba0)", 4, 13);
        // In a FUNCTION and a CONSTANT each REF is one, by its place among the others.
        functionFault("three(x,y,z)=x+Aa0+no", 4, 15);
        functionFault("three(x,y,z)=x+no+Aa0", 4, 15);
        functionFault("three(x,y,x)=Aa0", 5, 10);
        functionFault("two(x,x,x)=Aa0", 5, 0);
        functionFault("one(x,x)=one(x)", 5, 0);
        functionFault("new(x,x)=new(x)", 5, 6);
        functionFault("new(x,y)=new(x)", 4, 9);
        functionFault("new(x,y)=root(new,x,y)", 4, 14);
        due("it counts as told", tellFunction("new(x,y)=new(y,x)"), 2);
        constantFault("k=k", 4, 2);
        constantFault("k=sum(Ab0:Aa0)+k", 4, 6);
        constantFault("k=two(Aa0)", 4, 2);
        // A NAME may be a CONSTANT, a FUNCTION and an ARGUMENT at once.
        due("a CONSTANT that bears the NAME of a FUNCTION", tellConstant(3, "one=one(4)"), 0);
        due("a FUNCTION whose ARGUMENT bears its NAME", tellFunction("new(new,one)=one(new)+one"), 2);
        gives("one(one)+new(one,10)", 4 + 4 + 10);
        formulaFault("one", 4, 0);
    }

    private static void faultsAndRoom() {
        begin("-100 less the FAULT's number. -2: no room.");
        for (int i = 0; i < 48; i++) {
            due("FORMULA " + i, tell("" + (char) ('A' + i / 16) + (char) ('a' + i % 8) + i / 8 % 2, "1"), 1);
        }
        due("no room, and a FAULT", tell("Dh7", "no"), -104);
        due("its place", book().fault(), 0);
        due("no room", tell("Dh7", "1"), -2);
        due("no FAULT", book().fault(), -1);
        due("THE TEXT was taken", book().count(5), 0);
        due("a cell that has one", tell("Aa0", "1+1"), 3);
        book().whole(0, 5);
        due("room again", tell("Dh7", "1"), 1);
        again();
        for (int i = 0; i < 8; i++) {
            due("FUNCTION " + i, tellFunction((char) ('a' + i) + "(x)=x"), i);
        }
        due("no room, and a FAULT", tellFunction("z(x)=z(x,x)"), -104);
        due("no room, though it counts as told", tellFunction("z(x)=z(x)"), -2);
        due("it is not told", tell("Aa0", "z(1)"), -104);
        due("one of its NAME has room", tellFunction("h(x)=h(x)"), 7);
        for (int i = 0; i < 5; i++) {
            due("CONSTANT " + i, tellConstant(2, (char) ('a' + i) + "=1"), i);
        }
        due("no room, and a FAULT", tellConstant(2, "z=z"), -104);
        due("no room; all stand before it", tellConstant(2, "z=a+b+c+d+e"), -2);
        due("one of its NAME has room", tellConstant(2, "e=a+b+c+d"), 4);
        due("none that stands before it", tellConstant(2, "d=e"), -104);
    }

    // ---- STEPS

    /** t(k) takes 7 + 8 * k STEPS with its WHOLE, and has k + 1 CALLS under way. */
    private static void tellCounter() {
        tellFunction("t(n)=if(n<1,0,t(n-1))");
    }

    private static void stepsOfRootsAndTries() {
        begin("(as CALLS, each a STEP more) with SPENT, which no try takes");
        tellCounter();
        // z takes 1 for the try, 3 for 1/0, 1 for the ARGUMENT: with the CALL's own 6, 62 times.
        tellFunction("z(x)=try(1/0,x)");
        // 3 for the root, 1 for the minus; all is 4 + 62 * 6 = 376.
        givesReal("root(z,-1,1)", -0x1p-60);
        // A second one, and t(19) + t(8) with two signs, are 2 * 376 + 1 + 159 + 1 + 71 + 1: 985 STEPS.
        givesReal("root(z,-1,1)+root(z,-1,1)+t(19)+t(8)", -0x1p-59);
        givesReal("root(z,-1,1)+root(z,-1,1)+t(19)+t(8)+t(0)+-----1", -1.0);
        fails("root(z,-1,1)+root(z,-1,1)+t(19)+t(8)+t(0)+------1", 8);
        // The last STEP is that of the root's 62nd CALL, of the ARGUMENT in it, or is there.
        tellFunction("i(x)=x");
        // root(i,-1,1) takes 4 + 62 * 2 = 128; ahead of it 872: 5 * (t(19) and a sign) = 800, t(8) and a sign = 72.
        String ahead = "t(19)+t(19)+t(19)+t(19)+t(19)+t(8)+";
        givesReal(ahead + "root(i,-1,1)", -0x1p-60);
        fails(ahead + "-root(i,-1,1)", 8);
        fails("try(" + ahead + "root(i,-1,1),5)", 8);
        fails(ahead + "try(root(i,-1,1),5)", 8);
        // A root that FAILS otherwise gives its STEPS not back: 984, the try, 3 + 2 * 2, then 8 are left for y.
        gives("t(19)+t(19)+t(19)+t(19)+t(19)+t(19)+t(2)+try(root(i,1,2),-------5)", -5);
        fails("t(19)+t(19)+t(19)+t(19)+t(19)+t(19)+t(2)+try(root(i,1,2),--------5)", 8);
    }

    private static void spentThroughCellsAndSheets() {
        begin("(one that came by reading a cell, it does) with 10 SPOILED; its cause is the kind");
        tellFunction("s(n)=s(n-1)+s(n-1)");
        tellFunction("w(n)=try(w(n),0)+try(w(n),0)");
        // s is too deep at once, w is taken until no STEPS are left.
        tellConstant(0, "k=w(1)");
        tell("Aa0", "5");
        tell("Ba0", "w(1)");
        tell("Bb0", "s(1)");
        tell("Bc0", "try(w(1),7)");
        tell("Bd0", "try(Ba0,7)");
        tell("Be0", "try(Aa0,7)");
        tell("Bf0", "Aa0+Ba0");
        tell("Bg0", "Ba0+Aa0");
        tell("Bh0", "try(Ba0+1,Aa0)");
        doneCells("Aa0", "Ba0", "Bb0", "Bc0", "Bd0", "Be0", "Bf0", "Bg0", "Bh0");
        constantIs(0, 0, 3, 0, 8);
        failed(0, 10, 0, 8);
        failed(64, 8, 64, 0);
        failed(65, 4, 65, 0);
        failed(66, 8, 66, 0);
        isWhole("Bd0", 7);
        isWhole("Be0", 7);
        due("Bf0 HANGS", book().state(69), 5);
        failed(69, 10, 0, 8);
        reads("Bf0", "Aa0");
        failed(70, 8, 64, 0);
        reads("Bg0", "Ba0");
        failed(71, 10, 0, 8);
        reads("Bh0", "Ba0", "Aa0");
    }

    private static void stepsAndDeep() {
        begin("each a STEP more, with 4 DEEP if 20 CALLS of FUNCTIONS are under way");
        tellCounter();
        tellFunction("i(x)=x");
        tellFunction("r(n)=if(n<1,root(i,-1,1),r(n-1))");
        tellFunction("q(n)=try(if(n<1,root(i,-1,1),q(n-1)),9)");
        // Of r(19) the root's first CALL is the 21st; it takes its STEP, and is too deep.
        fails("r(19)", 4);
        gives("try(r(19),7)", 7);
        gives("q(19)", 9);
        givesReal("q(18)", -0x1p-60);
        String ahead = "t(19)+t(19)+t(19)+t(19)+t(19)+";
        // 1000 - 800 - 1 (try) = 199 are left: 2 and 19 * 8 and 4 and 4 and 1 are 163; t(2) and a sign are 24.
        gives(ahead + "t(2)+try(r(19),t(0)*0)", 0);
        fails(ahead + "t(2)+try(r(19),t(1)*0)", 8);
        fails(ahead + "t(3)+----try(r(19),7)", 8);
        gives(ahead + "t(3)+---try(r(19),0)", 0);
    }

    // ---- what FAILS

    private static void triesAndFunctions() {
        begin("What FAILS ends the PART, and those around it, but a try: with FUNCTIONS");
        tellFunction("d(x)=10/x");
        tellFunction("g(x,y)=x+try(d(y),x*100)");
        tellFunction("h(x,y)=try(x+d(y),x*1000)");
        tellFunction("m(x,y,z)=g(x,y)+g(y,z)*z");
        gives("g(3,5)", 5);
        gives("g(3,0)", 303);
        gives("h(3,0)", 3000);
        // An ARGUMENT that FAILS does so outside of the FUNCTION whose try would take it.
        fails("g(1,1/0)", 1);
        fails("g(d(0),1)", 1);
        gives("try(g(1,d(0)),-5)", -5);
        gives("m(3,0,7)", 303 + (0 + 10 / 7) * 7);
        gives("m(3,7,0)", 3 + 10 / 7 + (7 + 700) * 0);
        gives("1+try(2+g(3,0)*d(0),4)+g(5,0)", 1 + 4 + 505);
        gives("g(try(d(0),2),try(d(0),0))", 202);
        gives("h(h(1,0),h(0,0))", 1000000);
        tellFunction("n(x)=if(x<1,d(0),try(n(x-1),x)+x)");
        // n(1) is 1 + 1; the others add theirs to it.
        gives("n(5)", 1 + 1 + 2 + 3 + 4 + 5);
        fails("n(0)", 1);
    }

    private static void triesAndRoots() {
        begin("What FAILS ends the PART, and those around it, but a try: with root");
        tellFunction("d(x)=10/(cut(x*4)-3)");
        tellFunction("e(x)=try(1/(cut(x)-1),7)");
        tellFunction("o(x)=x-1");
        // d(0.75) has no answer: of 0 to 1.5 it is the first m; of 0 to 3, the second.
        fails("root(d,0,1.5)", 1);
        gives("try(root(d,0,1.5),3)+o(5)", 7);
        givesReal("try(root(d,0,3.0),root(o,0,3))+o(5)", 5.0);
        // Low or high FAILS; then nothing else is asked.
        fails("root(d,0.75,1/0)", 1);
        fails("root(d,0.75,5)", 1);
        fails("root(d,5,0.75)", 1);
        // e is -1 below 1, the try's 7 from 1 on, 1 for 2.
        givesReal("root(e,0,2)", rootOfE());
        tell("Aa0", "root(d,0,1.5)");
        hangs("try(1/0,Aa0)", 1, 0, 0);
        hangs("root(o,Aa0,1/0)", 1, 0, 0);
        fails("root(o,1/0,Aa0)", 1);
        reads("Dh7");
        fails("root(o,try(Aa0,5),try(Aa0,6))", 6);
        reads("Dh7", "Aa0", "Aa0");
    }

    private static double rootOfE() {
        double low = 0;
        double high = 2;
        for (int n = 0; n < 60; n++) {
            double m = low + (high - low) * 0.5;
            if (m < 1) {
                low = m;
            } else {
                high = m;
            }
        }
        return low + (high - low) * 0.5;
    }

    /** Aa0: 1, Ab0: it FAILS, Ac0: EMPTY, Ad0: 4, Ae0: 5.5, Af0: HANGS on Ab0. */
    private static void tellRow() {
        book().whole(at("Aa0"), 1);
        tell("Ab0", "1/0");
        book().whole(at("Ad0"), 4);
        book().number(at("Ae0"), 55, 1);
        tell("Af0", "Ab0");
    }

    private static void triesAndAreas() {
        begin("What FAILS ends the PART: an R of which some cells were read, with the READS");
        tellRow();
        hangs("sum(Aa0:Af0)", 1, 1, 0);
        reads("Dh7", "Aa0", "Ab0");
        givesReal("try(sum(Aa0:Af0),sum(Ac0:Ae0))", 9.5);
        reads("Dh7", "Aa0", "Ab0", "Ac0", "Ad0", "Ae0");
        gives("try(count(Aa0:Af0),count(Ac0:Ae0))+try(count(Ab0:Ab0),10)", 12);
        reads("Dh7", "Aa0", "Ab0", "Ac0", "Ad0", "Ae0", "Ab0");
        gives("try(least(Ac0:Ac0),try(most(Ad0:Af0),3))", 3);
        reads("Dh7", "Ac0", "Ad0", "Ae0", "Af0");
        hangs("try(most(Af0:Af0),least(Ab0:Ae0))", 1, 1, 0);
        reads("Dh7", "Af0", "Ab0");
        // A line's R is read by itself: an EMPTY cell FAILS there, whatever a sum would do.
        fails("line(1,Ac0:Ad0,Aa0:Ab0)", 3);
        reads("Dh7", "Ac0");
        gives("try(area(Ad0:Ae0,Aa0:Ab0),1)+Aa0", 2);
        reads("Dh7", "Ad0", "Ae0", "Aa0", "Ab0", "Aa0");
        // What a try took does not show: the one that FAILED last does.
        fails("try(Ab0,Ac0)", 3);
        hangs("try(Ac0,Af0)", 1, 1, 0);
        reads("Dh7", "Ac0", "Af0");
    }

    private static void readsOfIndexesAndTables() {
        begin("What is in a PART is worked out from left to right, with: that cell alone is read");
        tellRow();
        gives("at(Aa0:Af0,at(Aa0:Af0,0)+2)", 4);
        reads("Dh7", "Aa0", "Ad0");
        fails("at(Aa0:Af0,Ae0)", 11);
        reads("Dh7", "Ae0");
        fails("at(Aa0:Af0,Ad0+2)", 2);
        reads("Dh7", "Ad0");
        hangs("at(Aa0:Af0,Af0)", 1, 1, 0);
        reads("Dh7", "Af0");
        fails("at(Aa0:Af0,2)", 3);
        reads("Dh7", "Ac0");
        givesReal("line(at(Aa0:Af0,3),Ad0:Ae0,Ad0:Ae0)", 4.0);
        reads("Dh7", "Ad0", "Ad0", "Ae0", "Ad0", "Ae0");
        hangs("line(Ab0,Ac0:Ac0,Ac0:Ac0)", 1, 1, 0);
        reads("Dh7", "Ab0");
        // The cells of an R are needed, whichever of them is read.
        needed("Dh7", "Ab0", "Ac0");
        gives("at(Aa0:Af0,3)", 4);
        needed("Dh7", "Aa0", "Ab0", "Ac0", "Ad0", "Ae0", "Af0");
        book().whole(at("Ac0"), 8);
        doneCells("Dh7");
        tell("Ad0", "Dh7");
        doneCells("Ad0", "Dh7");
        cycleIs(0, at("Ad0"), 255);
    }

    private static void readsAndWhatFails() {
        begin("The READS are the cells that were read, in order, also again (24 are kept), with what FAILS");
        tellRow();
        // 23 reads, then one that FAILS is the 24th; with 24 ahead of it it is not kept, but it HANGS.
        String many = times(7, "Aa0+") + "count(Ba0:Bh1)";
        hangs(many + "+Ab0", 1, 1, 0);
        due("the 23rd", book().trace(255, 22), at("Bh1"));
        due("the 24th", book().trace(255, 23), at("Ab0"));
        due("no 25th", book().trace(255, 24), -1);
        hangs("Aa0+" + many + "+Ab0", 1, 1, 0);
        due("the 24th", book().trace(255, 23), at("Bh1"));
        due("no 25th", book().trace(255, 24), -1);
        // Those that were read in what a try gave up are among the 24.
        gives("try(" + many + "+Ab0,Ad0)", 4);
        due("the 24th", book().trace(255, 23), at("Ab0"));
        due("no 25th", book().trace(255, 24), -1);
        gives("try(Ab0,Ad0)", 4);
        reads("Dh7", "Ab0", "Ad0");
    }

    // ---- CHANGED

    private static void toldTwice() {
        begin("CHANGED are: a FORMULA, CONSTANT or FUNCTION that was told twice");
        tellFunction("f(x)=x");
        tellConstant(0, "k=1");
        tell("Aa0", "f(1)");
        tell("Ba0", "f(2)");
        tell("Bb0", "3");
        tell("Bc0", "Bb0");
        doneCells("Aa0", "Ba0", "Bb0", "Bc0");
        tell("Bb0", "4");
        tell("Bb0", "3");
        doneCells("Bb0", "Bc0");
        tellFunction("f(x)=x+1");
        tellFunction("f(x)=x");
        doneCells("Aa0", "Ba0");
        due("the CONSTANT does not reach it", book().count(11), 1);
        tellConstant(0, "k=2");
        tellConstant(0, "k=1");
        doneCells("Aa0");
        due("worked out once for both", book().count(11), 2);
        tellConstant(0, "k=f(1)");
        tellFunction("f(x)=x");
        doneCells("Aa0", "Ba0");
        due("once for all", book().count(11), 3);
        tellFunction("f(x)=x");
        tell("Ba0", "5");
        doneCells("Aa0", "Ba0");
        due("it reaches the FUNCTION", book().count(11), 4);
        doneCells();
        due("nothing was CHANGED", book().count(11), 4);
        // What was refused was not told.
        due("no FUNCTION", tellFunction("f(x,y)=x"), -105);
        due("no CONSTANT", tellConstant(0, "k=k"), -104);
        due("no FORMULA", tell("Bb0", "no"), -104);
        due("no cell", book().whole(256, 1), -1);
        due("no number", book().number(at("Bb0"), 1, 16), -2);
        doneCells();
    }

    private static void formulasThatAreGone() {
        begin("CHANGED are: those that need a cell whose FORMULA is gone");
        tell("Aa0", "1");
        tell("Ab0", "Aa0+1");
        tell("Ac0", "Ab0+1");
        doneCells("Aa0", "Ab0", "Ac0");
        book().whole(at("Ab0"), 2);
        due("it is there at once", book().state(at("Ab0")), 1);
        due("what needs it is not", book().value(at("Ac0")), 3);
        doneCells("Ac0");
        isWhole("Ac0", 3);
        // It does not need Aa0 any more, so Ac0 does not hang on that.
        book().whole(at("Aa0"), 10);
        doneCells();
        // Told and gone again before the recalculate(): told all the same.
        tell("Ab0", "Aa0");
        book().whole(at("Ab0"), 2);
        doneCells("Ac0");
        due("no READS", book().trace(at("Ab0"), 0), -1);
        tell("Ab0", "Aa0");
        book().number(at("Ab0"), 25, 1);
        tell("Ab0", "Aa0");
        due("told again", book().state(at("Ab0")), 6);
        doneCells("Ab0", "Ac0");
        isWhole("Ac0", 11);
        tell("Ac0", "5");
        book().empty(at("Ac0"));
        doneCells();
        due("its FORMULA is gone", book().state(at("Ac0")), 0);
    }

    private static void emptiedCells() {
        begin("CHANGED are: those that need a cell that was made EMPTY by an empty() that answered 1");
        tell("Aa0", "count(Ba0:Bc0)");
        tell("Ab0", "try(Ba0,-1)");
        doneCells("Aa0", "Ab0");
        due("it was EMPTY", book().empty(64), 0);
        doneCells();
        book().whole(64, 1);
        due("told since", book().empty(64), 1);
        due("EMPTY by now", book().empty(64), 0);
        doneCells("Aa0", "Ab0");
        book().whole(65, 1);
        doneCells("Aa0");
        isWhole("Aa0", 1);
        due("a cell that one of them needs", book().empty(65), 1);
        doneCells("Aa0");
        isWhole("Aa0", 0);
        tell("Bc0", "Ab0");
        due("a FORMULA that was not worked out", book().empty(66), 1);
        doneCells("Aa0");
        due("a cell that needs others", book().empty(0), 1);
        doneCells();
        book().whole(64, 7);
        doneCells("Ab0");
        isWhole("Ab0", 7);
    }

    private static void functionsThatReachThemselves() {
        begin("those whose FORMULA reaches a FUNCTION that was told, with a FUNCTION that reaches itself");
        tellFunction("a(n)=if(n<1,0,a(n-1)+1)");
        tellFunction("b(n)=n");
        tellFunction("c(n)=if(n<1,0,b(n-1)+1)");
        // b and c reach each other, and both reach a.
        tellFunction("b(n)=if(n<1,a(n),c(n-1)+1)");
        tell("Aa0", "a(3)");
        tell("Ab0", "b(3)");
        tell("Ac0", "c(3)");
        tell("Ad0", "root(c,-1,3)");
        tell("Ae0", "Ad0");
        doneCells("Aa0", "Ab0", "Ac0", "Ad0", "Ae0");
        failed(at("Ad0"), 6, at("Ad0"), 0);
        failed(at("Ae0"), 6, at("Ad0"), 0);
        tellFunction("c(n)=if(n<1,-1,b(n-1)+1)");
        doneCells("Ab0", "Ac0", "Ad0", "Ae0");
        tellFunction("b(n)=if(n<1,a(n),c(n-1)+1)");
        doneCells("Ab0", "Ac0", "Ad0", "Ae0");
        tellFunction("a(n)=if(n<1,1,a(n-1)+1)");
        doneCells("Aa0", "Ab0", "Ac0", "Ad0", "Ae0");
        isWhole("Aa0", 4);
        // c reaches b no more, so that it reaches neither itself nor a.
        tellFunction("c(n)=n");
        doneCells("Ab0", "Ac0", "Ad0", "Ae0");
        tellFunction("a(n)=n");
        doneCells("Aa0", "Ab0");
        tellFunction("b(n)=b(n)");
        doneCells("Ab0");
        failed(at("Ab0"), 4, at("Ab0"), 0);
    }

    private static void constantsThatReach() {
        begin("and the CONSTANTS of a SHEET, and all its cells with FORMULAS, if one reaches a FUNCTION that was told");
        tellFunction("f(x)=x-1");
        tellFunction("g(x)=f(x)");
        tellConstant(1, "k=5");
        tellConstant(1, "l=root(g,0,2)");
        tellConstant(1, "m=1/cut(l+0.5)");
        tell("Ba0", "1");
        tell("Aa0", "Ba0");
        tell("Ab0", "2");
        doneCells("Ab0", "Ba0", "Aa0");
        constantIs(1, 2, 1, 1, 0);
        tellFunction("f(x)=x-0.25");
        doneCells("Ba0", "Aa0");
        due("worked out twice", book().count(12), 2);
        due("no other SHEET's", book().count(11), 0);
        constantIs(1, 0, 1, 5, 0);
        constantIs(1, 2, 3, 0, 1);
        failed(64, 10, 64, 1);
        failed(0, 10, 64, 1);
        // SPOILED until its CONSTANTS are worked out anew; the cells need not be DONE with them.
        tell("Bb0", "3");
        doneCells("Bb0");
        failed(65, 10, 65, 1);
        due("not worked out for it", book().count(12), 2);
        tellFunction("g(x)=f(x)-0.75");
        tell("Bb0", "k");
        doneCells("Ba0", "Aa0", "Bb0");
        isWhole("Aa0", 1);
        isWhole("Bb0", 5);
        due("worked out anew", book().count(12), 3);
    }

    // ---- the order of what is DONE

    private static void cyclesOfSeveralSheets() {
        begin("the least one of those on a CYCLE, or all of whose CHANGED needs are DONE, with several SHEETS");
        tell("Aa0", "Da0");
        tell("Ab0", "Ba0+Ac0");
        tell("Ac0", "1");
        tell("Ba0", "Ca0");
        tell("Ca0", "Ab0");
        tell("Cb0", "Cc0");
        tell("Cc0", "Ac0");
        tell("Da0", "Ca0");
        // Ab0, Ba0 and Ca0 are on a CYCLE: they wait for nothing, not for Ac0 either.
        doneCells("Ab0", "Ac0", "Ba0", "Ca0", "Cc0", "Cb0", "Da0", "Aa0");
        cycleIs(0, 1, 64, 128);
        failed(128, 9, 1, 0);
        failed(0, 9, 1, 0);
        due("Aa0 HANGS", book().state(0), 5);
        reads("Ca0");
        reads("Da0", "Ca0");
        // Two CYCLES, the one needs the other.
        tell("Db0", "Dc0+Ca0");
        tell("Dc0", "Db0");
        doneCells("Db0", "Dc0");
        cycleIs(0, 1, 64, 128);
        cycleIs(1, at("Db0"), at("Dc0"));
        failed(at("Db0"), 9, at("Db0"), 0);
        tell("Ca0", "Dc0");
        // One CYCLE of what were two; Ab0 and Ba0 are on none any more, and wait.
        doneCells("Ca0", "Ba0", "Ab0", "Da0", "Aa0", "Db0", "Dc0");
        cycleIs(0, at("Ca0"), at("Db0"), at("Dc0"));
        due("CYCLES", book().count(4), 1);
        failed(at("Aa0"), 9, at("Ca0"), 0);
    }

    private static void spoiledInOrder() {
        begin("One on a CYCLE gets kind 9. One of a SHEET that is SPOILED FAILS with 10, in the order of all");
        tellConstant(0, "k=1/0");
        tellConstant(2, "k=1%0.0");
        tell("Aa0", "Ab0");
        tell("Ab0", "Ba0");
        tell("Ba0", "5");
        tell("Bb0", "Ac0");
        tell("Ac0", "Bb0");
        tell("Ca0", "Ba0+Aa0+Bb0");
        tell("Cb0", "7");
        // SPOILED ones wait for what they need, though they do not read it.
        doneCells("Ac0", "Ba0", "Ab0", "Aa0", "Bb0", "Ca0", "Cb0");
        failed(0, 10, 0, 1);
        failed(1, 10, 1, 1);
        failed(2, 9, 2, 0);
        due("on a CYCLE, in a SPOILED SHEET", book().state(2), 4);
        failed(65, 9, 2, 0);
        failed(128, 10, 128, 1);
        due("SPOILED is FAILED", book().state(128), 3);
        failed(129, 10, 129, 1);
        reads("Ca0");
        reads("Aa0");
        // The CYCLE is broken: what is left of it in the SPOILED SHEET is SPOILED, and what needs it HANGS.
        tell("Bb0", "6");
        doneCells("Bb0", "Ac0", "Ca0");
        failed(2, 10, 2, 1);
        isWhole("Bb0", 6);
        tellConstant(0, "k=1");
        doneCells("Ab0", "Aa0", "Ac0", "Ca0");
        isWhole("Aa0", 5);
        isWhole("Ac0", 6);
        failed(128, 10, 128, 1);
    }

    private static void hangingOnSpoiled() {
        begin("what reads it HANGS: it FAILS with the kind, first cell and cause of that one, with 10 SPOILED");
        tellFunction("f(x)=f(x)");
        tellConstant(0, "k=f(1)");
        tell("Aa0", "1");
        tell("Ba0", "Aa0");
        tell("Bb0", "Ba0");
        tell("Bc0", "try(Bb0,Ba0)");
        tell("Bd0", "try(Bb0,1/0)");
        tell("Be0", "try(1/0,Bb0)");
        tell("Ca0", "Bc0");
        tellConstant(2, "k=1+1/0");
        doneCells("Aa0", "Ba0", "Bb0", "Bc0", "Bd0", "Be0", "Ca0");
        failed(0, 10, 0, 4);
        failed(64, 10, 0, 4);
        failed(65, 10, 0, 4);
        failed(66, 10, 0, 4);
        failed(67, 1, 67, 0);
        failed(68, 10, 0, 4);
        // A cell of a SPOILED SHEET reads nothing, so that it does not HANG.
        failed(128, 10, 128, 1);
        due("Ca0 FAILED", book().state(128), 3);
        tellFunction("f(x)=x");
        doneCells("Aa0", "Ba0", "Bb0", "Bc0", "Bd0", "Be0", "Ca0");
        isWhole("Bc0", 1);
        failed(128, 10, 128, 1);
        due("SHEET 2's were not worked out again", book().count(13), 1);
    }

    private static void unchangedNeeds() {
        begin("all of whose CHANGED needs are DONE: others need not be");
        tell("Ah0", "1");
        tell("Ag0", "Ah0");
        tell("Af0", "Ag0+Aa1");
        tell("Aa1", "2");
        doneCells("Ah0", "Ag0", "Aa1", "Af0");
        tell("Aa1", "3");
        doneCells("Aa1", "Af0");
        isWhole("Af0", 4);
        tell("Ag0", "Ah0");
        doneCells("Ag0", "Af0");
        tell("Af0", "Ag0");
        doneCells("Af0");
        // What FAILED before and is not CHANGED still does.
        tell("Ab1", "1/0");
        doneCells("Ab1");
        tell("Aa0", "Ab1");
        doneCells("Aa0");
        failed(0, 1, at("Ab1"), 0);
        tell("Ac1", "Ac1");
        doneCells("Ac1");
        tell("Aa0", "Ac1");
        doneCells("Aa0");
        failed(0, 9, at("Ac1"), 0);
        cycleIs(0, at("Ac1"));
        doneCells();
        cycleIs(0, at("Ac1"));
        due("CYCLES that there are, also if nothing is DONE", book().count(4), 1);
    }

    private static void brokenCycles() {
        begin("that there was at the latest recalculate(), with FORMULAS that are told since");
        tell("Aa0", "Ab0");
        tell("Ab0", "Aa0");
        tell("Ac0", "Ab0");
        due("no CYCLE before a recalculate()", book().cycle(0, 0), -1);
        doneCells("Aa0", "Ab0", "Ac0");
        book().whole(1, 5);
        cycleIs(0, 0, 1);
        due("CYCLES", book().count(4), 1);
        due("still on it", book().state(0), 4);
        failed(0, 9, 0, 0);
        due("Ab0 is not", book().failure(1, 0), -1);
        due("needs are of now", book().needs(1, 0), -1);
        due("so is what needs", book().neededBy(0, 0), -1);
        due("of two", book().neededBy(1, 1), 2);
        due("done cells are of then", book().done(2), 2);
        doneCells("Aa0", "Ac0");
        isWhole("Aa0", 5);
        due("no CYCLE", book().count(4), 0);
        cycleIs(0);
        due("EDITION 1", book().old(1, 1, 0), 4);
        due("EDITION 2", book().old(2, 1, 0), 1);
    }

    // ---- codes

    private static void refusedTexts() {
        begin("then nothing changes (but for THE TEXT)");
        tell("Aa0", "1+2");
        book().recalculate();
        text("Aa0 + Aa0");
        due("no such cell: THE TEXT stays", book().formula(256), -1);
        due("no such SHEET: THE TEXT stays", book().constant(4), -1);
        due("THE TEXT", book().count(5), 9);
        due("the FAULT is still that of Aa0's", book().fault(), -1);
        due("a FUNCTION takes it", book().function(), -102);
        due("THE TEXT is taken", book().count(5), 0);
        due("its place", book().fault(), 0);
        due("no cell", book().formula(-1), -1);
        due("a call that did not take it has no FAULT of its own", book().fault(), 0);
        due("an empty text", book().formula(0), -102);
        due("its FORMULA stands", book().print(0), 5);
        isWhole("Aa0", 3);
        due("nothing is CHANGED", book().recalculate(), 0);
        due("OUT", book().count(6), 5);
        due("no such cell", book().print(256), -1);
        due("no FORMULA", book().print(1), -3);
        due("OUT stays", book().count(6), 5);
        text("1234567");
        due("take() does not add", book().take(), 5);
        due("it becomes a FORMULA", book().formula(1), 3);
        book().print(1);
        due("PRINTED as it was", out().equals("(1+2)") ? 1 : 0, 1);
    }

    private static void firstCodes() {
        begin("Calls answer the first code that fits, by their order");
        tellConstant(0, "k=1");
        due("-1 ahead of -2", book().number(256, 1, 16), -1);
        due("-2", book().number(255, 1, 16), -2);
        due("-3 ahead of -2", book().failure(256, 3), -3);
        due("-2 ahead of NONE", book().failure(255, 3), -2);
        due("NONE", book().failure(255, 2), -1);
        due("-1 ahead of -2: no SHEET", book().named(4, 0, 3), -1);
        due("-1 ahead of -2: no CONSTANT", book().named(0, 1, 3), -1);
        due("-2", book().named(0, 0, 3), -2);
        due("-1 ahead of -2 and -3", book().old(0, 256, 2), -1);
        due("-2 ahead of -3", book().old(0, 255, 2), -2);
        due("-3", book().old(1, 255, 1), -3);
        due("-1 ahead of -3", book().print(256), -1);
        due("-1 ahead of a FAULT", book().formula(256), -1);
        due("-1 ahead of a FAULT", book().constant(-1), -1);
        due("0 is no code of no such cell", book().empty(256), -1);
        due("a state of no such cell", book().state(256), -1);
        due("a value of no such cell", book().value(256), 0);
    }

    private static void whatStandsUntilRecalculate() {
        begin("6 its FORMULA was told and recalculate() not called since, with what is asked between");
        book().whole(0, 4);
        tell("Ab0", "Aa0/2");
        tellConstant(0, "k=3");
        constantIs(0, 0, 0, 0, 0);
        due("told", book().state(1), 6);
        due("no value", book().value(1), 0);
        due("no failure", book().failure(1, 0), -1);
        needed("Ab0", "Aa0");
        due("needed", book().neededBy(0, 0), 1);
        due("no READS", book().trace(1, 0), -1);
        doneCells("Ab0");
        isWhole("Ab0", 2);
        reads("Ab0", "Aa0");
        tell("Ab0", "k");
        due("told again", book().state(1), 6);
        due("no READS any more", book().trace(1, 0), -1);
        needed("Ab0");
        due("what was DONE stands", book().done(0), 1);
        due("the EDITION stands", book().old(1, 1, 1), 2);
        constantIs(0, 0, 1, 3, 0);
        tellConstant(0, "k=4.5");
        constantIs(0, 0, 0, 0, 0);
        doneCells("Ab0");
        constantIs(0, 0, 2, Double.doubleToLongBits(4.5), 0);
        due("a DOUBLE", book().value(1), Double.doubleToLongBits(4.5));
        reads("Ab0");
        due("in its EDITION too", book().old(2, 1, 1), Double.doubleToLongBits(4.5));
        // A cell whose needs were told keeps its state, VALUE and READS until it is DONE.
        tell("Ac0", "Aa0");
        doneCells("Ac0");
        book().empty(0);
        isWhole("Ac0", 4);
        reads("Ac0", "Aa0");
        doneCells("Ac0");
        failed(2, 3, 2, 0);
        reads("Ac0", "Aa0");
    }

    private static void editionsAndTellings() {
        begin("as state() and value() were behind it, with cells that are told between");
        book().whole(0, 1);
        tell("Ab0", "Aa0+1");
        book().recalculate();
        book().whole(0, 2);
        due("of then", book().old(1, 0, 1), 1);
        book().empty(1);
        due("state of then", book().old(1, 1, 0), 1);
        for (int e = 2; e <= 11; e++) {
            due("nothing is DONE", book().recalculate(), 0);
            due("an EDITION all the same", book().count(0), e);
        }
        due("not kept any more", book().old(1, 0, 1), -3);
        due("the oldest that is kept", book().old(2, 0, 1), 2);
        due("EMPTY", book().old(2, 1, 0), 0);
        due("the latest", book().old(11, 0, 1), 2);
        due("none yet", book().old(12, 0, 1), -3);
        tell("Ab0", "Aa0");
        due("told is no EDITION", book().old(11, 1, 0), 0);
        doneCells("Ab0");
        due("it is now", book().old(12, 1, 1), 2);
        due("EDITION 2 gave way", book().old(2, 0, 1), -3);
    }
}
