import java.util.LinkedHashSet;
import java.util.Set;

/** The boundary cases that section 3 of the Terms (RECALCULATING) names, a method for each sentence. */
public final class RecalculatingBoundaryTest extends Bench {
    public static void main(String[] args) {
        needsInWhicheverPart();
        needsOfWholeSheets();
        needsOfAreasThatOverlap();
        needsOneCycle();
        cyclesOfOne();
        cyclesThroughWhatIsNotRead();
        cyclesThatTouch();
        cycleOfFortyEight();
        fortyEightCycles();
        reachedFunctions();
        reachedThroughEight();
        reachedNoMore();
        changedByFormula();
        changedByFunction();
        changedByNeeds();
        changedThroughOthers();
        changedByEmpty();
        changedByConstants();
        changedConstantsByFunction();
        changedSinceTheLatest();
        constantsUpToTheFirstThatFails();
        leastFirst();
        cyclesDoNotWait();
        chainOfFortyEight();
        doneOnce();
        onCycle();
        spoiledSheets();
        spoiledNoMore();
        causesOfSpoiled();
        cycleBeforeSpoiled();
        valueFailedOrHangs();
        twentyFourReads();
        readsOfTheLatestTime();
        editionsWithoutDone();
        tenEditions();
        editionsHoldAllCells();
        end();
    }

    /** The 48 cells from Aa0 to Ah5, as REFS. */
    private static String ref(int cell) {
        return "" + (char) ('A' + cell / 64) + (char) ('a' + cell % 8) + (char) ('0' + cell / 8 % 8);
    }

    private static void needsInWhicheverPart() {
        begin("A FORMULA's cell NEEDS all cells that stand in it, of an R all, in whichever PART; as they first stand");
        tellFunction("f(x)=x");
        tell("Da0", "1");
        needed("Da0");
        tell("Da0", "if(1,Ab0,Aa0)");
        needed("Da0", "Ab0", "Aa0");
        tell("Da0", "if(Ac0,1,2)+try(Ab0,Aa0)");
        needed("Da0", "Ac0", "Ab0", "Aa0");
        tell("Da0", "line(Ah7,Ab0:Ac0,Aa0:Ab0)");
        needed("Da0", "Ah7", "Ab0", "Ac0", "Aa0");
        tell("Da0", "area(Ab0:Ac0,Aa0:Ab0)");
        needed("Da0", "Ab0", "Ac0", "Aa0");
        tell("Da0", "at(Ab0:Ac1,Aa0)");
        needed("Da0", "Ab0", "Ac0", "Ab1", "Ac1", "Aa0");
        tell("Da0", "root(f,Ab0,Aa0)");
        needed("Da0", "Ab0", "Aa0");
        tell("Da0", "f(-Ab0)+cut(Aa0)*real(Ac0)<Ad0");
        needed("Da0", "Ab0", "Aa0", "Ac0", "Ad0");
        tell("Da0", "Aa0+Aa0+Ab0+Aa0");
        needed("Da0", "Aa0", "Ab0");
        tell("Da0", "sum(Aa0:Ab0)+Aa0+count(Ab0:Ac0)");
        needed("Da0", "Aa0", "Ab0", "Ac0");
        tell("Da0", "Da0");
        needed("Da0", "Da0");
        tell("Da0", "Da0+");
        needed("Da0", "Da0");
        book().empty(192);
        needed("Da0");
    }

    private static void needsOfWholeSheets() {
        begin("NEEDS: of an R all");
        tell("Aa0", "sum(Da0:Dh7)");
        for (int i = 0; i < 64; i++) {
            due("needs(0, " + i + ")", book().needs(0, i), 192 + i);
        }
        due("needs(0, 64)", book().needs(0, 64), -1);
        tell("Aa0", "sum(Dh7:Dh7)");
        needed("Aa0", "Dh7");
        tell("Aa0", "sum(Dg6:Dh7)");
        needed("Aa0", "Dg6", "Dh6", "Dg7", "Dh7");
    }

    private static void needsOfAreasThatOverlap() {
        begin("NEEDS: in the order in which they first stand");
        overlapping("Bb1:Bd3", "Bc2:Be4", "Bc3:Bc3", "Ba0:Bh7");
        overlapping("Bd3:Be4", "Bb2:Bf5", "Ba0:Bh7", "Bd3:Be4");
        overlapping("Bh7:Bh7", "Ba7:Bh7", "Bh0:Bh7", "Ba0:Ba7");
        overlapping("Bb1:Bd3", "Cb1:Cd3", "Ac2:Ac2", "Db1:Dd3");
        overlapping("Cb1:Cd3", "Bb1:Bd3", "Ac0:Ac7", "Ba2:Bh2");
    }

    private static void overlapping(String... areas) {
        again();
        Set<Integer> want = new LinkedHashSet<>();
        StringBuilder s = new StringBuilder("1");
        for (String area : areas) {
            s.append("+sum(").append(area).append(')');
            int first = at(area.substring(0, 3));
            int last = at(area.substring(4));
            for (int cell = first; cell <= last; cell++) {
                if (cell % 8 >= first % 8 && cell % 8 <= last % 8) {
                    want.add(cell);
                }
            }
        }
        tell("Aa0", s.toString());
        int i = 0;
        for (int cell : want) {
            due("needs(0, " + i + ") of " + s, book().needs(0, i), cell);
            i++;
        }
        due("needs(0, " + i + ") of " + s, book().needs(0, i), -1);
        for (int cell = 0; cell < 256; cell++) {
            due("neededBy(" + cell + ", 0) of " + s, book().neededBy(cell, 0), want.contains(cell) ? 0 : -1);
        }
    }

    private static void needsOneCycle() {
        begin("It is on a CYCLE if it needs itself, or needs one that needs it, and so on; its first cell the least");
        tell("Ab0", "Ac0");
        tell("Ac0", "Ad0");
        tell("Ad0", "Ab0");
        tell("Ae0", "Ad0");
        tell("Aa0", "Ab0");
        book().recalculate();
        due("count(4)", book().count(4), 1);
        cycleIs(0, 1, 2, 3);
        for (int cell = 1; cell < 4; cell++) {
            due("state(" + cell + ")", book().state(cell), 4);
            failed(cell, 9, 1, 0);
        }
        due("what needs it is not on it", book().state(4), 5);
        failed(4, 9, 1, 0);
        due("nor is this one", book().state(0), 5);
        failed(0, 9, 1, 0);
        tell("Ad0", "1");
        book().recalculate();
        due("count(4)", book().count(4), 0);
        cycleIs(0);
        for (int cell = 0; cell < 5; cell++) {
            due("state(" + cell + ")", book().state(cell), 1);
        }
    }

    private static void cyclesOfOne() {
        begin("on a CYCLE if it needs itself");
        tell("Aa0", "Aa0");
        tell("Ab0", "sum(Aa1:Ah1)");
        tell("Ac1", "sum(Aa1:Ah1)");
        tell("Ah7", "count(Aa7:Ah7)");
        tell("Ba0", "sum(Bb0:Bh7)");
        book().recalculate();
        due("count(4)", book().count(4), 3);
        cycleIs(0, 0);
        cycleIs(1, at("Ac1"));
        cycleIs(2, 63);
        cycleIs(3);
        due("in an R", book().state(at("Ac1")), 4);
        due("beside an R", book().state(64), 1);
        due("what reads one in an R", book().state(1), 5);
    }

    private static void cyclesThroughWhatIsNotRead() {
        begin("a CYCLE is of NEEDS, in whichever PART");
        tell("Aa0", "if(1,5,Ab0)");
        tell("Ab0", "try(7,Aa0)");
        tell("Ba0", "at(Ba0:Bb0,1)");
        book().whole(65, 1);
        tell("Ca0", "if(1,5,Cc0)");
        tell("Cb0", "try(Ca0,1)");
        book().recalculate();
        cycleIs(0, 0, 1);
        cycleIs(1, 64);
        cycleIs(2);
        isWhole("Ca0", 5);
        isWhole("Cb0", 5);
        due("no try takes it on the CYCLE", book().state(1), 4);
        reads("Aa0");
        reads("Ab0");
    }

    private static void cyclesThatTouch() {
        begin("a CYCLE is all cells that so need each other");
        tell("Ac0", "Ad0");
        tell("Ad0", "Ac0+Aa0");
        tell("Aa0", "Ab0");
        tell("Ab0", "Aa0");
        book().recalculate();
        due("two that are joined one way", book().count(4), 2);
        cycleIs(0, 0, 1);
        cycleIs(1, 2, 3);
        failed(3, 9, 2, 0);
        due("state(3)", book().state(3), 4);
        tell("Ab0", "Aa0+Ac0");
        book().recalculate();
        due("joined both ways", book().count(4), 1);
        cycleIs(0, 0, 1, 2, 3);
        failed(3, 9, 0, 0);
        // Two CYCLES through one cell are one.
        again();
        tell("Ab0", "Ac0+Aa0");
        tell("Ac0", "Ab0");
        tell("Aa0", "Ab0");
        book().recalculate();
        due("count(4)", book().count(4), 1);
        cycleIs(0, 0, 1, 2);
    }

    private static void cycleOfFortyEight() {
        begin("a CYCLE of all 48");
        for (int cell = 0; cell < 48; cell++) {
            text(ref(5 * ((cell + 1) % 48)));
            book().formula(5 * cell);
        }
        due("recalculate()", book().recalculate(), 48);
        due("count(4)", book().count(4), 1);
        for (int k = 0; k < 48; k++) {
            due("cycle(0, " + k + ")", book().cycle(0, k), 5 * k);
            due("first cell", book().failure(5 * k, 1), 0);
        }
        due("cycle(0, 48)", book().cycle(0, 48), -1);
        due("cycle(1, 0)", book().cycle(1, 0), -1);
        book().whole(5 * 47, 3);
        due("recalculate()", book().recalculate(), 47);
        due("count(4)", book().count(4), 0);
        for (int k = 0; k < 47; k++) {
            due("done(" + k + ")", book().done(k), 5 * (46 - k));
            due("value", book().value(5 * k), 3);
        }
    }

    private static void fortyEightCycles() {
        begin("48 CYCLES, by first cells");
        for (int cell = 47; cell >= 0; cell--) {
            text(ref(5 * cell));
            book().formula(5 * cell);
        }
        due("recalculate()", book().recalculate(), 48);
        due("count(4)", book().count(4), 48);
        for (int i = 0; i < 48; i++) {
            due("cycle(" + i + ", 0)", book().cycle(i, 0), 5 * i);
            due("cycle(" + i + ", 1)", book().cycle(i, 1), -1);
            due("done(" + i + ")", book().done(i), 5 * i);
        }
        due("cycle(48, 0)", book().cycle(48, 0), -1);
    }

    private static void reachedFunctions() {
        begin("A FUNCTION is REACHED by an E that calls it (by CALL or root), and by one that calls a FUNCTION ..");
        tellFunction("a(x)=x");
        tellFunction("b(x)=a(x)");
        tellFunction("c(x)=if(0,b(x),1)");
        tellFunction("d(x)=root(c,x,1)");
        tellFunction("e(x)=e(x)");
        tell("Aa0", "a(1)");
        tell("Ab0", "b(1)");
        tell("Ac0", "c(1)");
        tell("Ad0", "if(1,2,d(1))");
        tell("Ae0", "try(root(b,1,2),1)");
        tell("Af0", "if(1,1,e(1))");
        tell("Ag0", "1");
        book().recalculate();
        tellFunction("a(x)=x+1");
        doneCells("Aa0", "Ab0", "Ac0", "Ad0", "Ae0");
        isWhole("Aa0", 2);
        isWhole("Ab0", 2);
        tellFunction("b(x)=x");
        doneCells("Ab0", "Ac0", "Ad0", "Ae0");
        tellFunction("a(x)=x");
        doneCells("Aa0");
        tellFunction("e(x)=e(x)");
        doneCells("Af0");
        tellFunction("d(x)=1");
        doneCells("Ad0");
        tellFunction("c(x)=1");
        doneCells("Ac0");
    }

    private static void reachedThroughEight() {
        begin("by one that calls a FUNCTION whose E reaches it: through all eight, either way");
        for (int i = 0; i < 8; i++) {
            tellFunction((char) ('a' + i) + "(x)=x");
        }
        for (int i = 0; i < 7; i++) {
            tellFunction((char) ('a' + i) + "(x)=" + (char) ('b' + i) + "(x)");
        }
        for (int i = 0; i < 8; i++) {
            tell("A" + (char) ('a' + i) + "0", (char) ('a' + i) + "(1)");
        }
        tellConstant(1, "k=a(1)");
        tellConstant(2, "k=h(1)");
        book().recalculate();
        tellFunction("h(x)=x+1");
        doneCells("Aa0", "Ab0", "Ac0", "Ad0", "Ae0", "Af0", "Ag0", "Ah0");
        due("value(0)", book().value(0), 2);
        constantIs(1, 0, 1, 2, 0);
        tellFunction("d(x)=x");
        doneCells("Aa0", "Ab0", "Ac0", "Ad0");
        tellFunction("a(x)=x");
        doneCells("Aa0");
        for (int i = 1; i < 8; i++) {
            tellFunction((char) ('a' + i) + "(x)=" + (char) ('a' + i - 1) + "(x)");
        }
        book().recalculate();
        tellFunction("a(x)=x");
        doneCells("Aa0", "Ab0", "Ac0", "Ad0", "Ae0", "Af0", "Ag0", "Ah0");
        due("count(12)", book().count(12), 5);
        due("count(13)", book().count(13), 4);
    }

    /** What was told before in the place of an E, or was refused, reaches nothing. */
    private static void reachedNoMore() {
        begin("A FUNCTION is REACHED by an E that calls it: not by one that is gone");
        tellFunction("f(x)=x");
        tellFunction("g(x)=x");
        for (int i = 0; i < 6; i++) {
            tell("Aa0", "f(1)");
            tell("Aa0", "f(1)+zz");
            tell("Aa0", "1");
            tell("Ab0", "f(1)");
            book().whole(1, 1);
            tell("Ac0", "2");
            tell("Ad0", "3");
        }
        tellConstant(1, "a=f(1)");
        tellConstant(1, "a=1");
        tell("Ba0", "1");
        tell("Bb0", "g(1)");
        book().recalculate();
        tellFunction("f(x)=x");
        doneCells();
        tellFunction("g(x)=f(x)");
        doneCells("Bb0");
        tellFunction("g(x)=x");
        doneCells("Bb0");
        tellFunction("f(x)=x");
        doneCells();
        due("count(12)", book().count(12), 1);
    }

    private static void changedByFormula() {
        begin("CHANGED are: cells with a FORMULA that was told");
        tell("Aa0", "1");
        doneCells("Aa0");
        doneCells();
        tell("Aa0", "1");
        doneCells("Aa0");
        tell("Aa0", "1+");
        doneCells();
        tell("Aa0", "2");
        book().whole(0, 1);
        doneCells();
        tell("Aa0", "2");
        book().empty(0);
        doneCells();
        tell("Aa0", "2");
        tell("Aa0", "3");
        doneCells("Aa0");
    }

    private static void changedByFunction() {
        begin("those whose FORMULA reaches a FUNCTION that was told");
        tellFunction("f(x)=x");
        tellFunction("g(x)=x");
        tell("Aa0", "f(1)");
        tell("Ab0", "g(1)");
        tell("Ac0", "Aa0");
        book().recalculate();
        tellFunction("f(x)=x");
        doneCells("Aa0", "Ac0");
        tellFunction("f(x)=y");
        doneCells();
        tellFunction("f(x,y)=x");
        doneCells();
        tellFunction("h(x)=x");
        doneCells();
        tellFunction("g(x)=f(x)");
        doneCells("Ab0");
    }

    private static void changedByNeeds() {
        begin("those that need a cell that was told (also as it was) .. or is CHANGED");
        tell("Aa0", "Ba0");
        tell("Ab0", "Aa0");
        tell("Ac0", "sum(Ba0:Bh7)");
        tell("Ad0", "if(1,1,Ba0)");
        tell("Ae0", "Bb0");
        book().recalculate();
        book().whole(64, 5);
        doneCells("Aa0", "Ab0", "Ac0", "Ad0");
        book().whole(64, 5);
        doneCells("Aa0", "Ab0", "Ac0", "Ad0");
        book().number(64, 5, 0);
        doneCells("Aa0", "Ab0", "Ac0", "Ad0");
        tell("Ba0", "5");
        doneCells("Ba0", "Aa0", "Ab0", "Ac0", "Ad0");
        tell("Ba0", "5");
        doneCells("Ba0", "Aa0", "Ab0", "Ac0", "Ad0");
        book().whole(127, 1);
        doneCells("Ac0");
        book().whole(128, 1);
        doneCells();
        book().whole(256, 1);
        book().whole(-1, 1);
        book().number(64, 1, 16);
        book().number(64, 1, -1);
        doneCells();
        tell("Ba0", "5)");
        doneCells();
    }

    private static void changedThroughOthers() {
        begin("those that need a cell that .. is CHANGED, through the least cell and the greatest");
        tellFunction("f(x)=x");
        tell("Ca0", "f(1)");
        tell("Ba0", "Ca0");
        tell("Aa0", "Ba0");
        tell("Ab0", "Aa0");
        tell("Dh7", "Ab0");
        tell("Ac0", "Dh7");
        tell("Ad0", "Ac0");
        book().recalculate();
        tellFunction("f(x)=x+1");
        doneCells("Ca0", "Ba0", "Aa0", "Ab0", "Dh7", "Ac0", "Ad0");
        isWhole("Ad0", 2);
        tellConstant(2, "a=1");
        doneCells("Ca0", "Ba0", "Aa0", "Ab0", "Dh7", "Ac0", "Ad0");
        tell("Ca0", "7");
        doneCells("Ca0", "Ba0", "Aa0", "Ab0", "Dh7", "Ac0", "Ad0");
        isWhole("Ad0", 7);
        book().whole(128, 8);
        doneCells("Ba0", "Aa0", "Ab0", "Dh7", "Ac0", "Ad0");
        isWhole("Ad0", 8);
        tell("Ab0", "9");
        doneCells("Ab0", "Dh7", "Ac0", "Ad0");
    }

    private static void changedByEmpty() {
        begin("was made EMPTY by an empty() that answered 1");
        tell("Aa0", "count(Ba0:Bb0)");
        book().recalculate();
        due("empty(64)", book().empty(64), 0);
        doneCells();
        book().whole(64, 1);
        due("empty(64)", book().empty(64), 1);
        doneCells("Aa0");
        due("empty(64)", book().empty(64), 0);
        doneCells();
        tell("Bb0", "7");
        doneCells("Bb0", "Aa0");
        due("empty(65)", book().empty(65), 1);
        doneCells("Aa0");
        isWhole("Aa0", 0);
        due("empty(256)", book().empty(256), -1);
        doneCells();
    }

    private static void changedByConstants() {
        begin("and the CONSTANTS of a SHEET, and all its cells with FORMULAS, if one of its CONSTANTS was told");
        tell("Aa0", "1");
        tell("Ah7", "2");
        tell("Ba0", "3");
        tell("Bb0", "Ah7");
        book().recalculate();
        due("count(11)", book().count(11), 0);
        tellConstant(0, "a=1");
        doneCells("Aa0", "Ah7", "Bb0");
        due("count(11)", book().count(11), 1);
        tellConstant(0, "a=1");
        doneCells("Aa0", "Ah7", "Bb0");
        due("count(11)", book().count(11), 2);
        tellConstant(1, "a=1");
        doneCells("Ba0", "Bb0");
        due("count(11)", book().count(11), 2);
        due("count(12)", book().count(12), 1);
        tellConstant(2, "a=1");
        doneCells();
        due("count(13)", book().count(13), 1);
        tellConstant(0, "a=");
        tellConstant(0, "b=zz");
        doneCells();
        due("count(11)", book().count(11), 2);
        tellConstant(0, "b=2");
        tellConstant(0, "c=3");
        doneCells("Aa0", "Ah7", "Bb0");
        due("count(11)", book().count(11), 3);
    }

    private static void changedConstantsByFunction() {
        begin("or reaches a FUNCTION that was told");
        tellFunction("f(x)=x");
        tellFunction("g(x)=f(x)");
        tellFunction("h(x)=x");
        tellConstant(0, "a=g(5)");
        tellConstant(1, "a=if(1,2,h(1))");
        tellConstant(2, "a=try(root(f,0-1,1),1)");
        tell("Aa0", "1");
        tell("Ba0", "1");
        tell("Ca0", "1");
        tell("Da0", "1");
        book().recalculate();
        tellFunction("f(x)=x*2");
        doneCells("Aa0", "Ca0");
        constantIs(0, 0, 1, 10, 0);
        due("count(11)", book().count(11), 2);
        due("count(12)", book().count(12), 1);
        due("count(13)", book().count(13), 2);
        tellFunction("h(x)=x");
        doneCells("Ba0");
        due("count(12)", book().count(12), 2);
        tellFunction("g(x)=x");
        doneCells("Aa0");
        tellFunction("f(x)=x");
        doneCells("Ca0");
        due("count(11)", book().count(11), 3);
        due("count(14)", book().count(14), 0);
    }

    private static void changedSinceTheLatest() {
        begin("CHANGED since the latest recalculate()");
        tellFunction("f(x)=x");
        tellConstant(0, "a=f(1)");
        tell("Aa0", "a");
        book().whole(1, 1);
        tell("Ac0", "Ab0");
        doneCells("Aa0", "Ac0");
        doneCells();
        book().whole(1, 1);
        doneCells("Ac0");
        doneCells();
        tellFunction("f(x)=x");
        doneCells("Aa0", "Ac0");
        doneCells();
        tellConstant(0, "a=f(1)");
        doneCells("Aa0", "Ac0");
        doneCells();
        book().empty(1);
        doneCells("Ac0");
        doneCells();
    }

    private static void constantsUpToTheFirstThatFails() {
        begin("by their numbers, up to the first that FAILS: that SPOILS the SHEET");
        tellConstant(0, "a=1");
        tellConstant(0, "b=a+1");
        tellConstant(0, "c=1/(b-2)");
        tellConstant(0, "d=1%0");
        tellConstant(0, "e=5");
        constantIs(0, 0, 0, 0, 0);
        book().recalculate();
        constantIs(0, 0, 1, 1, 0);
        constantIs(0, 1, 1, 2, 0);
        constantIs(0, 2, 3, 0, 1);
        constantIs(0, 3, 0, 0, 0);
        constantIs(0, 4, 0, 0, 0);
        tellConstant(0, "a=7");
        constantIs(0, 0, 0, 0, 0);
        constantIs(0, 1, 1, 2, 0);
        constantIs(0, 2, 3, 0, 1);
        book().recalculate();
        constantIs(0, 0, 1, 7, 0);
        constantIs(0, 1, 1, 8, 0);
        constantIs(0, 2, 1, 0, 0);
        constantIs(0, 3, 3, 0, 1);
        constantIs(0, 4, 0, 0, 0);
        tellConstant(0, "d=2.5");
        book().recalculate();
        constantIs(0, 3, 2, Double.doubleToLongBits(2.5), 0);
        constantIs(0, 4, 1, 5, 0);
        tellConstant(0, "a=0%0");
        book().recalculate();
        constantIs(0, 0, 3, 0, 1);
        for (int i = 1; i < 5; i++) {
            constantIs(0, i, 0, 0, 0);
        }
        due("once each time", book().count(11), 4);
    }

    private static void leastFirst() {
        begin("again and again the least one .. all of whose CHANGED needs are DONE");
        tell("Aa0", "Ah7");
        tell("Ab0", "1");
        tell("Ah7", "Ba0");
        tell("Ba0", "1");
        tell("Da0", "Ab0");
        tell("Ac0", "Da0");
        doneCells("Ab0", "Ba0", "Ah7", "Aa0", "Da0", "Ac0");
        tell("Ah7", "2");
        doneCells("Ah7", "Aa0");
        tell("Ba0", "1");
        tell("Ab0", "3");
        doneCells("Ab0", "Ba0", "Da0", "Ac0");
        // Needs that are not CHANGED are not waited for.
        tell("Aa0", "Ah7+Da0");
        tell("Ab1", "Aa0");
        doneCells("Aa0", "Ab1");
    }

    private static void cyclesDoNotWait() {
        begin("the least one of those that are on a CYCLE, or ..");
        tell("Ab0", "Ac0+Dh7");
        tell("Ac0", "Ab0");
        tell("Dh7", "1");
        tell("Aa0", "Dh7");
        tell("Ad0", "Ab0");
        doneCells("Ab0", "Ac0", "Ad0", "Dh7", "Aa0");
        tell("Dh7", "2");
        doneCells("Ab0", "Ac0", "Ad0", "Dh7", "Aa0");
    }

    private static void chainOfFortyEight() {
        begin("a chain of all 48, the last one first");
        for (int cell = 0; cell < 48; cell++) {
            text(ref(cell + 1) + "+1");
            book().formula(cell);
        }
        book().whole(48, 100);
        due("recalculate()", book().recalculate(), 48);
        for (int i = 0; i < 48; i++) {
            due("done(" + i + ")", book().done(i), 47 - i);
        }
        due("done(48)", book().done(48), -1);
        due("value(0)", book().value(0), 148);
        book().empty(48);
        due("recalculate()", book().recalculate(), 48);
        for (int i = 0; i < 48; i++) {
            due("state(" + i + ")", book().state(i), i == 47 ? 3 : 5);
            due("first cell of " + i, book().failure(i, 1), 47);
        }
    }

    private static void doneOnce() {
        begin("Then each CHANGED cell is DONE, once");
        tell("Aa0", "Ba0");
        tell("Ab0", "Ba0+Aa0");
        tell("Ac0", "Aa0+Ab0+Ba0");
        book().whole(64, 2);
        doneCells("Aa0", "Ab0", "Ac0");
        isWhole("Ac0", 8);
        book().whole(64, 3);
        book().whole(64, 4);
        tell("Aa0", "Ba0");
        doneCells("Aa0", "Ab0", "Ac0");
        isWhole("Ac0", 16);
    }

    private static void onCycle() {
        begin("One on a CYCLE gets kind 9 CYCLE, the CYCLE's first cell");
        tell("Dh7", "Ca0");
        tell("Ca0", "Dh7+1/0");
        book().recalculate();
        due("state", book().state(128), 4);
        due("value", book().value(128), 0);
        failed(128, 9, 128, 0);
        failed(255, 9, 128, 0);
        tell("Aa0", "Dh7");
        tell("Dh7", "Ca0+Aa0");
        book().recalculate();
        failed(0, 9, 0, 0);
        failed(128, 9, 0, 0);
        failed(255, 9, 0, 0);
        book().empty(0);
        book().recalculate();
        failed(128, 9, 128, 0);
        failed(255, 9, 128, 0);
    }

    private static void spoiledSheets() {
        begin("One of a SHEET that is SPOILED FAILS with 10 SPOILED; its cause is the kind with which the "
            + "CONSTANT FAILED");
        tellConstant(1, "a=1/0");
        tell("Ba0", "1");
        tell("Bb0", "Ba0");
        tell("Aa0", "Ba0");
        tell("Ab0", "1");
        book().whole(at("Bc0"), 5);
        book().recalculate();
        failed(64, 10, 64, 1);
        due("state", book().state(64), 3);
        failed(65, 10, 65, 1);
        due("itself the first cell", book().state(65), 3);
        reads("Bb0");
        failed(0, 10, 64, 1);
        due("of another SHEET", book().state(0), 5);
        isWhole("Ab0", 1);
        isWhole("Bc0", 5);
        // It stays so: what is told later FAILS too.
        tell("Bh7", "1");
        doneCells("Bh7");
        failed(127, 10, 127, 1);
        due("not worked out anew", book().count(12), 1);
        tell("Ac0", "Bc0");
        doneCells("Ac0");
        isWhole("Ac0", 5);
    }

    private static void spoiledNoMore() {
        begin("SPOILS the SHEET, until its CONSTANTS are worked out anew");
        tellFunction("f(x)=1/x");
        tellConstant(1, "a=f(0)");
        tell("Ba0", "a");
        book().recalculate();
        failed(64, 10, 64, 1);
        tellFunction("f(x)=x+2");
        doneCells("Ba0");
        isWhole("Ba0", 2);
        tellConstant(1, "b=1/0");
        doneCells("Ba0");
        failed(64, 10, 64, 1);
        tellConstant(1, "b=1");
        doneCells("Ba0");
        isWhole("Ba0", 2);
    }

    private static void causesOfSpoiled() {
        begin("its cause is the kind with which the CONSTANT FAILED");
        tellFunction("t(n)=t(n)");
        tellFunction("p(x)=1");
        tellFunction("q(x)=x*x");
        tellFunction("r(n)=try(r(n)+r(n),1)");
        tell("Aa0", "1");
        String[] failing = {"1/0", "t(1)", "q(q(q(q(q(q(q(q(q(q(2.0))))))))))", "root(p,0,1)", "r(1)"};
        int[] kinds = {1, 4, 5, 6, 8};
        for (int i = 0; i < failing.length; i++) {
            tellConstant(0, "a=" + failing[i]);
            doneCells("Aa0");
            failed(0, 10, 0, kinds[i]);
            constantIs(0, 0, 3, 0, kinds[i]);
        }
        tellConstant(0, "a=try(t(1),7)");
        doneCells("Aa0");
        isWhole("Aa0", 1);
    }

    private static void cycleBeforeSpoiled() {
        begin("One on a CYCLE gets kind 9 CYCLE, also in a SHEET that is SPOILED");
        tellConstant(0, "a=1/0");
        tell("Aa0", "Ab0");
        tell("Ab0", "Aa0");
        tell("Ac0", "Aa0");
        book().recalculate();
        failed(0, 9, 0, 0);
        failed(1, 9, 0, 0);
        failed(2, 10, 2, 1);
        due("state(2)", book().state(2), 3);
    }

    private static void valueFailedOrHangs() {
        begin("that is its VALUE, or it FAILED (it itself being the first cell), or HANGS (what it FAILED "
            + "with, it read)");
        tell("Aa0", "3");
        tell("Ab0", "3.5");
        tell("Ac0", "1/0");
        tell("Ad0", "Ac0");
        tell("Ae0", "Bh7");
        tell("Af0", "try(Ac0,1/0)");
        tell("Ag0", "try(1/0,Ac0)");
        tell("Ah0", "try(Ac0,4)");
        book().recalculate();
        isWhole("Aa0", 3);
        due("state(1)", book().state(1), 2);
        due("state(2)", book().state(2), 3);
        failed(2, 1, 2, 0);
        due("state(3)", book().state(3), 5);
        failed(3, 1, 2, 0);
        due("an EMPTY one is no failure of another", book().state(4), 3);
        failed(4, 3, 4, 0);
        due("state(5)", book().state(5), 3);
        failed(5, 1, 5, 0);
        due("state(6)", book().state(6), 5);
        failed(6, 1, 2, 0);
        isWhole("Ah0", 4);
        due("no failure", book().failure(7, 0), -1);
    }

    private static void twentyFourReads() {
        begin("The READS of one that is DONE are the cells that were read, in order, also again (24 are kept)");
        for (int cells = 22; cells <= 26; cells++) {
            // One row, two, three: 8 a row, and single ones behind them.
            tell("Da0", "count(Aa0:Ah1)" + rest(cells - 16));
            book().recalculate();
            for (int i = 0; i < 27; i++) {
                int want = i >= Math.min(cells, 24) ? -1 : i < 16 ? i : 128 + i - 16;
                due("trace of " + cells + ", " + i, book().trace(192, i), want);
            }
        }
        again();
        tell("Da0", "count(Aa0:Ah7)");
        book().recalculate();
        due("trace(192, 23)", book().trace(192, 23), 23);
        due("trace(192, 24)", book().trace(192, 24), -1);
        book().whole(0, 1);
        tell("Da0", "Aa0" + times(19, "*Aa0"));
        book().recalculate();
        for (int i = 0; i < 20; i++) {
            due("the same again", book().trace(192, i), 0);
        }
        due("no more", book().trace(192, 20), -1);
    }

    private static String rest(int cells) {
        StringBuilder s = new StringBuilder();
        for (int i = 0; i < cells; i++) {
            s.append("+count(").append(ref(128 + i)).append(':').append(ref(128 + i)).append(')');
        }
        return s.toString();
    }

    private static void readsOfTheLatestTime() {
        begin("READS of one that is DONE");
        book().whole(0, 1);
        tell("Da0", "if(Aa0,Ab0,Ac0)");
        reads("Da0");
        book().recalculate();
        reads("Da0", "Aa0", "Ab0");
        book().whole(0, 0);
        reads("Da0", "Aa0", "Ab0");
        book().recalculate();
        reads("Da0", "Aa0", "Ac0");
        book().recalculate();
        reads("Da0", "Aa0", "Ac0");
        tellConstant(3, "a=1/0");
        book().recalculate();
        reads("Da0");
        tellConstant(3, "a=1");
        book().recalculate();
        reads("Da0", "Aa0", "Ac0");
        tell("Aa0", "Da0");
        book().recalculate();
        reads("Da0");
        reads("Aa0");
    }

    private static void editionsWithoutDone() {
        begin("All this is an EDITION, also if nothing is DONE");
        due("count(0)", book().count(0), 0);
        due("recalculate()", book().recalculate(), 0);
        due("count(0)", book().count(0), 1);
        due("old(1, 0, 0)", book().old(1, 0, 0), 0);
        due("recalculate()", book().recalculate(), 0);
        due("count(0)", book().count(0), 2);
        book().whole(0, 7);
        due("no EDITION by whole()", book().count(0), 2);
        due("old(2, 0, 0)", book().old(2, 0, 0), 0);
        due("recalculate()", book().recalculate(), 0);
        due("old(3, 0, 0)", book().old(3, 0, 0), 1);
        due("old(3, 0, 1)", book().old(3, 0, 1), 7);
    }

    private static void tenEditions() {
        begin("of the latest 10 the states and VALUES of all cells are kept");
        for (int e = 1; e <= 31; e++) {
            book().whole(0, 100 + e);
            book().recalculate();
            due("count(0)", book().count(0), e);
            if (e >= 9 && e <= 12 || e >= 29) {
                for (int k = -1; k <= e + 1; k++) {
                    boolean kept = k >= 1 && k <= e && k > e - 10;
                    due("old(" + k + ", 0, 1) behind " + e, book().old(k, 0, 1), kept ? 100 + k : -3);
                }
            }
        }
    }

    private static void editionsHoldAllCells() {
        begin("the states and VALUES of all cells are kept");
        book().whole(0, -1);
        book().number(63, 5, 1);
        tell("Ba0", "1/0");
        tell("Bb0", "Ba0");
        tell("Ca0", "Ca0");
        tell("Da0", "Aa0");
        book().whole(255, 9);
        book().recalculate();
        for (int cell : new int[] {0, 63, 64, 65, 128, 192, 255}) {
            book().empty(cell);
        }
        tell("Aa0", "1");
        due("old of what is told is as it was", book().old(1, 0, 0), 1);
        due("old(1, 0, 1)", book().old(1, 0, 1), -1);
        due("old(1, 63, 0)", book().old(1, 63, 0), 2);
        due("old(1, 63, 1)", book().old(1, 63, 1), Double.doubleToLongBits(0.5));
        due("old(1, 64, 0)", book().old(1, 64, 0), 3);
        due("old(1, 64, 1)", book().old(1, 64, 1), 0);
        due("old(1, 65, 0)", book().old(1, 65, 0), 5);
        due("old(1, 128, 0)", book().old(1, 128, 0), 4);
        due("old(1, 192, 0)", book().old(1, 192, 0), 1);
        due("old(1, 192, 1)", book().old(1, 192, 1), -1);
        due("old(1, 255, 1)", book().old(1, 255, 1), 9);
        due("old(1, 254, 0)", book().old(1, 254, 0), 0);
        book().recalculate();
        for (int cell : new int[] {63, 64, 65, 128, 192, 255}) {
            due("old(2, " + cell + ", 0)", book().old(2, cell, 0), 0);
            due("old(2, " + cell + ", 1)", book().old(2, cell, 1), 0);
        }
    }
}
