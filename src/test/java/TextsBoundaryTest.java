/** The boundary cases that section 1 of the Terms (TEXTS) names, a method for each sentence. */
public final class TextsBoundaryTest extends Bench {
    private static final String[] WORDS = {
        "if", "try", "sum", "least", "most", "count", "at", "line", "area", "root", "cut", "real"
    };

    public static void main(String[] args) {
        cellsByNumber();
        textHas240Bytes();
        whatTakesItEmptiesIt();
        tokensAsLongAsTheyCanBe();
        blanksBetween();
        names();
        refs();
        wholes();
        decimals();
        signs();
        twoSumsAtMost();
        fromTheLeft();
        minusOfAnAtom();
        shapesOfWords();
        comparisonsInCalls();
        callsOfNames();
        wordsAreNoNames();
        constantsAndFunctions();
        countedParts();
        fortyParts();
        fortyPartsOutsideFormulas();
        tenOpen();
        openEnds();
        placesWithoutToken();
        tooLong();
        tokensThatDoNotGoOn();
        theEnd();
        firstByPlace();
        leastNumberOfOnePlace();
        laterFaultsOnlyWithoutOthers();
        namesOfConstants();
        namesOfArguments();
        namesOfFunctions();
        areas();
        refsOutsideFormulas();
        secondArgument();
        anotherNumberOfArguments();
        firstOfLateFaults();
        toldAgain();
        fiveConstants();
        eightFunctions();
        fortyEightFormulas();
        printedNumerals();
        printedSigns();
        printedCalls();
        end();
    }

    private static String ref(int cell) {
        return "" + (char) ('A' + cell / 64) + (char) ('a' + cell % 8) + (char) ('0' + cell / 8 % 8);
    }

    /** A sum of so many WHOLES: 2 * n - 1 PARTS and bytes. */
    private static String ones(int n) {
        return "1" + times(n - 1, "+1");
    }

    private static void cellsByNumber() {
        begin("CELLS are numbered 0 to 255: 64 * the SHEET + 8 * the row + the column");
        for (int cell = 0; cell < 256; cell++) {
            if (cell % 128 == 0) {
                again();
            }
            text(ref(cell));
            due("formula of " + ref(cell), book().formula(255 - cell), 1);
            due("needs of " + ref(cell), book().needs(255 - cell, 0), cell);
            due("empty", book().empty(255 - cell), 1);
        }
    }

    private static void textHas240Bytes() {
        begin("THE TEXT has at most 240 bytes");
        due("232 bytes", text(times(232, " ")), 232);
        due("239 bytes", text(times(7, " ")), 239);
        due("241 bytes", text("12"), -2);
        due("240 bytes", text("7"), 240);
        due("241 bytes", text("8"), -2);
        due("count(5)", book().count(5), 240);
        due("the 240th byte is read", book().formula(0), 1);
        due("print(0)", book().print(0), 1);
        due("sign(0)", book().sign(0), '7');
        due("eight bytes at once", text(times(240, "1")), 240);
        due("all are one WHOLE that is too long", book().formula(0), -101);
        text(times(240, "("));
        due("the 11th OPEN of 240", book().formula(0), -103);
        due("fault()", book().fault(), 10);
        text(times(237, " ") + "1 +");
        due("the end of 240", book().formula(0), -102);
        due("fault()", book().fault(), 240);
        text(times(236, " ") + "1 +");
        due("the end of 239", book().formula(0), -102);
        due("fault()", book().fault(), 239);
        String ten = times(10, "(") + "1" + times(10, ")") + "+";
        String nine = times(9, "(") + "1" + times(9, ")");
        accepted(times(10, ten) + "-" + nine, 22);
        accepted(times(10, ten) + nine, 21);
        due("239 TOKENS of a byte each", (times(10, ten) + nine).length(), 239);
        formulaFault(times(10, ten) + "-(" + nine, 3, 230);
        formulaFault(times(10, ten) + nine + ")", 2, 239);
        formulaFault(times(10, ten) + "(" + nine, 2, 240);
    }

    private static void whatTakesItEmptiesIt() {
        begin("what takes it empties it");
        tell("Aa0", "1");
        due("behind a FORMULA", book().count(5), 0);
        tell("Aa0", "1+");
        due("behind a FAULT", book().count(5), 0);
        tellFunction("f(x)=x");
        due("behind a FUNCTION", book().count(5), 0);
        tellFunction("f(x)=y");
        due("behind its FAULT", book().count(5), 0);
        tellConstant(0, "a=1");
        due("behind a CONSTANT", book().count(5), 0);
        tellConstant(0, "a=&");
        due("behind its FAULT", book().count(5), 0);
        text("12");
        book().print(0);
        book().recalculate();
        book().whole(0, 1);
        book().empty(0);
        book().formula(-1);
        book().constant(4);
        due("what does not take it lets it be", book().count(5), 2);
        due("and it is still whole", text("+3"), 4);
        due("formula(0)", book().formula(0), 3);
        due("nothing is left of it", tell("Aa0", "4"), 1);
    }

    private static void tokensAsLongAsTheyCanBe() {
        begin("TOKENS, each as long as it can be");
        accepted("1<=2", 3);
        accepted("1<>2", 3);
        formulaFault("1< =2", 2, 3);
        formulaFault("1< >2", 1, 3);
        accepted("12", 1);
        formulaFault("1 2", 2, 2);
        accepted("1.25", 1);
        formulaFault("1.2 5", 2, 4);
        tellConstant(0, "ab=1");
        tellConstant(0, "ifs=1");
        tellConstant(0, "a=1");
        tellConstant(0, "b=1");
        due("ab is one NAME", tell("Aa0", "ab"), 1);
        formulaFault("a b", 2, 2);
        due("ifs is a NAME", tell("Aa0", "ifs"), 1);
        formulaFault("if s(1,2,3)", 2, 3);
        formulaFault("Aa01", 2, 3);
        formulaFault("Aa0Ab0", 2, 3);
        formulaFault("1a", 2, 1);
        formulaFault("aAa0", 2, 1);
        formulaFault("1<==2", 2, 3);
        formulaFault("1<><2", 2, 3);
        accepted("1<-2", 4);
        accepted("1=-2", 4);
    }

    private static void blanksBetween() {
        begin("blanks (32) between them as one likes");
        tellFunction("  f  (  x  ,  y  )  =  x  +  y  ");
        tellConstant(3, " a = 1 ");
        accepted("  1  ", 1);
        accepted("if(1,a,f(2,3))+sum(Aa0:Ab1)", 9);
        accepted(" if ( 1 , a , f ( 2 , 3 ) ) + sum ( Aa0 : Ab1 ) ", 9);
        accepted("-  -  1", 3);
        formulaFault("A a0", 1, 0);
        formulaFault("Aa 0", 1, 0);
        formulaFault("1 .5", 1, 2);
        formulaFault("1. 5", 1, 1);
        for (char c : new char[] {1, 9, 10, 13, 31, 33, 127, 160, 255}) {
            formulaFault("1" + c + "+1", 1, 1);
        }
    }

    private static void names() {
        begin("NAMES (1 to 8 letters a to z)");
        due("1 letter", tellConstant(3, "a=1"), 0);
        due("1 letter", tellConstant(3, "z=1"), 1);
        due("7 letters", tellConstant(3, "abcdefg=1"), 2);
        due("8 letters", tellConstant(3, "abcdefgh=1"), 3);
        constantFault("abcdefghi=1", 1, 0);
        accepted("a+z+abcdefg+abcdefgh", 7);
        formulaFault("abcdefghi", 1, 0);
        formulaFault("1+abcdefghz", 1, 2);
        formulaFault("1+zzzzzzzzz(1)", 1, 2);
        formulaFault(times(240, "z"), 1, 0);
        due("8 letters of a FUNCTION and its ARGUMENT", tellFunction("zyxwvuts(abcdefgh)=abcdefgh"), 0);
        due("NAMES that are alike in 7 letters", tellFunction("zyxwvuta(abcdefgh)=zyxwvuts(abcdefgh)"), 1);
        functionFault("zyxwvutsr(x)=x", 1, 0);
        functionFault("g(abcdefghi)=1", 1, 2);
        formulaFault("a`", 1, 1);
        formulaFault("z{", 1, 1);
        formulaFault("`", 1, 0);
        formulaFault("{", 1, 0);
        formulaFault("aZ", 1, 1);
        formulaFault("a_b", 1, 1);
        formulaFault("z1", 2, 1);
    }

    private static void refs() {
        begin("REFS (three bytes: A to D, the SHEET; a to h, the column; 0 to 7, the row)");
        accepted("Aa0", 1);
        accepted("Da0", 1);
        accepted("Ah0", 1);
        accepted("Aa7", 1);
        accepted("Dh7+Ca3", 3);
        formulaFault("@a0", 1, 0);
        formulaFault("Ea0", 1, 0);
        formulaFault("Za0", 1, 0);
        formulaFault("A`0", 1, 0);
        formulaFault("Ai0", 1, 0);
        formulaFault("AA0", 1, 0);
        formulaFault("Aa/", 1, 0);
        formulaFault("Aa8", 1, 0);
        formulaFault("Aa:", 1, 0);
        formulaFault("Aa", 1, 0);
        formulaFault("A", 1, 0);
        formulaFault("A0a", 1, 0);
        formulaFault("1+Dh8", 1, 2);
        formulaFault("1+Di7", 1, 2);
        formulaFault("sum(Aa0:Ah8)", 1, 8);
    }

    private static void wholes() {
        begin("WHOLES (1 to 18 digits: a LONG)");
        gives("0", 0);
        gives("9", 9);
        gives("99999999999999999", 99999999999999999L);
        gives("999999999999999999", 999999999999999999L);
        formulaFault("1000000000000000000", 1, 0);
        formulaFault("9223372036854775807", 1, 0);
        gives("000000000000000001", 1);
        formulaFault("0000000000000000001", 1, 0);
        formulaFault("1+" + times(19, "9"), 1, 2);
        formulaFault(times(240, "0"), 1, 0);
        formulaFault("1/", 2, 2);
        formulaFault("1;", 1, 1);
        // 47 and 58 stand beside the digits.
        formulaFault("1:", 2, 1);
        gives("-999999999999999999", -999999999999999999L);
    }

    private static void decimals() {
        begin("DECIMALS (digits, a point, digits, one at least on each side, 15 in all at most)");
        givesReal("0.1", 0.1);
        givesReal("12345678901234.5", 12345678901234.5);
        givesReal("1.23456789012345", 1.23456789012345);
        formulaFault("123456789012345.6", 1, 0);
        formulaFault("1.234567890123456", 1, 0);
        formulaFault("12345678.12345678", 1, 0);
        givesReal("1234567.12345678", 1234567.12345678);
        formulaFault("1+0.000000000000001", 1, 2);
        givesReal("0.00000000000001", 1e-14);
        givesReal("00000000000001.5", 1.5);
        formulaFault("000000000000001.5", 1, 0);
        formulaFault("1.", 1, 1);
        formulaFault(".1", 1, 0);
        formulaFault("1..5", 1, 1);
        formulaFault("1.+5", 1, 1);
        formulaFault("1.5.", 1, 3);
        formulaFault("1.5.5", 1, 3);
        formulaFault("123456789012345.", 1, 15);
        formulaFault("123456789012345678.", 1, 18);
        formulaFault("1234567890123456789.", 1, 0);
        formulaFault("1234567890123456789.5", 1, 0);
        formulaFault("1." + times(238, "0"), 1, 0);
        givesReal("0.0", 0.0);
        // The LONG of all digits is divided once: this is not 0.1 + 0.02 + ..
        givesReal("4.35", 435.0 / 100.0);
        givesReal("0.57", 57.0 / 100.0);
        givesReal("99999999999999.9", 999999999999999.0 / 10.0);
        givesReal("9.99999999999999", 999999999999999.0 / 100000000000000.0);
    }

    private static void signs() {
        begin("SIGNS + - * / % ( ) , : < <= = <>");
        String known = "+-*/%(),:<=";
        for (char c = 1; c < 256; c++) {
            boolean token = known.indexOf(c) >= 0 || c == ' ' || c >= 'a' && c <= 'z' || c >= '0' && c <= '9';
            if (c == 120) {
                again();
            }
            text("Aa0 " + c);
            int answer = book().formula(0);
            due("formula Aa0 and byte " + (int) c, answer, c == ' ' ? 1 : token ? -102 : -101);
        }
        for (String sign : new String[] {"+", "-", "*", "/", "%", "<", "<=", "=", "<>"}) {
            accepted("1" + sign + "1", 3);
        }
        for (String sign : new String[] {">", ">=", "!", "&", "^", "~", ";"}) {
            formulaFault("1" + sign + "1", 1, 1);
        }
        formulaFault("1=>1", 1, 2);
        formulaFault("1==1", 2, 2);
        formulaFault("1=<1", 2, 2);
    }

    private static void twoSumsAtMost() {
        begin("E: SUM, or two with < <= = or <> between");
        String[] signs = {"<", "<=", "=", "<>"};
        for (String one : signs) {
            accepted("1" + one + "2", 3);
            for (String other : signs) {
                formulaFault("1" + one + "2" + other + "3", 2, 2 + one.length());
            }
        }
        gives("(3<2)<1", 1);
        gives("3<(2<1)", 0);
        gives("1+1=2*1", 1);
        gives("1+(1=2)*1", 1);
        formulaFault("<1", 2, 0);
        formulaFault("1<", 2, 2);
    }

    private static void fromTheLeft() {
        begin("both from the left");
        gives("10-4-3", 3);
        gives("10-4+3", 9);
        gives("100/10/5", 2);
        gives("7/2*2", 6);
        gives("7*2/4", 3);
        gives("17%10%4", 3);
        gives("2+3*4", 14);
        gives("2*3+4", 10);
        gives("20-2*3-4", 10);
        gives("10-(4-3)", 9);
        // 1.0 beside 2 to the 53 is lost, but not two of them together.
        givesReal("9007199254740992+1.0+1.0", 0x1p53);
        givesReal("9007199254740992+(1.0+1.0)", 0x1p53 + 2);
        givesReal("1/3.0*3", 1.0 / 3.0 * 3.0);
    }

    private static void minusOfAnAtom() {
        begin("ATOM: - ATOM");
        gives("-2*3", -6);
        gives("2*-3", -6);
        gives("2--3", 5);
        gives("2---3", -1);
        gives("-7/2", -3);
        gives("-7%4", -3);
        gives("-(7%4)", -3);
        gives("-2+3", 1);
        formulaFault("-", 2, 1);
        formulaFault("-+1", 2, 1);
        formulaFault("-*1", 2, 1);
        formulaFault("-)", 2, 1);
        printed("-1-1", "((-1)-1)");
        printed("-1*-1", "((-1)*(-1))");
    }

    /** Each WORD with what is in it, one less, one more, and what is of another sort. */
    private static void shapesOfWords() {
        begin("a CALL: if ( E , E , E ), try ( E , E ), sum ( R ) ..");
        tellFunction("f(x)=x");
        String[] shapes = {"EEE", "EE", "R", "R", "R", "R", "RE", "ERR", "RR", "NEE", "E", "E"};
        for (int i = 0; i < WORDS.length; i++) {
            if (i % 4 == 3) {
                again();
                tellFunction("f(x)=x");
            }
            String shape = shapes[i];
            int parts = 1 + shape.replace("N", "").length();
            String all = WORDS[i] + "(" + inside(shape);
            accepted(all + ")", parts);
            formulaFault(all, 2, all.length());
            formulaFault(all + ",1)", 2, all.length());
            formulaFault(all + "))", 2, all.length() + 1);
            formulaFault(WORDS[i] + "()", 2, WORDS[i].length() + 1);
            formulaFault(WORDS[i], 2, WORDS[i].length());
            formulaFault(WORDS[i] + " 1", 2, WORDS[i].length() + 1);
            for (int k = 0; k < shape.length(); k++) {
                oneOfAnotherSort(WORDS[i], shape, k);
            }
            if (shape.length() > 1) {
                String less = WORDS[i] + "(" + inside(shape.substring(0, shape.length() - 1));
                formulaFault(less + ")", 2, less.length());
            }
        }
    }

    private static String inside(String shape) {
        StringBuilder s = new StringBuilder();
        for (int k = 0; k < shape.length(); k++) {
            char c = shape.charAt(k);
            s.append(k > 0 ? "," : "").append(c == 'E' ? "1" : c == 'R' ? "Aa0:Ab0" : "f");
        }
        return s.toString();
    }

    private static void oneOfAnotherSort(String word, String shape, int k) {
        String ahead = word + "(" + inside(shape.substring(0, k)) + (k > 0 ? "," : "");
        if (shape.charAt(k) == 'E') {
            formulaFault(ahead + "Aa0:Ab0", 2, ahead.length() + 3);
        } else if (shape.charAt(k) == 'R') {
            formulaFault(ahead + "1", 2, ahead.length());
            formulaFault(ahead + "Aa0,", 2, ahead.length() + 3);
            formulaFault(ahead + "Aa0:1", 2, ahead.length() + 4);
        } else {
            formulaFault(ahead + "1", 2, ahead.length());
        }
    }

    /** What is in brackets or in a CALL is an E, so it may be two SUMS with a sign between, wherever it stands. */
    private static void comparisonsInCalls() {
        begin("( E ), or a CALL: .. E ..");
        tellFunction("f(x)=x");
        tellFunction("h(x,y,z)=x");
        accepted("(1<2)", 3);
        accepted("if(1<2,3<=4,5=6)", 10);
        accepted("try(1<>2,3<4)", 7);
        accepted("at(Aa0:Ab0,1<2)", 5);
        accepted("line(1<2,Aa0:Ab0,Aa0:Ab0)", 6);
        accepted("root(f,1<2,3<4)", 7);
        accepted("cut(1<2)", 4);
        accepted("real(1<2)", 4);
        accepted("f(1<2)", 4);
        accepted("h(1<2,3<4,5<6)", 10);
        formulaFault("-1<2<3", 2, 4);
        formulaFault("cut(1<2<3)", 2, 7);
        due("in a CONSTANT", tellConstant(0, "a=1<2"), 0);
        due("in a FUNCTION", tellFunction("f(x)=x<2"), 0);
    }

    private static void callsOfNames() {
        begin("or NAME ( E {, E} ), one to three E");
        tellFunction("f(x)=x");
        tellFunction("g(x,y)=x");
        tellFunction("h(x,y,z)=x");
        formulaFault("f()", 2, 2);
        accepted("f(1)", 2);
        accepted("g(1,2)", 3);
        accepted("h(1,2,3)", 4);
        formulaFault("h(1,2,3,4)", 2, 7);
        formulaFault("zz(1,2,3,4)", 2, 8);
        formulaFault("h(1,2,3", 2, 7);
        formulaFault("h(1,2,)", 2, 6);
        formulaFault("h(,1,2)", 2, 2);
        formulaFault("h(1 2)", 2, 4);
        accepted("h(1<2,(1),-1)", 7);
    }

    private static void wordsAreNoNames() {
        begin("The twelve WORDS if .. real are no NAMES");
        tellFunction("f(x)=x");
        for (String word : WORDS) {
            if (word.equals("count")) {
                again();
                tellFunction("f(x)=x");
            }
            int length = word.length();
            constantFault(word + "=1", 2, 0);
            functionFault(word + "(x)=1", 2, 0);
            functionFault("f(" + word + ")=1", 2, 2);
            formulaFault(word + "+1", 2, length);
            formulaFault("root(" + word + ",1,2)", 2, 5);
            due(word + " and a letter", tellConstant(3, word + "x=1"), 0);
            due(word + " and a letter", tell("Da0", word + "x"), 1);
            due("a letter and " + word, tellConstant(2, "x" + word + "=1"), 0);
            due("a FUNCTION of such a NAME", tellFunction(word + "x(y)=y"), 1);
            again();
            tellFunction("f(x)=x");
        }
    }

    private static void constantsAndFunctions() {
        begin("A FORMULA is E; a CONSTANT is NAME = E; a FUNCTION is NAME ( NAME {, NAME} ) = E, one to three "
            + "ARGUMENTS");
        constantFault("", 2, 0);
        constantFault("a", 2, 1);
        constantFault("a=", 2, 2);
        constantFault("a 1", 2, 2);
        constantFault("a<1", 2, 1);
        constantFault("a<=1", 2, 1);
        constantFault("1=1", 2, 0);
        constantFault("Aa0=1", 2, 0);
        constantFault("(a)=1", 2, 0);
        constantFault("a(x)=1", 2, 1);
        constantFault("a=1,", 2, 3);
        due("an E with =", tellConstant(0, "a=1=1"), 0);
        constantFault("a=1=1=1", 2, 5);
        functionFault("", 2, 0);
        functionFault("f", 2, 1);
        functionFault("f=1", 2, 1);
        functionFault("f()=1", 2, 2);
        due("1 ARGUMENT", tellFunction("f(x)=1"), 0);
        due("2 ARGUMENTS", tellFunction("g(x,y)=1"), 1);
        due("3 ARGUMENTS", tellFunction("h(x,y,z)=1"), 2);
        functionFault("k(x,y,z,u)=1", 2, 7);
        functionFault("k(x,y,z", 2, 7);
        functionFault("k(x y)=1", 2, 4);
        functionFault("k(x,)=1", 2, 4);
        functionFault("k(,x)=1", 2, 2);
        functionFault("k(1)=1", 2, 2);
        functionFault("k(Aa0)=1", 2, 2);
        functionFault("k((x))=1", 2, 2);
        functionFault("k(x)1", 2, 4);
        functionFault("k(x)", 2, 4);
        functionFault("k(x)=", 2, 5);
        functionFault("k(x)=1=1=1", 2, 8);
        functionFault("1(x)=1", 2, 0);
    }

    private static void countedParts() {
        begin("PARTS: each WHOLE, DECIMAL, REF that is not of an R, R, NAME without a ( behind it, - ATOM ..");
        tellFunction("f(x)=x");
        tellFunction("g(x,y)=x");
        tellConstant(3, "a=1");
        accepted("1", 1);
        accepted("1.5", 1);
        accepted("Aa0", 1);
        accepted("a", 1);
        accepted("(1)", 1);
        accepted("((a))", 1);
        accepted("-1", 2);
        accepted("-(-1)", 3);
        accepted("1+1", 3);
        accepted("1-1", 3);
        accepted("1*1", 3);
        accepted("1/1", 3);
        accepted("1%1", 3);
        accepted("1<1", 3);
        accepted("1<=1", 3);
        accepted("1=1", 3);
        accepted("1<>1", 3);
        accepted("if(1,1,1)", 4);
        accepted("try(1,1)", 3);
        accepted("sum(Aa0:Ah7)", 2);
        accepted("least(Aa0:Ah7)", 2);
        accepted("most(Aa0:Aa0)", 2);
        accepted("count(Aa0:Aa0)", 2);
        accepted("at(Aa0:Ah7,1)", 3);
        accepted("line(1,Aa0:Ah7,Aa0:Ah7)", 4);
        accepted("area(Aa0:Ah7,Aa0:Ah7)", 3);
        accepted("root(f,1,1)", 3);
        accepted("cut(1)", 2);
        accepted("real(1)", 2);
        accepted("f(1)", 2);
        accepted("g(1,a)", 3);
        due("an empty text has none", book().formula(0), -102);
    }

    private static void fortyParts() {
        begin("40 at most; 3 the 41st PART (at its first TOKEN, of a sign between at the sign, of an R at its "
            + "first REF)");
        tellFunction("f(x)=x");
        tellConstant(3, "a=1");
        tellConstant(0, "a=1");
        accepted(ones(20), 39);
        accepted(ones(19) + "+-1", 40);
        formulaFault(ones(21), 3, 40);
        String to38 = ones(19) + "+";
        String to39 = ones(19) + "+-";
        String to40 = ones(20) + "+";
        for (String one : new String[] {"1", "1.5", "Aa0", "a"}) {
            accepted(to39 + one, 40);
            formulaFault(to40 + " " + one, 3, 41);
        }
        // These have two PARTS, the second one behind the first.
        for (String two : new String[] {"-1", "cut(1)", "real(1)", "f(1)", "sum(Aa0:Ab0)", "least(Aa0:Ab0)",
            "most(Aa0:Ab0)", "count(Aa0:Ab0)"}) {
            int inner = Math.max(two.indexOf('(') + 1, two.equals("-1") ? 1 : 0);
            accepted(to38 + two, 40);
            formulaFault(to39 + two, 3, 39 + inner);
            formulaFault(to40 + two, 3, 40);
        }
    }

    private static void fortyPartsOutsideFormulas() {
        begin("40 at most, in a CONSTANT and a FUNCTION too; their NAMES and ARGUMENTS are none");
        due("40 of a CONSTANT", tellConstant(0, "a=" + ones(19) + "+-1"), 0);
        constantFault("a=" + ones(21), 3, 42);
        due("40 of a FUNCTION", tellFunction("f(x,y,z)=" + ones(19) + "+-x"), 0);
        functionFault("f(x,y,z)=" + ones(20) + "+x", 3, 49);
        functionFault("f(x,y,z)=" + ones(20) + "+f(1,1,1)", 3, 49);
        again();
        tellFunction("f(x)=x");
        // if: 3 E and itself; the 41st may be any of its own.
        String to36 = "1" + times(17, "+1") + "+";
        accepted(to36 + "if(1,2,3)", 40);
        formulaFault(to36 + "-if(1,2,3)", 3, 44);
        formulaFault(to36 + "--if(1,2,3)", 3, 43);
        accepted(to36 + "line(1,Aa0:Ab0,Aa0:Ab0)", 40);
        formulaFault(to36 + "-line(1,Aa0:Ab0,Aa1:Ab1)", 3, 52);
        formulaFault(to36 + "--line(1,Aa0:Ab0,Aa1:Ab1)", 3, 45);
        accepted(to36 + "-area(Aa0:Ab0,Aa0:Ab0)", 40);
        formulaFault(to36 + "--area(Aa0:Ab0,Aa0:Ab0)", 3, 51);
        accepted(to36 + "-at(Aa0:Ab0,1)", 40);
        formulaFault(to36 + "--at(Aa0:Ab0,1)", 3, 49);
        accepted(to36 + "-root(f,1,2)", 40);
        formulaFault(to36 + "--root(f,1,2)", 3, 47);
        accepted(to36 + "-try(1,2)", 40);
        formulaFault(to36 + "--try(1,2)", 3, 44);
        // A sign between, as the 41st, at the sign, of whichever kind.
        for (String sign : new String[] {"+", "-", "*", "/", "%", "<", "<=", "=", "<>"}) {
            formulaFault(to36 + "---1 " + sign + "1", 3, 41);
        }
    }

    private static void tenOpen() {
        begin("OPEN are at most 10 in one another; 3 the 11th OPEN: a ( up to its ), a - of an ATOM up to the "
            + "ATOM's end");
        tellFunction("f(x)=x");
        accepted(times(10, "(") + "1" + times(10, ")"), 1);
        formulaFault(times(11, "(") + "1" + times(11, ")"), 3, 10);
        accepted(times(10, "-") + "1", 11);
        formulaFault(times(11, "-") + "1", 3, 10);
        accepted(times(10, "f(") + "1" + times(10, ")"), 11);
        formulaFault(times(11, "f(") + "1" + times(11, ")"), 3, 21);
        accepted(times(10, "cut(") + "1" + times(10, ")"), 11);
        formulaFault(times(11, "cut(") + "1" + times(11, ")"), 3, 43);
        accepted(times(9, "(") + "-1" + times(9, ")"), 2);
        formulaFault(times(10, "(") + "-1" + times(10, ")"), 3, 10);
        accepted(times(9, "-") + "(1)", 10);
        formulaFault(times(10, "-") + "(1)", 3, 10);
        String[] calls = {"if(1,2,3)", "try(1,2)", "sum(Aa0:Ab0)", "least(Aa0:Ab0)", "most(Aa0:Ab0)", "count(Aa0:Ab0)",
            "at(Aa0:Ab0,1)", "line(1,Aa0:Ab0,Aa0:Ab0)", "area(Aa0:Ab0,Aa0:Ab0)", "root(f,1,2)", "cut(1)", "real(1)"};
        for (String call : calls) {
            due("9 around " + call, tell("Aa0", times(9, "(") + call + times(9, ")")) > 0 ? 1 : 0, 1);
            formulaFault(times(10, "(") + call, 3, 10 + call.indexOf('('));
        }
        due("10 in a CONSTANT", tellConstant(0, "a=" + times(10, "(") + "1" + times(10, ")")), 0);
        constantFault("a=" + times(11, "("), 3, 12);
        due("10 in a FUNCTION", tellFunction("g(x)=" + times(10, "(") + "1" + times(10, ")")), 1);
        functionFault("g(x)=" + times(11, "("), 3, 15);
    }

    private static void openEnds() {
        begin("a ( up to its ), a - of an ATOM up to the ATOM's end");
        tellFunction("g(x,y)=x");
        accepted(times(12, "(1)+") + "1", 25);
        accepted(times(12, "-1+") + "1", 37);
        accepted(times(10, "-") + "1*" + times(10, "(") + "1" + times(10, ")"), 13);
        accepted("-(1)*" + times(10, "(") + "1" + times(10, ")"), 4);
        accepted("g(" + times(9, "(") + "1" + times(9, ")") + "," + times(9, "(") + "1" + times(9, ")") + ")", 3);
        formulaFault("g(" + times(9, "(") + "1" + times(9, ")") + "," + times(10, "("), 3, 31);
        accepted("(" + times(9, "-") + "1" + times(9, "-1") + ")", 28);
        // A - that is a sign between opens nothing.
        accepted(times(10, "(") + "1-1" + times(10, ")"), 3);
    }

    private static void placesWithoutToken() {
        begin("1 a place at which no TOKEN begins");
        formulaFault("&", 1, 0);
        formulaFault("   &", 1, 3);
        formulaFault("1 &", 1, 2);
        formulaFault("1+&", 1, 2);
        formulaFault("(1&", 1, 2);
        formulaFault("A", 1, 0);
        formulaFault("sum(A", 1, 4);
        formulaFault("sum(Aa0:D", 1, 8);
        formulaFault("1.", 1, 1);
        formulaFault("1.a", 1, 1);
        formulaFault("1.5.5", 1, 3);
        formulaFault("1.5 .5", 1, 4);
        formulaFault("1+.", 1, 2);
        constantFault("&=1", 1, 0);
        constantFault("a&1", 1, 1);
        constantFault("a=1&", 1, 3);
        functionFault("f&x)=1", 1, 1);
        functionFault("f(&)=1", 1, 2);
        functionFault("f(x&=1", 1, 3);
        functionFault("f(x)&1", 1, 4);
        functionFault("f(x)=1&", 1, 6);
    }

    private static void tooLong() {
        begin("a NAME, WHOLE, DECIMAL too long (at its first byte)");
        formulaFault("1+ abcdefghi", 1, 3);
        formulaFault("1+ 1234567890123456789", 1, 3);
        formulaFault("1+ 123456789.1234567", 1, 3);
        formulaFault("(abcdefghijklmnop(1))", 1, 1);
        // A NAME too long is none of the WORDS that it begins with.
        formulaFault("countcount(Aa0:Ab0)", 1, 0);
        constantFault(" abcdefghi=1", 1, 1);
        functionFault(" f(abcdefghi)=1", 1, 3);
        functionFault("f(x)=abcdefghi", 1, 5);
        // Too long without its point, and behind it.
        formulaFault("1234567890123456789.", 1, 0);
        formulaFault("1234567890123456.5.5", 1, 0);
    }

    private static void tokensThatDoNotGoOn() {
        begin("2 a TOKEN with which no such text goes on");
        tellFunction("f(x)=x");
        for (String sign : new String[] {"+", "*", "/", "%", ")", ",", ":", "<", "<=", "=", "<>"}) {
            formulaFault(sign, 2, 0);
            formulaFault("1+" + sign, 2, 2);
            formulaFault("- " + sign + "1", 2, 2);
        }
        for (String token : new String[] {"(", "1", "1.5", "Aa0", "a", "if", ")", ",", ":"}) {
            formulaFault("1 " + token, 2, 2);
            formulaFault("(1) " + token, 2, 4);
        }
        formulaFault("Aa0(1)", 2, 3);
        formulaFault("Aa0:Ab0", 2, 3);
        formulaFault("f(Aa0:Ab0)", 2, 5);
        formulaFault("sum((Aa0:Ab0))", 2, 4);
        formulaFault("sum(-Aa0:Ab0)", 2, 4);
        formulaFault("sum(Aa0:(Ab0))", 2, 8);
        formulaFault("sum(Aa0:Ab0+1)", 2, 11);
        formulaFault("sum(Aa0,Ab0)", 2, 7);
        formulaFault("root(f(1),1,2)", 2, 6);
        formulaFault("root((f),1,2)", 2, 5);
    }

    private static void theEnd() {
        begin("or the end (behind the last byte)");
        formulaFault("", 2, 0);
        formulaFault(" ", 2, 1);
        formulaFault("(", 2, 1);
        formulaFault("(1", 2, 2);
        formulaFault("1+", 2, 2);
        formulaFault("1+ ", 2, 3);
        formulaFault("-", 2, 1);
        formulaFault("1<", 2, 2);
        formulaFault("sum(Aa0", 2, 7);
        formulaFault("sum(Aa0:", 2, 8);
        formulaFault("if", 2, 2);
        constantFault("a=1+", 2, 4);
        functionFault("f(x)=", 2, 5);
        functionFault("f(x", 2, 3);
    }

    private static void firstByPlace() {
        begin("The first one by its place");
        formulaFault("1 2 &", 2, 2);
        formulaFault("1 & 2 3", 1, 2);
        formulaFault(ones(21) + "&", 3, 40);
        formulaFault(ones(20) + "&" + ones(21), 1, 39);
        formulaFault(ones(21) + ")", 3, 40);
        formulaFault("1)" + ones(21), 2, 1);
        formulaFault(times(11, "(") + "&", 3, 10);
        formulaFault(times(10, "(") + "&" + times(11, "("), 1, 10);
        formulaFault(times(10, "(") + ")" + times(11, "("), 2, 10);
        formulaFault(times(11, "(") + ")", 3, 10);
        formulaFault(times(11, "-") + ones(21), 3, 10);
        formulaFault(times(10, "-") + ones(21), 3, 10 + 30);
        formulaFault("1+ +" + "&", 2, 3);
    }

    private static void leastNumberOfOnePlace() {
        begin("of one place the least number");
        // What is too long to be a TOKEN might have been the 41st PART, and could not go on.
        formulaFault(ones(20) + "+abcdefghi", 1, 40);
        formulaFault(ones(20) + "+1234567890123456789", 1, 40);
        formulaFault(ones(20) + "+1.2345678901234567", 1, 40);
        formulaFault(ones(20) + " abcdefghi", 1, 40);
        formulaFault(ones(20) + "+A", 1, 40);
        formulaFault(ones(20) + "+)", 2, 40);
        formulaFault(ones(20) + "+", 2, 40);
        // A second sign of an E is no PART.
        formulaFault("1<" + ones(19) + "+-1", 3, 40);
        formulaFault("1<" + ones(19) + "<1", 2, 39);
        formulaFault("1<" + ones(18) + "+-1<1", 2, 40);
        formulaFault(times(10, "(") + "1(", 2, 11);
        formulaFault("1 (" + times(10, "("), 2, 2);
    }

    private static void laterFaultsOnlyWithoutOthers() {
        begin("If there is none: 4 ..");
        formulaFault("zz+1+", 2, 5);
        formulaFault("zz+1+&", 1, 5);
        formulaFault("zz+" + ones(20), 3, 2 + 39);
        formulaFault("zz(1)+sum(Ab0:Aa0)+", 2, 19);
        formulaFault("zz+" + ones(19), 4, 0);
        functionFault("f(x,x)=zz+", 2, 10);
        functionFault("f(x,x)=zz", 5, 4);
        constantFault("a=zz+Aa0+", 2, 9);
        constantFault("a=zz+Aa0", 4, 2);
    }

    private static void namesOfConstants() {
        begin("4 a NAME that is none there: no CONSTANT of the SHEET (in a CONSTANT: none that stands before it)");
        tellFunction("f(x)=x");
        tellConstant(0, "a=1");
        tellConstant(1, "b=1");
        due("of its SHEET", tell("Aa0", "a"), 1);
        due("of another", tell("Ba0", "a"), -104);
        due("of its SHEET", tell("Ba0", "b"), 1);
        due("of another", tell("Aa0", "b"), -104);
        due("of another", tell("Ca0", "b"), -104);
        formulaFault("f", 4, 0);
        formulaFault("x", 4, 0);
        formulaFault("1+aa", 4, 2);
        formulaFault("if(1,a,c)", 4, 7);
        due("before it", tellConstant(0, "b=a"), 1);
        due("itself, not told yet", tellConstant(0, "c=c"), -104);
        due("before it", tellConstant(0, "c=a+b"), 2);
        due("itself", tellConstant(0, "c=c+1"), -104);
        due("itself, the first", tellConstant(0, "a=a"), -104);
        due("behind it", tellConstant(0, "a=c"), -104);
        due("behind it", tellConstant(0, "b=c"), -104);
        due("before it", tellConstant(0, "b=a+1"), 1);
        due("of another SHEET", tellConstant(2, "d=a"), -104);
        constantFault("d=a+b+c+d", 4, 8);
        constantFault("d=f", 4, 2);
        due("a FORMULA knows all", tell("Aa0", "a+b+c"), 5);
    }

    private static void namesOfArguments() {
        begin("in a FUNCTION: none of its ARGUMENTS");
        tellConstant(0, "a=1");
        due("its ARGUMENTS", tellFunction("f(x,y,z)=x+y+z"), 0);
        functionFault("g(x)=y", 4, 5);
        functionFault("g(x,y)=x+y+z", 4, 11);
        functionFault("g(x)=a", 4, 5);
        functionFault("g(x)=g", 4, 5);
        functionFault("g(x)=f", 4, 5);
        functionFault("g(x)=x+xx", 4, 7);
        functionFault("g(x)=x(1)", 4, 5);
        functionFault("g(x)=root(x,1,2)", 4, 10);
        due("an ARGUMENT of a CONSTANT's NAME", tellFunction("g(a)=a"), 1);
        due("an ARGUMENT of its own NAME", tellFunction("h(h)=h+h(h)"), 2);
        gives("g(7)", 7);
    }

    private static void namesOfFunctions() {
        begin("in a CALL or root: no FUNCTION, or one with another number of ARGUMENTS (.. being told counts as told)");
        formulaFault("f(1)", 4, 0);
        formulaFault("root(f,1,2)", 4, 5);
        tellFunction("f(x)=x");
        tellFunction("g(x,y)=x");
        tellFunction("h(x,y,z)=x");
        String[] names = {"f", "g", "h"};
        String[] given = {"(1)", "(1,2)", "(1,2,3)"};
        for (int i = 0; i < 3; i++) {
            for (int k = 0; k < 3; k++) {
                due(names[i] + given[k], tell("Aa0", names[i] + given[k]), i == k ? 2 + k : -104);
            }
        }
        accepted("root(f,1,2)", 3);
        formulaFault("root(g,1,2)", 4, 5);
        formulaFault("root(h,1,2)", 4, 5);
        formulaFault("1+ f(1,2)", 4, 3);
        functionFault("k(x)=m(x)", 4, 5);
        due("itself", tellFunction("k(x)=k(x)"), 3);
        functionFault("m(x)=m(x,x)", 4, 5);
        functionFault("m(x,y)=m(x)", 4, 7);
        due("itself, in root", tellFunction("m(x)=root(m,x,x)"), 4);
        functionFault("n(x,y)=root(n,x,y)", 4, 12);
        functionFault("n(x,y)=n(x,y,x)", 4, 7);
        due("of a CONSTANT", tellConstant(0, "a=f(1)"), 0);
        constantFault("b=a(1)", 4, 2);
        constantFault("b=b(1)", 4, 2);
        constantFault("b=root(g,1,2)", 4, 7);
        due("what was refused is not told", book().count(2), 5);
    }

    private static void areas() {
        begin("also (at its first REF) an R of two SHEETS, or whose second REF has a lesser row or column "
            + "than the first");
        accepted("sum(Aa0:Aa0)", 2);
        accepted("sum(Dd3:Dd3)", 2);
        accepted("sum(Dd3:De3)", 2);
        accepted("sum(Dd3:Dd4)", 2);
        formulaFault("sum(Dd3:Dc3)", 4, 4);
        formulaFault("sum(Dd3:Dd2)", 4, 4);
        formulaFault("sum(Dd3:Dh2)", 4, 4);
        formulaFault("sum(Dd3:Dc7)", 4, 4);
        formulaFault("sum(Aa0:Ba0)", 4, 4);
        formulaFault("sum(Aa0:Bh7)", 4, 4);
        formulaFault("sum(Ba0:Ah7)", 4, 4);
        formulaFault("sum(Ah7:Ba0)", 4, 4);
        formulaFault("1+ sum( Dd3 : Dc3 )", 4, 8);
        formulaFault("at(Ab0:Aa0,1)", 4, 3);
        formulaFault("line(1,Ab0:Aa0,Aa0:Ab0)", 4, 7);
        formulaFault("line(1,Aa0:Ab0,Aa1:Ab0)", 4, 15);
        formulaFault("area(Aa0:Ba0,Aa0:Ab0)", 4, 5);
        formulaFault("area(Aa0:Ab0,Ca0:Da0)", 4, 13);
        formulaFault("count(Ab0:Aa0)+least(Ab0:Aa0)", 4, 6);
    }

    private static void refsOutsideFormulas() {
        begin("a REF or R that is not in a FORMULA");
        constantFault("a=Aa0", 4, 2);
        constantFault("a=1+Aa0", 4, 4);
        constantFault("a=sum(Aa0:Ab0)", 4, 6);
        constantFault("a=at(Aa0:Ab0,1)", 4, 5);
        constantFault("a=line(1,Aa0:Ab0,Aa0:Ab0)", 4, 9);
        constantFault("a=area(Aa0:Ab0,Aa0:Ab0)", 4, 7);
        functionFault("f(x)=Aa0", 4, 5);
        functionFault("f(x)=x+count(Aa0:Ab0)", 4, 13);
        functionFault("f(x)=if(x,x,most(Aa0:Ab0))", 4, 17);
        due("count(2)", book().count(2), 0);
        due("count(7)", book().count(7), 0);
    }

    private static void secondArgument() {
        begin("5 an ARGUMENT that is a second one of its NAME");
        functionFault("f(x,x)=x", 5, 4);
        functionFault("f(x,x,y)=x", 5, 4);
        functionFault("f(x,y,x)=x", 5, 6);
        functionFault("f(y,x,x)=x", 5, 6);
        functionFault("f(x,x,x)=x", 5, 4);
        functionFault("f( xy , xy )=1", 5, 8);
        due("unlike ones", tellFunction("f(x,xx,y)=x"), 0);
        due("as the FUNCTION", tellFunction("g(g,f)=g"), 1);
    }

    private static void anotherNumberOfArguments() {
        begin("a FUNCTION's NAME that was told with another number of ARGUMENTS");
        tellFunction("f(x,y)=x");
        functionFault("f(x)=x", 5, 0);
        functionFault("f(x,y,z)=x", 5, 0);
        functionFault("  f(x)=x", 5, 2);
        due("the same number", tellFunction("f(u,v)=v"), 0);
        gives("f(1,2)", 2);
        due("what was refused is not told", tellFunction("g(x)=zz"), -104);
        due("so another number is none", tellFunction("g(x,y)=x"), 1);
    }

    private static void firstOfLateFaults() {
        begin("Of these the first one by its place");
        tellFunction("g(x)=x");
        functionFault("f(x,x)=zz", 5, 4);
        functionFault("g(x,x)=zz", 5, 0);
        functionFault("g(x,y)=zz", 5, 0);
        functionFault("f(x)=g(1,zz)+g(zz)", 4, 5);
        functionFault("f(x)=g(zz)+g(1,2)", 4, 7);
        functionFault("f(x)=sum(Aa0:Ba0)+zz", 4, 9);
        formulaFault("g(zz)+yy", 4, 2);
        formulaFault("g(1,zz)", 4, 0);
        formulaFault("root(g,zz,yy)", 4, 7);
        formulaFault("root(zz,yy,1)", 4, 5);
        formulaFault("at(Ab0:Aa0,zz)", 4, 3);
        formulaFault("line(zz,Ab0:Aa0,Aa0:Ab0)", 4, 5);
        constantFault("a=g(Aa0,zz)", 4, 2);
        constantFault("a=g(Aa0)+zz", 4, 4);
    }

    private static void toldAgain() {
        begin("Told again, a CONSTANT (in its SHEET), a FUNCTION takes the place of the one of its NAME, has "
            + "its number");
        due("from 0", tellConstant(0, "a=1"), 0);
        due("the next", tellConstant(0, "b=2"), 1);
        due("from 0, of another SHEET", tellConstant(1, "b=3"), 0);
        due("again", tellConstant(0, "a=4"), 0);
        due("again", tellConstant(0, "b=5"), 1);
        due("the next", tellConstant(0, "c=6"), 2);
        due("the next, of another SHEET", tellConstant(1, "a=7"), 1);
        due("count(7)", book().count(7), 3);
        due("count(8)", book().count(8), 2);
        book().recalculate();
        constantIs(0, 0, 1, 4, 0);
        constantIs(0, 1, 1, 5, 0);
        constantIs(0, 2, 1, 6, 0);
        constantIs(1, 0, 1, 3, 0);
        constantIs(1, 1, 1, 7, 0);
        due("from 0", tellFunction("f(x)=1"), 0);
        due("the next", tellFunction("g(x)=2"), 1);
        due("again", tellFunction("f(x)=3"), 0);
        due("the next", tellFunction("h(x)=4"), 2);
        due("count(2)", book().count(2), 3);
        gives("f(0)*100+g(0)*10+h(0)", 324);
    }

    private static void fiveConstants() {
        begin("There are at most 5 CONSTANTS of a SHEET");
        for (int sheet = 0; sheet < 4; sheet++) {
            for (int i = 0; i < 5; i++) {
                due("number " + i, tellConstant(sheet, (char) ('a' + i) + "=" + (sheet * 10 + i)), i);
            }
            due("the sixth", tellConstant(sheet, "f=1"), -2);
            due("no FAULT", book().fault(), -1);
            due("THE TEXT is taken", book().count(5), 0);
            due("the sixth with a FAULT", tellConstant(sheet, "f=f"), -104);
            due("the fifth again", tellConstant(sheet, "e=d+2"), 4);
            due("count", book().count(7 + sheet), 5);
        }
        book().recalculate();
        for (int sheet = 0; sheet < 4; sheet++) {
            constantIs(sheet, 0, 1, sheet * 10, 0);
            constantIs(sheet, 4, 1, sheet * 10 + 5, 0);
            due("no sixth", book().named(sheet, 5, 0), -1);
        }
        due("no NAME of the sixth", tell("Aa0", "f"), -104);
    }

    private static void eightFunctions() {
        begin("8 FUNCTIONS");
        for (int i = 0; i < 8; i++) {
            due("number " + i, tellFunction((char) ('f' + i) + "(x)=x+" + i), i);
        }
        due("the ninth", tellFunction("a(x)=x"), -2);
        due("no FAULT", book().fault(), -1);
        due("THE TEXT is taken", book().count(5), 0);
        due("the ninth that calls itself", tellFunction("a(x)=a(x)"), -2);
        due("the ninth with a FAULT", tellFunction("a(x)=y"), -104);
        due("the eighth again", tellFunction("m(x)=x+70"), 7);
        due("the first again", tellFunction("f(x)=x+m(x)"), 0);
        due("count(2)", book().count(2), 8);
        formulaFault("a(1)", 4, 0);
        gives("m(1)", 71);
        gives("f(1)", 72);
        gives("g(1)", 2);
    }

    private static void fortyEightFormulas() {
        begin("48 cells with FORMULAS");
        for (int cell = 0; cell < 47; cell++) {
            text("1");
            due("formula(" + cell + ")", book().formula(cell * 5), 1);
        }
        due("count(1)", book().count(1), 47);
        due("the 48th", tell("Dh7", "1"), 1);
        due("the 49th", tell("Dg7", "1"), -2);
        due("no FAULT", book().fault(), -1);
        due("THE TEXT is taken", book().count(5), 0);
        due("it is EMPTY still", book().state(254), 0);
        due("the 49th with a FAULT", tell("Dg7", "1+"), -102);
        due("one of the 48 again", tell("Dh7", "2"), 1);
        due("one of the 48 again", tell("Aa0", "3"), 1);
        due("count(1)", book().count(1), 48);
        due("recalculate()", book().recalculate(), 48);
        book().whole(0, 1);
        due("count(1)", book().count(1), 47);
        due("room by whole()", tell("Dg7", "1"), 1);
        due("no room", tell("Aa0", "1"), -2);
        due("a refused one leaves the VALUE", book().value(0), 1);
        book().number(5, 1, 0);
        due("room by number()", tell("Aa0", "1"), 1);
        due("no room", tell("Df7", "1"), -2);
        book().empty(10);
        due("room by empty()", tell("Df7", "1"), 1);
        due("no room", tell("De7", "1"), -2);
        due("count(1)", book().count(1), 48);
    }

    private static void printedNumerals() {
        begin("PRINTED: WHOLES and DECIMALS without 0s ahead (a DECIMAL: one digit at least ahead of the point ..)");
        printed("0", "0");
        printed("00", "0");
        printed("000000000000000000", "0");
        printed("10", "10");
        printed("010", "10");
        printed("0.0", "0.0");
        printed("00.0", "0.0");
        printed("00.00", "0.00");
        printed("01.50", "1.50");
        printed("10.010", "10.010");
        printed("00000000000000.1", "0.1");
        printed("0.00000000000000", "0.00000000000000");
        printed("999999999999999999", "999999999999999999");
    }

    private static void printedSigns() {
        begin("- ATOM: ( - ATOM ); a sign between: ( left sign right )");
        tellConstant(0, "abc=1");
        printed("Dh7", "Dh7");
        printed("abc", "abc");
        printed("(((abc)))", "abc");
        printed("-1", "(-1)");
        printed("--1", "(-(-1))");
        printed("-(1+2)", "(-(1+2))");
        printed("1+2+3", "((1+2)+3)");
        printed("1+(2+3)", "(1+(2+3))");
        printed("1*2+3*4", "((1*2)+(3*4))");
        printed("1%2/3", "((1%2)/3)");
        printed("1 <= 2", "(1<=2)");
        printed("1 <> 2", "(1<>2)");
        printed("1 < 2", "(1<2)");
        printed("1 = 2", "(1=2)");
        printed("1-2-3<4-5", "(((1-2)-3)<(4-5))");
    }

    private static void printedCalls() {
        begin("CALLS by WORD or NAME, ( , what is in it with , between, ); R with its : ; all without blanks");
        tellFunction("f(x)=x");
        tellFunction("abcdefgh(x,y,z)=x");
        printed(" if ( 1 , 2 , 3 ) ", "if(1,2,3)");
        printed("try ( 1 , 2 )", "try(1,2)");
        printed("sum ( Aa0 : Ab1 )", "sum(Aa0:Ab1)");
        printed("least ( Aa0 : Ab1 )", "least(Aa0:Ab1)");
        printed("most(Aa0:Ab1)", "most(Aa0:Ab1)");
        printed("count(Aa0:Ab1)", "count(Aa0:Ab1)");
        again();
        tellFunction("f(x)=x");
        tellFunction("abcdefgh(x,y,z)=x");
        printed("at(Aa0:Ab1,01)", "at(Aa0:Ab1,1)");
        printed("line(1+1,Aa0:Ab1,Ca0:Cb1)", "line((1+1),Aa0:Ab1,Ca0:Cb1)");
        printed("area(Aa0:Ab1,Ca0:Cb1)", "area(Aa0:Ab1,Ca0:Cb1)");
        printed("root ( f , -1 , 2 )", "root(f,(-1),2)");
        printed("cut(1)", "cut(1)");
        printed("real(1)", "real(1)");
        printed("f((1))", "f(1)");
        printed("abcdefgh(1,(2),3)", "abcdefgh(1,2,3)");
    }
}
