import java.util.Random;

/** No call throws or fails to end, for any arguments in any state. */
public final class AnyArgumentsTest {
    private static final int[] EDGES = {
        Integer.MIN_VALUE, -257, -256, -65, -64, -2, -1, 0, 1, 2, 3, 4, 5, 7, 8, 9, 10, 11, 14, 15, 16, 23, 24, 47, 48,
        63, 64, 127, 128, 191, 192, 239, 240, 241, 255, 256, 257, 319, 320, Integer.MAX_VALUE
    };
    private static final String BYTES = "0123456789.abcdefghfgxABCD+-*/%(),:<=> ifsumtry";

    private final Random random;
    private final LoadBook book = new LoadBook();

    private AnyArgumentsTest(int seed) {
        random = new Random(seed);
    }

    public static void main(String[] args) {
        for (int seed = 0; seed < 2000; seed++) {
            AnyArgumentsTest run = new AnyArgumentsTest(seed);
            try {
                run.go();
            } catch (RuntimeException | StackOverflowError thrown) {
                System.out.println("seed " + seed + " threw " + thrown);
                thrown.printStackTrace(System.out);
                System.exit(1);
            }
        }
        System.out.println("no call threw");
    }

    private void go() {
        for (int n = 0; n < 512; n++) {
            call(random.nextInt(26));
        }
    }

    private int any() {
        return random.nextInt(3) == 0 ? EDGES[random.nextInt(EDGES.length)] : random.nextInt(64);
    }

    private long bytes() {
        long all = 0;
        for (int i = 0; i < 8; i++) {
            all = all << 8 | BYTES.charAt(random.nextInt(BYTES.length()));
        }
        return random.nextInt(20) == 0 ? random.nextLong() : all;
    }

    private void type(String s) {
        for (int i = 0; i < s.length(); i += 8) {
            book.type(Bench.bytes(s.substring(i, Math.min(s.length(), i + 8))));
        }
    }

    private void tellSomething() {
        book.wipe();
        switch (random.nextInt(6)) {
            case 0:
                type("f(x)=if(x<1,0,f(x-1)+f(x-2))");
                book.function();
                break;
            case 1:
                type("g(x,y)=root(f,x,y)");
                book.function();
                break;
            case 2:
                type("a=f(9)/3");
                book.constant(random.nextInt(4));
                break;
            default:
                type(new String[] {"sum(Aa0:Ah7)%f(3)", "g(Aa0,Ab1)", "try(a,1)+Ab0", "line(Aa0,Aa0:Ah0,Aa1:Ah1)",
                    "at(Aa0:Ad3,Ab0)", "-area(Aa0:Ac0,Ab1:Ad1)"}[random.nextInt(6)]);
                book.formula(random.nextInt(256));
                break;
        }
    }

    private void call(int which) {
        switch (which) {
            case 0: book.type(bytes()); break;
            case 1: if (random.nextInt(3) == 0) { book.wipe(); } break;
            case 2: book.whole(any(), random.nextLong() >> random.nextInt(64)); break;
            case 3: book.number(any(), random.nextLong() >> random.nextInt(64), any()); break;
            case 4: book.empty(any()); break;
            case 5: book.formula(any()); break;
            case 6: book.function(); break;
            case 7: book.constant(any()); break;
            case 8: book.fault(); break;
            case 9: book.print(any()); break;
            case 10: book.sign(any()); break;
            case 11: book.take(); break;
            case 12: book.recalculate(); break;
            case 13: book.state(any()); break;
            case 14: book.value(any()); break;
            case 15: book.failure(any(), any()); break;
            case 16: book.done(any()); break;
            case 17: book.needs(any(), any()); break;
            case 18: book.neededBy(any(), any()); break;
            case 19: book.cycle(any(), any()); break;
            case 20: book.trace(any(), any()); break;
            case 21: book.named(any(), any(), any()); break;
            case 22: book.old(any(), any(), any()); break;
            case 23: book.count(any()); break;
            default: tellSomething(); break;
        }
    }
}
