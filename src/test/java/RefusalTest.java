import java.util.function.ToLongFunction;

/** REFUSALS: the first that fits is told, it alone is counted, and nothing else changes. */
public final class RefusalTest {
    private static final Check CHECK = new Check();
    private static final int LOW = Integer.MIN_VALUE;
    private static final int HIGH = Integer.MAX_VALUE;
    private static final long INTS = 1000000000L;
    private static final long LONGS = 4000000000000000000L;

    // Whether all is full, or some of it is there alone.
    private static boolean full;

    public static void main(String[] args) {
        for (boolean each : new boolean[] {false, true}) {
            full = each;
            told();
            reckoned();
            rows();
        }
        noImage();
        fullOfLetters();
        fullOfNumbers();
        CHECK.end("RefusalTest");
    }

    /** With two EATERS, a ROW of four, two letters and no image; or full of them, with an image. */
    private static AlwaysYesterdays made() {
        AlwaysYesterdays x = Check.of("ec355;ep279;s203;s304;wooxoxoo;b042;hm;c315;d;");
        if (full) {
            Check.tell(x, "ee991;ea119;");
            x.image();
            Check.tell(x, "s160;s460;hb;d;");
        }
        Check.row(x, 0, 1, 2, 3);
        for (int i = 0; i < (full ? 16 : 0); i++) {
            x.row(i);
        }
        for (int i = 0; i < (full ? 48 : 1); i++) {
            x.letter('d');
            x.letter(';');
        }
        return x;
    }

    private static void refused(String call, int refusal, ToLongFunction<AlwaysYesterdays> of) {
        refused(call, refusal, refusal, of);
    }

    private static void refused(String call, int refusal, long as, ToLongFunction<AlwaysYesterdays> of) {
        CHECK.promise(call);
        AlwaysYesterdays x = made();
        AlwaysYesterdays other = made();
        CHECK.due("the call", of.applyAsLong(x), as);
        CHECK.due("the call again", of.applyAsLong(x), as);
        for (int what = 11; what <= 16; what++) {
            CHECK.due("count(" + what + ")", x.count(what), what == 10 - refusal ? 2 : 0);
        }
        CHECK.that("nothing changes", state(x).equals(state(other)));
    }

    private static String state(AlwaysYesterdays x) {
        StringBuilder s = new StringBuilder();
        for (int what = 0; what < 9; what++) {
            s.append(x.count(what)).append(' ');
        }
        s.append(x.fits()).append(' ').append(x.judge()).append(' ').append(x.house()).append(' ');
        for (int e = x.count(0) - 1; e >= 0; e--) {
            for (int what = 0; what < 4; what++) {
                s.append(x.eater(e, what)).append(' ');
            }
        }
        for (int n = 0; n < 29; n++) {
            for (int what = 0; what < 6; what++) {
                s.append(x.total(n, what)).append(' ');
            }
        }
        for (int age = 0; age < 5; age++) {
            s.append(x.stock(age, 0)).append(' ');
        }
        for (int what = 0; what < 6; what++) {
            s.append(x.set(what, 0)).append(' ');
        }
        for (int day = 0; day < 7; day++) {
            s.append(x.open(day, 0)).append(' ');
        }
        s.append(x.on()).append(' ');
        return s.append(Check.household(x)).toString();
    }

    private static void told() {
        for (int c : new int[] {-1, LOW}) {
            refused("letter(" + c + ")", -4, x -> x.letter(c));
        }
        for (int c : new int[] {256, HIGH}) {
            refused("letter(" + c + ")", -6, x -> x.letter(c));
        }
        for (int e : new int[] {-1, full ? 4 : 2, LOW, HIGH}) {
            refused("eater(" + e + ", 9)", -1, x -> x.eater(e, 9));
            refused("worth(" + e + ", 0)", -1, x -> x.worth(e, 0));
            refused("worth(" + e + ", 5)", -1, x -> x.worth(e, 5));
            refused("likes(" + e + ")", -1, x -> x.likes(e));
        }
        for (int what : new int[] {-1, 4, LOW, HIGH}) {
            refused("eater(1, " + what + ")", -2, x -> x.eater(1, what));
        }
        for (int age : new int[] {-1, 5, LOW, HIGH}) {
            refused("worth(1, " + age + ")", -1, x -> x.worth(1, age));
            refused("whose(" + age + ")", -1, x -> x.whose(age));
            refused("stock(" + age + ", -1)", -1, x -> x.stock(age, -1));
            refused("stock(" + age + ", 61)", -1, x -> x.stock(age, 61));
        }
        refused("stock(0, -1)", -4, x -> x.stock(0, -1));
        refused("stock(4, LOW)", -4, x -> x.stock(4, LOW));
        refused("stock(4, 61)", -6, x -> x.stock(4, 61));
        refused("stock(4, HIGH)", -6, x -> x.stock(4, HIGH));
        for (int day : new int[] {-1, 7, LOW, HIGH}) {
            refused("open(" + day + ", 2)", -1, x -> x.open(day, 2));
        }
        for (int is : new int[] {-1, 2, LOW, HIGH}) {
            refused("open(6, " + is + ")", -2, x -> x.open(6, is));
        }
        for (int what : new int[] {-1, 6, LOW, HIGH}) {
            refused("set(" + what + ", -1)", -2, x -> x.set(what, -1));
            refused("set(" + what + ", 99)", -2, x -> x.set(what, 99));
        }
        int[] most = {30, 9, 9, 9, 9, 5};
        for (int what = 0; what < 6; what++) {
            int at = what;
            refused("set(" + what + ", -1)", -4, x -> x.set(at, -1));
            refused("set(" + what + ", LOW)", -4, x -> x.set(at, LOW));
            refused("set(" + what + ", above)", -6, x -> x.set(at, most[at] + 1));
            refused("set(" + what + ", HIGH)", -6, x -> x.set(at, HIGH));
        }
    }

    private static void noImage() {
        full = false;
        refused("on(), no image", -3, AlwaysYesterdays::on);
    }

    private static void fullOfLetters() {
        full = true;
        for (int c : new int[] {0, 'd', 255}) {
            refused("letter(" + c + "), the 97th", -6, x -> x.letter(c));
        }
    }

    private static void fullOfNumbers() {
        full = true;
        for (int v : new int[] {0, 99}) {
            refused("row(" + v + "), the 21st", -6, x -> x.row(v));
        }
    }

    private static void reckoned() {
        int[] bad = {-1, LOW, 29, HIGH};
        for (int n : bad) {
            int refusal = n < 0 ? -4 : -6;
            refused("total(" + n + ", 9)", refusal, INTS - refusal, x -> x.total(n, 9));
            refused("left(" + n + ", 9)", refusal, x -> x.left(n, 9));
            refused("out(" + n + ")", refusal, x -> x.out(n));
            refused("less(" + n + ")", refusal, x -> x.less(n));
            refused("best(" + n + ")", refusal, x -> x.best(n));
            refused("buying(" + n + ")", refusal, x -> x.buying(n));
            refused("half(" + n + ")", refusal, x -> x.half(n));
            refused("pays(" + n + ")", refusal, INTS - refusal, x -> x.pays(n));
        }
        for (int what : new int[] {-1, 6, LOW, HIGH}) {
            refused("total(0, " + what + ")", -2, INTS + 2, x -> x.total(0, what));
            refused("total(28, " + what + ")", -2, INTS + 2, x -> x.total(28, what));
        }
        for (int age : new int[] {-1, 5, LOW, HIGH}) {
            refused("left(28, " + age + ")", -1, x -> x.left(28, age));
        }
        for (int part : new int[] {-1, 2, LOW, HIGH}) {
            refused("mean(" + part + ")", -2, LONGS + 2, x -> x.mean(part));
        }
        for (int n : new int[] {0, -1, LOW}) {
            refused("lots(" + n + ", 5)", -4, x -> x.lots(n, 5));
        }
        for (int n : new int[] {21, HIGH}) {
            refused("lots(" + n + ", 5)", -6, x -> x.lots(n, 5));
        }
    }

    private static void rows() {
        for (int n : new int[] {0, -1, LOW}) {
            refused("bottles(" + n + ")", -4, x -> x.bottles(n));
        }
        for (int n : new int[] {7, HIGH}) {
            refused("bottles(" + n + ")", -6, x -> x.bottles(n));
        }
        for (int n = 1; n <= 6; n++) {
            int days = n;
            refused("bottles(" + n + "), a ROW of four or of 20", -3, x -> x.bottles(days));
        }
        refused("row(-1)", -4, x -> x.row(-1));
        refused("row(LOW)", -4, x -> x.row(LOW));
        refused("row(100)", -6, x -> x.row(100));
        refused("row(HIGH)", -6, x -> x.row(HIGH));
    }
}
