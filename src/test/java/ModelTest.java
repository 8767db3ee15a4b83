import java.util.Random;

/** Runs of calls drawn by lot, each answered by the class and by the plain model alike. */
public final class ModelTest {
    private static final int RUNS = 600;
    private static final int CALLS = 512;

    private final Random lot;
    private final AlwaysYesterdays x = new AlwaysYesterdays();
    private final PlainModel m = new PlainModel();
    private int calls;
    private int wrong;
    private final StringBuilder told = new StringBuilder();

    private ModelTest(long seed) {
        lot = new Random(seed);
    }

    public static void main(String[] args) {
        Check all = new Check();
        for (int run = 0; run < RUNS; run++) {
            ModelTest test = new ModelTest(run);
            test.run();
            all.that("run " + run + ": " + test.told, test.wrong == 0);
        }
        all.end("ModelTest");
    }

    private void run() {
        boolean lettersWild = lot.nextInt(4) == 0;
        while (calls < CALLS && wrong == 0) {
            switch (lot.nextInt(8)) {
                case 0:
                    if (calls < 150 || lot.nextInt(4) == 0) {
                        tellHouse(lettersWild);
                    }
                    break;
                case 1:
                    change();
                    break;
                case 2:
                    look();
                    break;
                case 3:
                    reckonDays();
                    break;
                case 4:
                    rows();
                    break;
                case 5:
                    rarely();
                    break;
                default:
                    cheap();
            }
        }
        for (int what = -1; what < 18; what++) {
            same("count(" + what + ")", x.count(what), m.count(what));
        }
    }

    private void same(String call, long got, long want) {
        calls++;
        if (got != want) {
            wrong++;
            told.append(call).append(" answered ").append(got).append(", due is ").append(want).append("; ");
        }
    }

    /** A number from least to most, now and then just outside or far away. */
    private int about(int least, int most) {
        switch (lot.nextInt(40)) {
            case 0:
                return least - 1;
            case 1:
                return most + 1;
            case 2:
                return lot.nextInt();
            case 3:
                return lot.nextBoolean() ? Integer.MIN_VALUE : Integer.MAX_VALUE;
            default:
                return least + lot.nextInt(most - least + 1);
        }
    }

    private char of(String signs) {
        return signs.charAt(lot.nextInt(signs.length()));
    }

    private String digits(int many) {
        StringBuilder s = new StringBuilder();
        for (int i = 0; i < many; i++) {
            s.append(of("0123456789"));
        }
        return s.toString();
    }

    private String statement() {
        switch (lot.nextInt(9)) {
            case 0:
            case 1:
            case 2:
                String chance = lot.nextInt(12) == 0 ? digits(2) : lot.nextInt(6) == 0 ? "10" : digits(1);
                return "e" + of("efcpha") + digits(2) + chance + ";";
            case 3:
                return "s" + of("01234012340123401234012345") + of("0012345") + digits(1) + ";";
            case 4:
                StringBuilder w = new StringBuilder("w");
                for (int i = 0; i < 7; i++) {
                    w.append(of("ooox"));
                }
                return w + ";";
            case 5:
                return "b" + of("00111223") + digits(1) + of("000123456789") + ";";
            case 6:
                return "h" + of("onmtbs") + ";";
            case 7:
                return "c" + digits(3) + ";";
            default:
                return "d;";
        }
    }

    private void tellHouse(boolean wild) {
        StringBuilder text = new StringBuilder();
        int statements = lot.nextInt(6);
        for (int i = 0; i < statements; i++) {
            text.append(statement());
        }
        if (wild && text.length() > 0) {
            int at = lot.nextInt(text.length());
            switch (lot.nextInt(3)) {
                case 0:
                    text.setCharAt(at, of("efcphaonmtbswdx;0159AZ "));
                    break;
                case 1:
                    text.deleteCharAt(at);
                    break;
                default:
                    text.insert(at, of("efcphaonmtbswdx;0159"));
            }
        }
        for (int i = 0; i < text.length(); i++) {
            same("letter", x.letter(text.charAt(i)), m.letter(text.charAt(i)));
        }
        if (lot.nextInt(10) == 0) {
            int c = about(0, 255);
            same("letter(" + c + ")", x.letter(c), m.letter(c));
        }
        same("house() of " + text, x.house(), m.house());
    }

    private void change() {
        switch (lot.nextInt(4)) {
            case 0:
                int age = about(0, 4);
                int v = about(0, lot.nextBoolean() ? 60 : 9);
                same("stock(" + age + ", " + v + ")", x.stock(age, v), m.stock(age, v));
                break;
            case 1:
                int day = about(0, 6);
                int is = about(0, 1);
                same("open(" + day + ", " + is + ")", x.open(day, is), m.open(day, is));
                break;
            case 2:
                int what = about(0, 5);
                int to = about(0, what == 0 ? 30 : what == 5 ? 5 : 9);
                same("set(" + what + ", " + to + ")", x.set(what, to), m.set(what, to));
                break;
            default:
                same("dayOn()", x.dayOn(), m.dayOn());
        }
    }

    private void look() {
        int eater = about(0, 3);
        int what = about(0, 3);
        int age = about(0, 4);
        same("eater(" + eater + ", " + what + ")", x.eater(eater, what), m.eater(eater, what));
        same("worth(" + eater + ", " + age + ")", x.worth(eater, age), m.worth(eater, age));
        same("likes(" + eater + ")", x.likes(eater), m.likes(eater));
        same("whose(" + age + ")", x.whose(age), m.whose(age));
        int counted = about(-2, 18);
        same("count(" + counted + ")", x.count(counted), m.count(counted));
    }

    private void reckonDays() {
        int n = about(0, 28);
        int what = about(0, 5);
        int age = about(0, 4);
        same("total(" + n + ", " + what + ")", x.total(n, what), m.total(n, what));
        same("left(" + n + ", " + age + ")", x.left(n, age), m.left(n, age));
        same("never()", x.never(), m.never());
    }

    private void rows() {
        int what = lot.nextInt(4);
        int many = what == 0 ? 3 * lot.nextInt(7) : lot.nextInt(8);
        for (int i = 0; i < many; i++) {
            int v = what == 0 ? about(0, i % 3 == 2 ? 99 : 6) : about(0, what == 1 ? 4 : lot.nextInt(8));
            same("row(" + v + ")", x.row(v), m.row(v));
        }
        int n = about(1, 6);
        same("bottles(" + n + ")", x.bottles(n), m.bottles(n));
        same("fits()", x.fits(), m.fits());
        if (lot.nextInt(5) > 0) {
            same("judge()", x.judge(), m.judge());
            if (lot.nextBoolean()) {
                judgeNearly();
            }
        }
    }

    /** Rows that are thrown or eaten so for a while: those drawn blindly seldom are. */
    private void judgeNearly() {
        int kind = m.count(5);
        int was = 0;
        boolean eaten = lot.nextBoolean();
        for (int i = 0; i < 1 + lot.nextInt(8); i++) {
            int now = m.total(i + 1, 3);
            int v = eaten ? guess(i) : now - was;
            was = now;
            if (v <= 99) {
                same("row(" + v + ")", x.row(v), m.row(v));
            }
        }
        same("fits() in " + kind, x.fits(), m.fits());
        same("judge()", x.judge(), m.judge());
    }

    private int guess(int i) {
        return lot.nextInt(6) == 0 ? lot.nextInt(5) : m.count(5) == 1 ? 0 : lot.nextBoolean() ? 1 : i % 2;
    }

    private void rarely() {
        int n = about(0, 28);
        switch (lot.nextInt(7)) {
            case 0:
                same("out(" + n + ")", x.out(n), m.out(n));
                break;
            case 1:
                same("less(" + n + ")", x.less(n), m.less(n));
                break;
            case 2:
                same("best(" + n + ")", x.best(n), m.best(n));
                break;
            case 3:
                same("buying(" + n + ")", x.buying(n), m.buying(n));
                break;
            case 4:
                same("close()", x.close(), m.close());
                break;
            case 5:
                same("half(" + n + ")", x.half(n), m.half(n));
                same("pays(" + n + ")", x.pays(n), m.pays(n));
                break;
            default:
                int years = about(1, lot.nextInt(5) == 0 ? 20 : 3);
                int z = lot.nextInt();
                same("lots(" + years + ", " + z + ")", x.lots(years, z), m.lots(years, z));
        }
    }

    private void cheap() {
        switch (lot.nextInt(4)) {
            case 0:
                int part = about(0, 1);
                same("mean(" + part + ")", x.mean(part), m.mean(part));
                break;
            case 1:
                same("share()", x.share(), m.share());
                break;
            case 2:
                same("image()", x.image(), m.image());
                break;
            default:
                if (lot.nextInt(4) == 0) {
                    same("on()", x.on(), m.on());
                }
        }
    }
}
