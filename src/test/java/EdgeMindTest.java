import java.util.function.IntUnaryOperator;

/**
 * What is reckoned in mind, promises 10 to 19: each sentence of the document that names a boundary has a test of
 * its own.
 */
public final class EdgeMindTest {
    private static final Check CHECK = new Check();
    private static final int LOW = Check.LOW;
    private static final int HIGH = Check.HIGH;

    public static void main(String[] args) {
        daysLeastAndGreatest();
        noDaysNoTotal();
        totalWhat();
        totalIsWhatTheDaysBring();
        leftBehindNoDay();
        leftAges();
        inMindAlone();
        askedOneBehindTheOther();
        inThoughtPast9999();
        neverAtMost28();
        neverOpen();
        outNothingThere();
        outAtMostTwenty();
        outCosts();
        outTheOldest();
        lessNoneOpen();
        lessUpToBuy();
        lessOnTheFirstOpenDay();
        lessOnceMoreStays();
        lessLeast();
        bestFirst();
        buyingLeastAndGreatest();
        closeNone();
        closeFirst();
        closeFourteenDays();
        halfLeastAndGreatest();
        halfNoRoom();
        paysNothing();
        paysRefused();
        CHECK.end("EdgeMindTest");
    }

    private static void due(String call, long got, long want) {
        CHECK.due(call, got, want);
    }

    private static void refusedDays(String call, int told, IntUnaryOperator of) {
        int below = told == 0 ? -4 : told + 4;
        int above = told == 0 ? -6 : told + 6;
        due(call + " of -1", of.applyAsInt(-1), below);
        due(call + " of LOW", of.applyAsInt(LOW), below);
        due(call + " of 29", of.applyAsInt(29), above);
        due(call + " of HIGH", of.applyAsInt(HIGH), above);
        int least = of.applyAsInt(0);
        int most = of.applyAsInt(28);
        CHECK.that(call + " of 0 is answered", least >= 0 && least < 1000000000);
        CHECK.that(call + " of 28 is answered", most >= 0 && most < 1000000000);
    }

    private static void daysLeastAndGreatest() {
        CHECK.sentence("In mind, from now, n DAYS (0 .. 28)");
        AlwaysYesterdays x = Check.of("ee195;ef395;s160;s405;");
        refusedDays("total EATEN", 1000000000, n -> x.total(n, 1));
        refusedDays("left", 0, n -> x.left(n, 1));
        refusedDays("out", 0, x::out);
        refusedDays("less", 0, x::less);
        refusedDays("best", 0, x::best);
        refusedDays("buying", 0, x::buying);
        refusedDays("half", 0, x::half);
        refusedDays("pays", 1000000000, x::pays);
        due("REFUSALS -4", x.count(14), 16);
        due("REFUSALS -6", x.count(16), 16);
        due("REFUSALS in all", Check.refusals(x), 32);
    }

    private static void noDaysNoTotal() {
        CHECK.sentence("VALUE, EATEN, of AGE 0 EATEN, THROWN, LACKED, BOUGHT in all");
        AlwaysYesterdays x = Check.of("ee991;ef991;s060;s460;b309;c999;");
        for (int what = 0; what < 6; what++) {
            due("total(0, " + what + ")", x.total(0, what), 0);
        }
        // Of one DAY: the first eats 9 of AGE 4 (5 each), the other 9 fresh; 51 thrown; 9 of AGE 1 come.
        int[] want = {45 + 81 - 51 * 9 - 9 * 4, 18, 9, 51, 0, 9};
        for (int what = 0; what < 6; what++) {
            due("total(1, " + what + ")", x.total(1, what), want[what]);
        }
    }

    private static void totalWhat() {
        CHECK.sentence("Of n DAYS: VALUE (what 0), EATEN (1), of AGE 0 (2), THROWN (3), LACKED (4), BOUGHT (5). "
            + "Refused as told: -4; -6 28; -2.");
        AlwaysYesterdays x = new AlwaysYesterdays();
        for (int what : new int[] {-1, 6, LOW, HIGH}) {
            due("total(0, " + what + ")", x.total(0, what), 1000000002);
            due("total(28, " + what + ")", x.total(28, what), 1000000002);
            due("total(-1, " + what + ")", x.total(-1, what), 1000000004);
            due("total(29, " + what + ")", x.total(29, what), 1000000006);
        }
        due("REFUSALS -2, -4, -6", x.count(12) * 100 + x.count(14) * 10 + x.count(16), 844);
        due("the first what", x.total(28, 0), -28 * 12 - 24 * 6);
        due("the last what", x.total(28, 5), 28 * 6);
    }

    private static void totalIsWhatTheDaysBring() {
        CHECK.sentence("In mind, from now, n DAYS (0 .. 28): VALUE");
        String house = "ec395;ea291;ep211;wooxxoxo;b071;hb;s305;s012;";
        AlwaysYesterdays mind = Check.of(house);
        AlwaysYesterdays passed = Check.of(house);
        int value = 0;
        for (int n = 0; n <= 28; n++) {
            due("total(" + n + ", 0)", mind.total(n, 0), value);
            for (int age = 0; age < 5; age++) {
                due("left(" + n + ", " + age + ")", mind.left(n, age), passed.left(0, age));
            }
            value += passed.dayOn();
        }
    }

    private static void leftBehindNoDay() {
        CHECK.sentence("SLICES of an AGE left then.");
        AlwaysYesterdays x = Check.of("s001;s102;s203;s304;s405;");
        for (int age = 0; age < 5; age++) {
            due("left(0, " + age + ")", x.left(0, age), age + 1);
        }
        due("left(28, 0)", x.left(28, 0), 0);
        for (int age = 1; age < 5; age++) {
            due("left(28, " + age + ")", x.left(28, age), 6);
        }
    }

    private static void leftAges() {
        CHECK.sentence("SLICES of an AGE behind n DAYS. -4; -6 28; -1.");
        AlwaysYesterdays x = Check.of("s460;");
        for (int age : new int[] {-1, 5, LOW, HIGH}) {
            due("left(0, " + age + ")", x.left(0, age), -1);
            due("left(28, " + age + ")", x.left(28, age), -1);
            due("left(-1, " + age + ")", x.left(-1, age), -4);
            due("left(29, " + age + ")", x.left(29, age), -6);
        }
        due("REFUSALS -1, -4, -6", x.count(11) * 100 + x.count(14) * 10 + x.count(16), 844);
        due("left(0, 4)", x.left(0, 4), 60);
    }

    private static void inMindAlone() {
        CHECK.sentence("In mind, from now");
        AlwaysYesterdays x = Check.of("ec395;ea291;ep211;wooxxoxo;b071;hb;s305;s012;d;");
        Check.row(x, 1, 2, 3);
        x.letter('d');
        String was = Check.household(x) + Check.rest(x);
        for (int n : new int[] {0, 1, 28}) {
            x.total(n, 0);
            x.left(n, 0);
            x.out(n);
            x.less(n);
            x.best(n);
            x.buying(n);
            x.half(n);
            x.pays(n);
        }
        x.never();
        x.close();
        CHECK.that("nothing changes", was.equals(Check.household(x) + Check.rest(x)));
    }

    /** Each question is answered as if it were the first, also behind one that left its mark in mind. */
    private static void askedOneBehindTheOther() {
        CHECK.sentence("In mind, from now, n DAYS");
        String house = "ec395;ea291;ep211;wxxoxoxx;b071;hb;s305;s012;";
        for (int first = 0; first < QUESTIONS; first++) {
            AlwaysYesterdays asked = Check.of(house);
            for (int second = 0; second < QUESTIONS; second++) {
                long want = ask(Check.of(house), second, 3);
                for (int n : new int[] {1, 28}) {
                    ask(asked, first, n);
                    due("question " + second + " behind " + first + " of " + n, ask(asked, second, 3), want);
                }
            }
        }
    }

    private static final int QUESTIONS = 15;

    private static long ask(AlwaysYesterdays x, int question, int n) {
        switch (question) {
            case 0: return x.total(n, 0);
            case 1: return x.left(n, 4);
            case 2: return x.never();
            case 3: return x.out(n);
            case 4: return x.less(n);
            case 5: return x.best(n);
            case 6: return x.buying(n);
            case 7: return x.close();
            case 8: return x.half(n);
            case 9: return x.pays(n);
            case 10: return x.mean(0);
            case 11: return x.likes(0);
            case 12: return x.whose(0);
            case 13: return x.share();
            default: return x.lots(n, 5);
        }
    }

    /** 9996 is so many fortnights, so that DAY 9999 is as DAY 3, for the week and for even and odd. */
    private static void inThoughtPast9999() {
        CHECK.sentence("(In thought DAY may pass 9999.)");
        String house = "ec395;ea291;ep211;wooxxoxo;b071;hb;s305;s012;";
        AlwaysYesterdays early = Check.of("b000;d;d;d;" + house);
        AlwaysYesterdays late = Check.of("b000;");
        for (int i = 0; i < 9999; i++) {
            late.dayOn();
        }
        due("house", Check.tell(late, house), 8);
        for (int n = 0; n <= 28; n++) {
            due("total(" + n + ", 0)", late.total(n, 0), early.total(n, 0));
            due("left(" + n + ", 1)", late.left(n, 1), early.left(n, 1));
            due("out(" + n + ")", late.out(n), early.out(n));
            due("less(" + n + ")", late.less(n), early.less(n));
            due("best(" + n + ")", late.best(n), early.best(n));
            due("buying(" + n + ")", late.buying(n), early.buying(n));
            due("half(" + n + ")", late.half(n), early.half(n));
            due("pays(" + n + ")", late.pays(n), early.pays(n));
        }
        due("never()", late.never(), early.never());
        due("close()", late.close(), early.close());
        due("mean(0)", late.mean(0), early.mean(0));
        due("mean(1)", late.mean(1), early.mean(1));
        due("lots(20, 5)", late.lots(20, 5), early.lots(20, 5));
        Check.row(early, 0, 0, 0);
        Check.row(late, 0, 0, 0);
        due("fits()", late.fits(), early.fits());
        due("judge()", late.judge(), early.judge());
        due("REFUSALS", Check.refusals(late), 0);
        due("DAY", late.count(1), 9999);
    }

    /** HUNGER 9 against BUY 8: each day one less of older bread, till fewer than 9 of it are there. */
    private static void neverAtMost28() {
        CHECK.sentence("from now on, nothing of AGE 0 is EATEN (28 at most)");
        due("at once", Check.of("ee991;b080;s108;").never(), 0);
        due("one day", Check.of("ee991;b080;s109;").never(), 1);
        due("two days", Check.of("ee991;b080;s109;s201;").never(), 2);
        due("27 days", Check.of("ee991;b080;s108;s209;s309;s409;").never(), 27);
        due("28 days", Check.of("ee991;b080;s109;s209;s309;s409;").never(), 28);
        due("for ever", Check.of("ee691;s106;").never(), 28);
    }

    private static void neverOpen() {
        CHECK.sentence("NEVER: how many days one behind the other, from now on");
        due("nobody, no bread", Check.of("b000;").never(), 28);
        due("nobody", new AlwaysYesterdays().never(), 28);
        due("HUNGER 0", Check.of("ee091;").never(), 28);
        due("no day is OPEN", Check.of("ef991;wxxxxxxx;").never(), 28);
        due("OPEN on day 6 alone", Check.of("ef991;wxxxxxxo;").never(), 6);
        due("of BUY 3 a THRIFTY house gives nothing", Check.of("ef991;ht;b030;").never(), 28);
        due("of BUY 4 it does", Check.of("ef991;ht;b040;").never(), 0);
        due("from now on", Check.of("ef991;wxxoooxx;d;d;d;").never(), 0);
        due("round the week", Check.of("ef991;wxxoooxx;d;d;d;d;d;").never(), 4);
    }

    private static void outNothingThere() {
        CHECK.sentence("(0 .. 20, no more than there are; THROW each)");
        // Each of the old takes a fresh one's place: 9 for 5.
        for (int there = 0; there <= 9; there++) {
            AlwaysYesterdays x = Check.of("ee991;b300;c000;");
            x.stock(4, there);
            due("out(1) of " + there, x.out(1), there);
        }
        due("nobody, no bread", new AlwaysYesterdays().out(28), 0);
        due("n 0, for nothing", Check.of("ee991;s460;c000;").out(0), 0);
        due("n 0", Check.of("ee991;s460;").out(0), 0);
    }

    /** It needs all of the old but 8 thrown, and each one more brings 4 more. */
    private static void outAtMostTwenty() {
        CHECK.sentence("OUT: of throwing k of the oldest now (0 .. 20");
        int[] there = {18, 19, 20, 21, 28, 29, 60};
        int[] want = {18, 19, 20, 20, 20, 0, 0};
        for (int i = 0; i < there.length; i++) {
            AlwaysYesterdays x = Check.of("ee991;b300;c000;");
            x.stock(4, there[i]);
            due("out(1) of " + there[i], x.out(1), want[i]);
            due("nothing is thrown by it", x.count(2), there[i]);
        }
    }

    private static void outCosts() {
        CHECK.sentence("THROW each) that k with the most VALUE of n DAYS, of several the least");
        // The one of AGE 3 is eaten first, at 6; thrown now it costs THROW, and a fresh one is eaten at 9.
        due("THROW 2", Check.of("ee191;c020;s301;").out(1), 1);
        due("THROW 3, alike: the least", Check.of("ee191;c030;s301;").out(1), 0);
        due("THROW 4", Check.of("ee191;c040;s301;").out(1), 0);
        due("none brings more: the least", Check.of("eh991;c000;s405;").out(1), 0);
    }

    private static void outTheOldest() {
        CHECK.sentence("of the oldest now");
        due("the one of AGE 4", Check.of("ee191;b000;c000;s401;s301;").out(1), 1);
        due("those of AGE 4 and 3", Check.of("ee191;b000;c000;s402;s302;s201;").out(1), 4);
        due("all but the fresh one", Check.of("ee191;b000;c000;s001;s101;s201;s301;s401;").out(1), 4);
        // Of 18 fresh ones 9 are too many: tomorrow they are eaten as yesterday's, 9 times 1 less.
        due("of the fresh ones, too", Check.of("ee991;b090;c000;s009;").out(2), 9);
        due("of the fresh ones behind the others", Check.of("ee991;b090;c000;s009;s401;").out(2), 10);
    }

    private static void lessNoneOpen() {
        CHECK.sentence("LESS: the k; -9 no day is OPEN. -4; -6 28.");
        AlwaysYesterdays x = Check.of("wxxxxxxx;");
        due("less(0)", x.less(0), -9);
        due("less(28)", x.less(28), -9);
        due("-9 is no REFUSAL", Check.refusals(x), 0);
        due("less(-1)", x.less(-1), -4);
        due("less(29)", x.less(29), -6);
        due("REFUSALS", Check.refusals(x), 2);
        x.open(6, 1);
        due("day 6 is OPEN", x.less(0), 0);
        due("day 6 is OPEN, less(6)", x.less(6), 0);
        due("day 6 is OPEN, less(7)", x.less(7), 6);
    }

    private static void lessUpToBuy() {
        CHECK.sentence("of buying k less of AGE 0 on the first OPEN day (0 .. BUY; what comes once more stays) likewise.");
        for (int buy = 0; buy <= 30; buy++) {
            AlwaysYesterdays x = new AlwaysYesterdays();
            x.set(0, buy);
            due("nobody, BUY " + buy, x.less(1), buy);
            due("n 0, BUY " + buy, x.less(0), 0);
        }
    }

    private static void lessOnTheFirstOpenDay() {
        CHECK.sentence("on the first OPEN day");
        for (int first = 0; first < 7; first++) {
            AlwaysYesterdays x = Check.of("wxxxxxxx;");
            x.open(first, 1);
            due("day " + first + ", of DAYS before", x.less(first), 0);
            due("day " + first + ", of DAYS with it", x.less(first + 1), 6);
        }
        AlwaysYesterdays round = Check.of("d;d;wxoxxxxx;");
        due("round the week, of DAYS before", round.less(6), 0);
        due("round the week, of DAYS with it", round.less(7), 6);
        // Behind day 0 BUY is 6 again: of FRESH HUNGER 4 there are 2 too many each day, but day 0's alone can be less.
        due("on that day alone", Check.of("ef491;").less(2), 2);
        // Without the 6 of day 0 all are fresh from day 1 on, for there BUY is 6 again.
        due("not on the next one", Check.of("ee691;s106;").less(9), 6);
    }

    private static void lessOnceMoreStays() {
        CHECK.sentence("what comes once more stays");
        due("HUNGER 9 of 12", Check.of("ef991;woxxxxxx;").less(1), 3);
        due("HUNGER 3 of 12: BUY less at most", Check.of("ef391;woxxxxxx;").less(1), 6);
        due("YESTERDAY'S stay: of BUY 0 nothing can be less", Check.of("b009;").less(1), 0);
    }

    private static void lessLeast() {
        CHECK.sentence("what comes once more stays) likewise.");
        due("PRICE 0, alike: the least", Check.of("c000;").less(4), 0);
        due("no room for any: the least", Check.of("s060;").less(1), 0);
        due("room for 2 of 6: all less at last", Check.of("s058;").less(1), 6);
        due("HUNGER 6", Check.of("ef691;").less(1), 0);
    }

    private static void bestFirst() {
        CHECK.sentence("BEST: the KIND of HOUSE with the most VALUE of n DAYS, of several the first.");
        due("n 0, house s", Check.of("ee991;s001;s401;hs;").best(0), 0);
        due("nobody", new AlwaysYesterdays().best(28), 0);
        due("no bread", Check.of("ee991;b000;").best(28), 0);
        due("NEW, MIX and BOTH alike", Check.of("ee191;b000;s001;s401;hb;").best(1), 1);
        due("MIX and BOTH alike", Check.of("ec291;b000;s001;s101;s401;hb;").best(1), 2);
        due("OLD, MIX and BOTH alike", Check.of("ec191;b000;s001;s401;hb;").best(1), 0);
        // On an odd DAY a BOTH house is NEW.
        due("MIX alone", Check.of("d;ec291;b000;s002;s102;s401;ho;").best(1), 2);
        due("STINGY alone", Check.of("ec201;b000;s203;c000;").best(3), 5);
    }

    private static void buyingLeastAndGreatest() {
        CHECK.sentence("BUYING: the BUY (0 .. 30) likewise, of several the least.");
        due("nobody: the least", Check.of("b300;").buying(28), 0);
        due("36 to feed: the greatest", Check.of("ef991;ef991;ef991;ef991;b000;").buying(1), 30);
        due("30 to feed", Check.of("ef991;ef991;ef991;ef391;b000;").buying(1), 30);
        due("29 to feed", Check.of("ef991;ef991;ef991;ef291;b000;").buying(1), 29);
        due("1 to feed", Check.of("ef191;b000;").buying(1), 1);
        due("n 0", Check.of("ef991;b300;").buying(0), 0);
        due("PRICE 0, alike: the least", Check.of("ef491;b300;c003;").buying(1), 4);
        due("no room for any", Check.of("ef991;s060;b300;").buying(1), 0);
        due("no day is OPEN", Check.of("ef991;wxxxxxxx;b300;").buying(28), 0);
        due("twice as much ahead of a day not OPEN", Check.of("ef991;woxxxxxx;b300;c103;").buying(1), 5);
    }

    private static void closeNone() {
        CHECK.sentence("CLOSE; -9.");
        AlwaysYesterdays x = Check.of("wxxxxxxx;");
        due("none is OPEN", x.close(), -9);
        due("-9 is no REFUSAL", Check.refusals(x), 0);
        for (int day = 0; day < 7; day++) {
            x.open(day, 1);
            due("day " + day + " alone is OPEN", x.close(), day);
            x.open(day, 0);
        }
        due("none again", x.close(), -9);
    }

    private static void closeFirst() {
        CHECK.sentence("brings most VALUE of 14 DAYS, of several the first; -9 none is OPEN.");
        due("nothing is bought: the first", Check.of("b000;").close(), 0);
        due("the first that is OPEN", Check.of("b000;wxxxooxx;").close(), 3);
        due("from a later DAY: the first of the week", Check.of("b000;d;d;d;d;").close(), 0);
        due("each loses 9 of 18 to be eaten: the first", Check.of("ef991;wooxxxxx;b090;c100;").close(), 0);
        // On DAY 1 there is enough, so that day 1 loses nothing the first time.
        due("not the first, but the best", Check.of("b000;d;ef991;wooxxxxx;b090;c100;s009;").close(), 1);
    }

    private static void closeFourteenDays() {
        CHECK.sentence("which, were it not, brings most VALUE of 14 DAYS");
        // Only BOUGHT counts. From DAY 1: all alike in 14 DAYS; in 13 or 15 day 1, bought once less, were best.
        due("not 13, not 15", Check.of("b010;c900;d;").close(), 0);
        // AWAY of BASE 1 loses 1 by yesterday's on each day but 5 and 6: on day 0 not yet in the first week,
        // for of AGE 0 one is there. Of 7 DAYS day 0 were as good as 5.
        due("not 7", Check.of("ea111;hn;b010;s001;c100;").close(), 5);
        // That one not needed, thrown on DAY 4, brings 1 for day 0: as good as 5 in two weeks, less in three.
        due("not 21, not 28", Check.of("ea111;hn;b010;s001;c110;").close(), 0);
    }

    private static void halfLeastAndGreatest() {
        CHECK.sentence("HALF: YESTERDAY'S (0 .. 9) with the most VALUE of n DAYS, of several the least");
        for (int hunger = 0; hunger <= 9; hunger++) {
            due("PICKY, HUNGER " + hunger, Check.of("ep" + hunger + "91;b005;c413;").half(1), hunger);
        }
        due("two of HUNGER 9: the greatest", Check.of("ep991;ep991;b000;c413;").half(1), 9);
        due("nobody: the least", Check.of("b009;").half(28), 0);
        due("PRICE 1, for nothing, alike: the least", Check.of("b009;c103;").half(1), 0);
        due("n 0", Check.of("ep991;b009;c413;").half(0), 0);
        due("no day is OPEN", Check.of("ep991;b009;c413;wxxxxxxx;").half(28), 0);
    }

    private static void halfNoRoom() {
        CHECK.sentence("HALF. -4; -6 28.");
        due("60 are there", Check.of("ep991;b000;s160;c413;").half(1), 0);
        due("60 are there", Check.of("ep991;b000;s160;c413;").pays(1), 0);
        AlwaysYesterdays two = Check.of("ep991;ep991;ep991;ep991;b000;s158;c413;");
        due("room for 2, not needed", two.half(1), 0);
        due("YESTERDAY'S stay", two.set(1, 0), 0);
    }

    private static void paysNothing() {
        CHECK.sentence("PAYS: by how much that is more than with 0.");
        due("n 0", Check.of("ep991;b009;c413;").pays(0), 0);
        due("nobody", Check.of("b009;").pays(28), 0);
        // 9 times (4 less 2, and 3 of LACK spared); what is set now does not matter.
        due("9 of them", Check.of("ep991;b000;c413;").pays(1), 45);
        due("9 of them, set", Check.of("ep991;b009;c413;").pays(1), 45);
        due("9 of them, 28 DAYS", Check.of("ep991;b009;c413;").pays(28), 28 * 45);
        due("the greatest", Check.of("ep991;b009;c019;").pays(28), 28 * 9 * (4 + 9));
    }

    private static void paysRefused() {
        CHECK.sentence("PAYS. Refused as told: -4; -6 28.");
        AlwaysYesterdays x = Check.of("ep991;b009;c413;");
        due("pays(-1)", x.pays(-1), 1000000004);
        due("pays(29)", x.pays(29), 1000000006);
        due("REFUSALS -4, -6", x.count(14) * 10 + x.count(16), 11);
        due("half(-1)", x.half(-1), -4);
        due("half(29)", x.half(29), -6);
        due("REFUSALS -4, -6", x.count(14) * 10 + x.count(16), 22);
    }
}
