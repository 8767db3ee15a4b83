/** Answers worked out by hand from the document, promise by promise. */
public final class PromiseTest {
    private static final Check CHECK = new Check();

    public static void main(String[] args) {
        newObject();
        letter();
        houseComes();
        houseFaultsOfKindOne();
        houseFaultsOfKindTwo();
        houseWithFaultLeavesAll();
        eater();
        stock();
        open();
        set();
        worth();
        dayOnBuys();
        dayOnEats();
        dayOnHouses();
        dayOnLastDay();
        total();
        left();
        never();
        out();
        less();
        best();
        buying();
        close();
        halfAndPays();
        mean();
        likes();
        whose();
        share();
        bottles();
        row();
        fits();
        judge();
        lots();
        imageAndOn();
        count();
        CHECK.end("PromiseTest");
    }

    private static void due(String call, long got, long want) {
        CHECK.due(call, got, want);
    }

    private static void eats(String what, AlwaysYesterdays x, int... ages) {
        CHECK.eats(what, x, ages);
    }

    private static void newObject() {
        CHECK.promise("1 new");
        AlwaysYesterdays x = new AlwaysYesterdays();
        int[] want = {0, 0, 0, 6, 7, 0, 0, 0, 0};
        for (int what = 0; what < want.length; what++) {
            due("count(" + what + ")", x.count(what), want[what]);
        }
        for (int what = 11; what <= 16; what++) {
            due("count(" + what + ")", x.count(what), 0);
        }
        int[] settings = {6, 0, 2, 1, 3, 0};
        for (int what = 0; what < settings.length; what++) {
            due("set(" + what + ", 1)", x.set(what, 1), settings[what]);
        }
        for (int age = 0; age < 5; age++) {
            due("stock(" + age + ", 1)", x.stock(age, 1), 0);
        }
        for (int day = 0; day < 7; day++) {
            due("open(" + day + ", 0)", x.open(day, 0), 1);
        }
    }

    private static void letter() {
        CHECK.promise("2 letter");
        AlwaysYesterdays x = new AlwaysYesterdays();
        due("letter(-1)", x.letter(-1), -4);
        due("letter(256)", x.letter(256), -6);
        due("count(8)", x.count(8), 0);
        due("letter(0)", x.letter(0), 1);
        due("letter(255)", x.letter(255), 2);
        for (int i = 3; i <= 96; i++) {
            due("letter", x.letter('d'), i);
        }
        due("letter, 97th", x.letter('d'), -6);
        due("letter(-1), 97th", x.letter(-1), -4);
        due("letter(256), 97th", x.letter(256), -6);
        due("count(8)", x.count(8), 96);
        due("count(14)", x.count(14), 2);
        due("count(16)", x.count(16), 3);
        due("house()", x.house(), -1000);
        due("count(8)", x.count(8), 0);
        due("letter", x.letter('d'), 1);
    }

    private static void houseComes() {
        CHECK.promise("3 house");
        AlwaysYesterdays x = new AlwaysYesterdays();
        due("house", Check.tell(x, "ep491;ea0010;s260;s407;wxoxoxox;b309;hs;c789;"), 8);
        due("letters are no more", x.count(8), 0);
        int[][] eaters = {{3, 4, 9, 1}, {5, 0, 0, 10}};
        for (int e = 0; e < 2; e++) {
            for (int what = 0; what < 4; what++) {
                due("eater(" + e + ", " + what + ")", x.eater(e, what), eaters[e][what]);
            }
        }
        int[] stock = {0, 0, 60, 0, 7};
        for (int age = 0; age < 5; age++) {
            due("stock " + age, x.stock(age, 0), stock[age]);
        }
        for (int day = 0; day < 7; day++) {
            due("open " + day, x.open(day, 1), day % 2);
        }
        int[] settings = {30, 9, 7, 8, 9, 5};
        for (int what = 0; what < 6; what++) {
            due("set " + what, x.set(what, 0), settings[what]);
        }
        due("one more", Check.tell(x, "ee1101;ef222;"), 2);
        due("EATERS", x.count(0), 4);
        due("CHANCE of two digits", x.eater(2, 3), 1);
        due("no room for a fifth", Check.tell(x, "ee111;"), -2000);
        due("48 DAYS", Check.tell(x, "d;".repeat(48)), 48);
        due("DAY", x.count(1), 48);
        due("text in its order", Check.tell(x, "b050;d;s010;d;"), 4);
        due("DAY", x.count(1), 50);
        // Of 10 and BUY 5 on the last day they take 4, 1, 2; of the day ahead nothing was left.
        due("of AGE 1", x.left(0, 1), 10 + 5 - 7);
    }

    private static void houseFaultsOfKindOne() {
        CHECK.promise("3 house, kind 1");
        String[] texts = {"", "x", ";", "E", "d", "d;;", "d;x", "d1;", "e", "ee", "ee1", "ee11", "ee111", "ee1111",
            "eo111;", "e1", "ee11;", "ee1;", "ee11111;", "eex", "s", "s00;", "s0000;", "sx", "w", "wooooooo",
            "woooooo;", "woooooooo", "wz", "b00;", "b0000", "h", "h;", "he;", "hoo", "c00;", "c0000", "d;d;ee1a",
            "s999;x", "d;b999;e", "ee110;h"};
        int[] places = {0, 0, 0, 0, 1, 2, 2, 1, 1, 2, 3, 4, 5, 6,
            1, 1, 4, 3, 6, 2, 1, 3, 4, 1, 1, 8,
            7, 8, 1, 3, 4, 1, 1, 1, 2, 3, 4, 7,
            5, 8, 7};
        for (int i = 0; i < texts.length; i++) {
            AlwaysYesterdays x = new AlwaysYesterdays();
            due("house of '" + texts[i] + "'", Check.tell(x, texts[i]), -1000 - places[i]);
            due("nothing is counted", Check.refusals(x), 0);
            due("letters are no more", x.count(8), 0);
        }
        AlwaysYesterdays x = new AlwaysYesterdays();
        due("house of 96 letters, something lacks", Check.tell(x, "d;".repeat(47) + "ee"), -1096);
        due("DAY", x.count(1), 0);
    }

    private static void houseFaultsOfKindTwo() {
        CHECK.promise("3 house, kind 2");
        String[] texts = {"ee110;", "ee1100;", "ee1111;", "ee1199;", "s500;", "s900;", "s061;", "s499;", "b310;", "b999;",
            "d;d;s461;", "s460;b309;ee9910;ee110;s500;", "ee111;ee111;ee111;ee111;ho;ee111;"};
        int[] places = {0, 0, 0, 0, 0, 0, 0, 0, 0, 0, 4, 17, 27};
        for (int i = 0; i < texts.length; i++) {
            AlwaysYesterdays x = new AlwaysYesterdays();
            due("house of '" + texts[i] + "'", Check.tell(x, texts[i]), -2000 - places[i]);
            due("nothing is counted", Check.refusals(x), 0);
            due("letters are no more", x.count(8), 0);
        }
    }

    private static void houseWithFaultLeavesAll() {
        CHECK.promise("3 house, nothing comes");
        for (String fault : new String[] {"s500;", "x"}) {
            AlwaysYesterdays x = Check.of("ec375;s203;");
            String was = snapshot(x);
            Check.tell(x, "ef111;s360;wxxxxxxx;b010;hn;c000;d;" + fault);
            CHECK.that("all is as it was", was.equals(snapshot(x)));
        }
    }

    private static String snapshot(AlwaysYesterdays x) {
        StringBuilder s = new StringBuilder();
        for (int what = 0; what < 9; what++) {
            s.append(x.count(what)).append(' ');
        }
        for (int e = 0; e < x.count(0); e++) {
            for (int what = 0; what < 4; what++) {
                s.append(x.eater(e, what)).append(' ');
            }
        }
        for (int age = 0; age < 5; age++) {
            s.append(x.left(0, age)).append(' ');
        }
        for (int n = 0; n < 29; n++) {
            for (int what = 0; what < 6; what++) {
                s.append(x.total(n, what)).append(' ');
            }
        }
        return s.toString();
    }

    private static void eater() {
        CHECK.promise("4 eater");
        AlwaysYesterdays x = Check.of("ee123;ef456;ec789;ep0010;");
        AlwaysYesterdays y = Check.of("eh991;ea010;".replace("ea010", "ea011"));
        for (int e = 0; e < 4; e++) {
            due("KIND", x.eater(e, 0), e);
        }
        due("KIND h", y.eater(0, 0), 4);
        due("KIND a", y.eater(1, 0), 5);
        due("HUNGER", x.eater(1, 1), 4);
        due("BASE", x.eater(1, 2), 5);
        due("CHANCE", x.eater(1, 3), 6);
        due("CHANCE 10", x.eater(3, 3), 10);
        due("no such EATER", y.eater(2, 0), -1);
        due("no such EATER", y.eater(-1, 9), -1);
        due("no such what", y.eater(1, 4), -2);
        due("no such what", y.eater(0, -1), -2);
        due("count(11)", y.count(11), 2);
        due("count(12)", y.count(12), 2);
    }

    private static void stock() {
        CHECK.promise("5 stock");
        AlwaysYesterdays x = new AlwaysYesterdays();
        due("stock(4, 60)", x.stock(4, 60), 0);
        due("stock(4, 0)", x.stock(4, 0), 60);
        due("stock(0, 7)", x.stock(0, 7), 0);
        due("stock(-1, 0)", x.stock(-1, 0), -1);
        due("stock(5, -1)", x.stock(5, -1), -1);
        due("stock(0, -1)", x.stock(0, -1), -4);
        due("stock(0, 61)", x.stock(0, 61), -6);
        due("stays", x.stock(0, 1), 7);
        due("count(2)", x.count(2), 1);
    }

    private static void open() {
        CHECK.promise("6 open");
        AlwaysYesterdays x = new AlwaysYesterdays();
        due("open(6, 0)", x.open(6, 0), 1);
        due("open(6, 0)", x.open(6, 0), 0);
        due("open(6, 1)", x.open(6, 1), 0);
        due("open(7, 5)", x.open(7, 5), -1);
        due("open(-1, 0)", x.open(-1, 0), -1);
        due("open(3, 2)", x.open(3, 2), -2);
        due("open(3, -1)", x.open(3, -1), -2);
        due("count(4)", x.count(4), 7);
    }

    private static void set() {
        CHECK.promise("7 set");
        AlwaysYesterdays x = new AlwaysYesterdays();
        int[] most = {30, 9, 9, 9, 9, 5};
        int[] was = {6, 0, 2, 1, 3, 0};
        for (int what = 0; what < 6; what++) {
            due("set(" + what + ", -1)", x.set(what, -1), -4);
            due("set(" + what + ", most + 1)", x.set(what, most[what] + 1), -6);
            due("set(" + what + ", most)", x.set(what, most[what]), was[what]);
            due("set(" + what + ", 0)", x.set(what, 0), most[what]);
        }
        due("set(6, -1)", x.set(6, -1), -2);
        due("set(-1, 99)", x.set(-1, 99), -2);
    }

    private static void worth() {
        CHECK.promise("8 worth");
        int[][] ofSeven = {{7, 6, 5, 4, 3}, {7, -9, -9, -9, -9}, {7, 6, 5, 8, 8}, {7, 3, -9, -9, -9},
            {1, 1, 1, 1, 1}, {7, 3, -9, -9, -9}};
        for (int kind = 0; kind < 6; kind++) {
            AlwaysYesterdays x = Check.of("e" + "efcpha".charAt(kind) + "171;");
            for (int day = 0; day < 15; day++) {
                boolean away = kind == 5 && (day % 7 == 5 || day % 7 == 6);
                for (int age = 0; age < 5; age++) {
                    int want = ofSeven[kind][age];
                    due("worth, KIND " + kind + ", AGE " + age + ", DAY " + day, x.worth(0, age),
                        away && want != -9 ? want - 1 : want);
                }
                x.dayOn();
            }
        }
        AlwaysYesterdays x = Check.of("ee121;ec101;ep111;ea101;d;d;d;d;d;");
        int[][] low = {{2, 1, 0, 0, 0}, {0, 0, 0, 1, 1}, {1, 0, -9, -9, -9}, {0, 0, -9, -9, -9}};
        for (int e = 0; e < 4; e++) {
            for (int age = 0; age < 5; age++) {
                due("worth(" + e + ", " + age + ")", x.worth(e, age), low[e][age]);
            }
        }
        due("worth(4, 0)", x.worth(4, 0), -1);
        due("worth(-1, 0)", x.worth(-1, 0), -1);
        due("worth(0, 5)", x.worth(0, 5), -1);
        due("worth(0, -1)", x.worth(0, -1), -1);
        due("-9 is no REFUSAL", Check.refusals(x), 4);
    }

    private static void dayOnBuys() {
        CHECK.promise("9 dayOn, bought and thrown");
        AlwaysYesterdays x = new AlwaysYesterdays();
        x.open(1, 0);
        due("once more ahead of a day not OPEN", x.dayOn(), -24);
        due("a day older", x.left(0, 1), 12);
        due("nothing on a day not OPEN", x.dayOn(), 0);
        due("on an OPEN one", x.dayOn(), -12);
        due("DAY", x.count(1), 3);
        AlwaysYesterdays week = Check.of("wxooooox;");
        due("day 0 not OPEN", week.dayOn(), 0);
        for (int day = 1; day < 5; day++) {
            week.dayOn();
        }
        for (int age = 0; age < 5; age++) {
            week.stock(age, 0);
        }
        due("day 5 ahead of 6", week.dayOn(), -24);
        AlwaysYesterdays cap = new AlwaysYesterdays();
        cap.stock(0, 58);
        due("60 of AGE 0 at most", cap.dayOn(), -4);
        due("of AGE 1 then", cap.left(0, 1), 60);
        AlwaysYesterdays twice = Check.of("b300;woxooooo;s010;");
        due("60 with once more", twice.dayOn(), -100);
        due("all bread", twice.count(2), 60);
        int[] halves = {0, 0, 1, 1, 2, 2, 3, 3, 4, 4};
        for (int price = 0; price < 10; price++) {
            AlwaysYesterdays half = Check.of("b009;s155;");
            half.set(2, price);
            due("half of " + price, half.dayOn(), -5 * halves[price]);
            due("of AGE 2 then", half.left(0, 2), 60);
        }
        AlwaysYesterdays old = Check.of("b000;c040;s407;s303;");
        due("thrown", old.dayOn(), -28);
        due("of AGE 4 then", old.stock(4, 0), 3);
        due("no bread", old.count(2), 0);
    }

    private static void dayOnEats() {
        CHECK.promise("9 dayOn, eaten and lacked");
        AlwaysYesterdays x = Check.of("ee3510;s401;s101;");
        due("VALUE", x.dayOn(), 1 + 4 + 5 - 12);
        due("left", x.left(0, 1), 5);
        due("bread", x.count(2), 5);
        due("lacks", Check.of("ef4510;b010;").dayOn(), 5 - 2 - 3 * 3);
        due("LACK told", Check.of("ef4510;b010;c007;").dayOn(), 5 - 3 * 7);
        due("CHANCE does not matter", Check.of("ef451;b010;").dayOn(), 5 - 2 - 3 * 3);
        due("by numbers", Check.of("ef191;ef131;b010;c000;").dayOn(), 9);
        due("by numbers", Check.of("ef131;ef191;b010;c000;").dayOn(), 3);
        due("HEN", Check.of("eh991;b000;s402;c000;").dayOn(), 2);
        due("AWAY on day 5", Check.of("b000;d;d;d;d;d;ea291;s001;s101;c000;").dayOn(), 8 + 3);
    }

    private static void dayOnHouses() {
        CHECK.promise("9 dayOn, HOUSES");
        String bread = "b000;s002;s101;s201;s401;";
        eats("OLD", Check.of("ee591;ho;" + bread), 4, 2, 1, 0, 0);
        eats("NEW", Check.of("ee591;hn;" + bread), 0, 0, 1, 2, 4);
        eats("MIX", Check.of("ee591;hm;" + bread), 0, 0, 1, 2, 4);
        eats("MIX, all alike", Check.of("eh591;hm;" + bread), 4, 2, 1, 0, 0);
        eats("MIX, CRUST", Check.of("ec951;hm;b000;s001;s101;s201;s301;s401;"), 4, 3, 0, 1, 2);
        eats("OLD, what he eats", Check.of("ep991;ho;" + bread), 1, 0, 0);
        eats("NEW, what he eats", Check.of("ef991;hn;" + bread), 0, 0);
        eats("THRIFTY", Check.of("ee591;ht;b000;s005;s201;"), 2, 0, 0);
        eats("THRIFTY, 3", Check.of("ee591;ht;b000;s003;s102;"), 1, 1);
        eats("THRIFTY, 4", Check.of("ef591;ht;b000;s004;s102;"), 0);
        eats("THRIFTY, two", Check.of("ef291;ee391;ht;b000;s006;s101;"), 0, 0, 1, 0);
        due("THRIFTY lacks", Check.of("ef591;ht;b000;s004;").total(1, 4), 4);
        eats("BOTH, DAY 0", Check.of("ec251;hb;b000;s001;s401;"), 4, 0);
        eats("BOTH, DAY 1", Check.of("d;ec251;hb;b000;s001;s101;s401;"), 0, 1);
        eats("BOTH, DAY 7", Check.of("b000;d;d;d;d;d;d;d;ec251;hb;s001;s401;"), 0, 4);
        eats("BOTH, DAY 8", Check.of("b000;d;d;d;d;d;d;d;d;ec251;hb;s001;s401;"), 4, 0);
        eats("STINGY", Check.of("ee391;hs;b000;s009;"), 0, 0);
        eats("STINGY, THRIFTY", Check.of("ee991;hs;b000;s005;s201;"), 2, 0, 0);
        eats("STINGY, 1", Check.of("ee191;hs;b000;s009;"));
        due("STINGY lacks", Check.of("ee391;hs;b000;s009;").total(1, 4), 1);
        due("STINGY, HUNGER 0 lacks nothing", Check.of("ee091;hs;b000;s009;").total(1, 4), 0);
        due("THRIFTY spares nothing of AGE 1", Check.of("ee391;ht;b000;s102;").total(1, 1), 2);
    }

    private static void dayOnLastDay() {
        CHECK.promise("9 dayOn, DAY 9999");
        AlwaysYesterdays x = Check.of("b000;");
        for (int i = 0; i < 9999; i++) {
            x.dayOn();
        }
        due("DAY", x.count(1), 9999);
        due("dayOn()", x.dayOn(), 1000000006);
        due("DAY", x.count(1), 9999);
        due("count(16)", x.count(16), 1);
        due("house of d", Check.tell(x, "ho;d;"), -2003);
        due("in thought it may pass", x.never(), 28);
        // 9999 is the week's day 3.
        x.open(4, 0);
        x.set(0, 5);
        due("the next is day 4 of the week", x.total(2, 5), 10);
    }

    private static void total() {
        CHECK.promise("10 total");
        AlwaysYesterdays x = Check.of("ee2510;ef2510;s404;");
        // Day 0: 2 of AGE 4 by the first, 2 fresh by the other; 2 thrown; 4 of 6 fresh left.
        int[] first = {1 + 1 + 5 + 5 - 12 - 2, 4, 2, 2, 0, 6};
        // Day 1: 2 of the 4 of AGE 1 (4 each), 2 fresh; nothing thrown.
        int[] second = {4 + 4 + 5 + 5 - 12, 4, 2, 0, 0, 6};
        for (int what = 0; what < 6; what++) {
            due("total(0, " + what + ")", x.total(0, what), 0);
            due("total(1, " + what + ")", x.total(1, what), first[what]);
            due("total(2, " + what + ")", x.total(2, what), first[what] + second[what]);
        }
        int all = x.total(28, 0);
        int byDays = 0;
        AlwaysYesterdays y = Check.of("ee2510;ef2510;s404;");
        for (int i = 0; i < 28; i++) {
            byDays += y.dayOn();
        }
        due("total(28, 0)", all, byDays);
        due("nothing changes", x.count(1), 0);
        due("LACKED", Check.of("ef941;").total(3, 4), 9);
        due("BOUGHT of both AGES", Check.of("b052;woxooooo;").total(3, 5), 12 + 0 + 7);
        due("total(-1, 9)", x.total(-1, 9), 1000000004);
        due("total(29, 9)", x.total(29, 9), 1000000006);
        due("total(28, 6)", x.total(28, 6), 1000000002);
        due("total(0, -1)", x.total(0, -1), 1000000002);
        due("count(12)", x.count(12), 2);
    }

    private static void left() {
        CHECK.promise("11 left");
        AlwaysYesterdays x = Check.of("s303;s002;");
        int[][] want = {{2, 0, 0, 3, 0}, {0, 8, 0, 0, 3}, {0, 6, 8, 0, 0}};
        for (int n = 0; n < 3; n++) {
            for (int age = 0; age < 5; age++) {
                due("left(" + n + ", " + age + ")", x.left(n, age), want[n][age]);
            }
        }
        due("left(28, 4)", x.left(28, 4), 6);
        due("left(-1, 9)", x.left(-1, 9), -4);
        due("left(29, 9)", x.left(29, 9), -6);
        due("left(28, 5)", x.left(28, 5), -1);
        due("left(0, -1)", x.left(0, -1), -1);
    }

    private static void never() {
        CHECK.promise("12 never");
        due("always yesterday's", Check.of("ee6510;s106;").never(), 28);
        due("at once", Check.of("ee6510;s105;").never(), 0);
        due("nobody", new AlwaysYesterdays().never(), 28);
        due("not OPEN for three days", Check.of("ef151;wxxxoooo;").never(), 3);
        due("bread for a while", Check.of("ee651;b010;s110;").never(), 1);
        due("fresh now, old then", Check.of("ee651;b000;s106;s206;s306;s006;").never(), 28);
        due("never bought", Check.of("ee651;b000;").never(), 28);
    }

    private static void out() {
        CHECK.promise("13 out");
        AlwaysYesterdays x = Check.of("ee6510;s106;");
        due("out(0)", x.out(0), 0);
        due("out(1), alike: the least", x.out(1), 0);
        due("out(2)", x.out(2), 6);
        due("out(28)", x.out(28), 6);
        x.set(3, 0);
        due("out(1), THROW 0", x.out(1), 6);
        due("out(0), THROW 0", x.out(0), 0);
        AlwaysYesterdays much = Check.of("ee9910;b300;s425;s305;c000;");
        due("20 at most", much.out(1), 20);
        due("the oldest", Check.of("ee191;b000;s401;s301;c000;").out(1), 1);
        due("no bread", Check.of("ee9910;").out(5), 0);
        due("out(-1)", x.out(-1), -4);
        due("out(29)", x.out(29), -6);
        due("nothing changes", much.count(2), 30);
    }

    private static void less() {
        CHECK.promise("14 less");
        AlwaysYesterdays x = Check.of("ee6510;s106;");
        due("less(0)", x.less(0), 0);
        due("less(1)", x.less(1), 6);
        due("less(9)", x.less(9), 6);
        due("needed", Check.of("ee6510;").less(1), 0);
        due("what comes once more stays", Check.of("ef951;woxooooo;").less(1), 3);
        due("first OPEN day beyond n", Check.of("wxxxoooo;").less(3), 0);
        due("first OPEN day", Check.of("wxxxoooo;").less(4), 6);
        due("only the first OPEN day", Check.of("ef451;c220;").less(2), 2);
        due("YESTERDAY'S stay", Check.of("b019;").less(1), 1);
        AlwaysYesterdays shut = Check.of("wxxxxxxx;");
        due("no day is OPEN", shut.less(5), -9);
        due("no day is OPEN, below", shut.less(-1), -4);
        due("no day is OPEN, above", shut.less(29), -6);
        due("-9 is no REFUSAL", Check.refusals(shut), 2);
        due("less(29)", x.less(29), -6);
        due("less(-1)", x.less(-1), -4);
    }

    private static void best() {
        CHECK.promise("15 best");
        due("OLD", Check.of("ec151;b000;s001;s401;").best(1), 0);
        due("NEW", Check.of("ee151;b000;s001;s401;").best(1), 1);
        due("MIX", Check.of("ec251;b000;s001;s101;s401;").best(1), 2);
        // A CRUST of BASE 0 has a worth of 1 from AGE 3 on: a house that spares wins.
        due("THRIFTY: one of three fresh is left till then", Check.of("ec101;b000;s003;c000;").best(4), 3);
        due("STINGY: two of three are left till then", Check.of("ec201;b000;s203;c000;").best(3), 5);
        // 6 + 4 + 6, while OLD and MIX have 6 + 6 + 3.
        due("BOTH", Check.of("ec151;b000;s401;s201;s001;c000;").best(3), 4);
        due("best(0)", Check.of("ee151;b000;s001;s401;hn;").best(0), 0);
        due("nobody", new AlwaysYesterdays().best(28), 0);
        AlwaysYesterdays x = Check.of("ee151;b000;s001;s401;hs;");
        due("best(29)", x.best(29), -6);
        due("best(-1)", x.best(-1), -4);
        x.best(1);
        due("the KIND stays", x.count(5), 5);
    }

    private static void buying() {
        CHECK.promise("16 buying");
        due("buying(1)", Check.of("ef451;").buying(1), 4);
        due("buying(0)", Check.of("ef451;").buying(0), 0);
        due("nobody", new AlwaysYesterdays().buying(28), 0);
        due("all it can be", Check.of("ef991;ef991;ef991;ef991;").buying(3), 30);
        due("once more", Check.of("ef991;woxooooo;c100;").buying(1), 5);
        due("alike: the least", Check.of("ef451;c002;").buying(1), 4);
        AlwaysYesterdays x = Check.of("ef451;");
        x.buying(5);
        due("BUY stays", x.count(3), 6);
        due("buying(-1)", x.buying(-1), -4);
        due("buying(29)", x.buying(29), -6);
    }

    private static void close() {
        CHECK.promise("17 close");
        due("less is thrown in 14 DAYS", new AlwaysYesterdays().close(), 0);
        AlwaysYesterdays next = new AlwaysYesterdays();
        next.dayOn();
        due("a day later", next.close(), 1);
        due("the only one", Check.of("wxxxxoxx;").close(), 4);
        due("none", Check.of("wxxxxxxx;").close(), -9);
        due("alike: the first", Check.of("b000;wxxoxoox;").close(), 2);
        AlwaysYesterdays x = new AlwaysYesterdays();
        x.close();
        due("stays OPEN", x.count(4), 7);
    }

    private static void halfAndPays() {
        CHECK.promise("18 half, 19 pays");
        AlwaysYesterdays x = Check.of("ep491;b000;c413;");
        due("half(1)", x.half(1), 4);
        due("pays(1)", x.pays(1), 20);
        due("half(0)", x.half(0), 0);
        due("pays(0)", x.pays(0), 0);
        due("half(3)", x.half(3), 4);
        due("pays(3)", x.pays(3), 60);
        AlwaysYesterdays set = Check.of("ep491;b009;c413;");
        due("by how much more than with 0", set.pays(1), 20);
        due("YESTERDAY'S stay", set.set(1, 0), 9);
        due("nobody needs it", new AlwaysYesterdays().half(9), 0);
        due("nobody needs it", new AlwaysYesterdays().pays(9), 0);
        due("half(-1)", x.half(-1), -4);
        due("half(29)", x.half(29), -6);
        due("pays(-1)", x.pays(-1), 1000000004);
        due("pays(29)", x.pays(29), 1000000006);
        due("count(14)", x.count(14), 2);
        due("count(16)", x.count(16), 2);
    }

    private static void mean(String house, long above, long below) {
        AlwaysYesterdays x = Check.of(house);
        due("above, " + house, x.mean(0), above);
        due("below, " + house, x.mean(1), below);
    }

    private static void mean() {
        CHECK.promise("20 mean");
        mean("ho;", -12, 1);
        mean("b000;", 0, 1);
        mean("ee155;b010;", 1, 2);
        mean("ee145;b010;", 0, 1);
        mean("ee1510;b010;", 3, 1);
        mean("ee151;b010;", -3, 2);
        mean("ef195;ef145;b010;c000;", 11, 2);
        mean("ef1910;ef145;b010;c000;", 9, 1);
        mean("ef117;b010;c000;", 7, 10);
        mean("ef111;ef111;ef111;ef111;b010;c000;", 3439, 10000);
        mean("hs;ef195;b000;c003;", -3, 2);
        mean("b000;s402;eh115;", -3 + 2, 1);
        AlwaysYesterdays x = new AlwaysYesterdays();
        due("mean(2)", x.mean(2), 4000000000000000002L);
        due("mean(-1)", x.mean(-1), 4000000000000000002L);
        due("count(12)", x.count(12), 2);
    }

    private static void likes() {
        CHECK.promise("21 likes");
        AlwaysYesterdays x = Check.of("ec151;eh111;ee101;ec101;");
        due("CRUST", x.likes(0), 3);
        due("HEN", x.likes(1), 0);
        due("all alike", x.likes(2), 0);
        due("CRUST, BASE 0", x.likes(3), 3);
        due("AWAY", Check.of("d;d;d;d;d;ea111;").likes(0), 0);
        due("FRESH", Check.of("ef101;").likes(0), 0);
        due("likes(4)", x.likes(4), -1);
        due("likes(-1)", x.likes(-1), -1);
        due("count(11)", x.count(11), 2);
    }

    private static void whose() {
        CHECK.promise("22 whose");
        AlwaysYesterdays x = Check.of("ee151;ec151;ef161;eh111;");
        int[] want = {2, 0, 0, 1, 1};
        for (int age = 0; age < 5; age++) {
            due("whose(" + age + ")", x.whose(age), want[age]);
        }
        due("nobody eats it", Check.of("ef151;ep151;").whose(2), -9);
        due("nobody", new AlwaysYesterdays().whose(0), -9);
        due("worth 0 is eaten", Check.of("ef191;ee101;").whose(4), 1);
        due("AWAY today", Check.of("d;d;d;d;d;ea191;ee181;").whose(0), 0);
        due("AWAY today", Check.of("d;d;d;d;d;ea191;ee191;").whose(0), 1);
        due("whose(5)", x.whose(5), -1);
        due("whose(-1)", x.whose(-1), -1);
    }

    private static void share() {
        CHECK.promise("23 share");
        due("nothing is bought", Check.of("ee191;").share(), 0);
        due("two each, whatever HUNGER", Check.of("ee091;s006;").share(), 18);
        due("one", Check.of("ee091;s001;").share(), 9);
        due("to whom", Check.of("ee181;ef191;s001;s103;").share(), 9 + 7 + 7);
        due("the first 6", Check.of("ec191;s006;s305;").share(), 18);
        due("freshest first", Check.of("ec191;s005;s305;").share(), 10 + 9);
        due("to nobody", Check.of("ef191;s106;s401;").share(), 0);
        due("nobody", Check.of("s006;").share(), 0);
        due("6 of 8", Check.of("eh111;eh111;eh111;eh111;s030;").share(), 6);
        due("room kept", Check.of("ec151;ep161;s002;s302;").share(), 12 + 12);
        due("today", Check.of("b000;d;d;d;d;d;ea191;s001;s101;").share(), 8 + 3);
    }

    private static int bottlesOf(int n, int... numbers) {
        AlwaysYesterdays x = new AlwaysYesterdays();
        Check.row(x, numbers);
        return x.bottles(n);
    }

    private static void bottles() {
        CHECK.promise("24 bottles");
        due("none", bottlesOf(6), 0);
        due("two days", bottlesOf(2, 0, 0, 5, 0, 1, 4, 1, 1, 3), 9);
        due("one day", bottlesOf(1, 0, 0, 5, 0, 1, 4, 1, 1, 3), 5);
        due("one day, the other", bottlesOf(1, 0, 0, 4, 0, 99, 5), 5);
        due("FROM behind TO", bottlesOf(6, 3, 1, 99), 0);
        due("FROM behind the DAYS", bottlesOf(3, 3, 9, 99, 99, 99, 99), 0);
        due("each but once", bottlesOf(6, 0, 5, 7), 7);
        due("one a day", bottlesOf(6, 2, 2, 7, 2, 2, 8, 2, 2, 6), 8);
        due("6 of them", bottlesOf(6, 0, 5, 1, 0, 5, 2, 0, 0, 3, 0, 5, 4, 5, 5, 5, 0, 5, 99), 114);
        due("moved over", bottlesOf(3, 0, 2, 9, 0, 1, 9, 0, 0, 9), 27);
        AlwaysYesterdays x = new AlwaysYesterdays();
        Check.row(x, 0, 1);
        due("no threes, below", x.bottles(0), -4);
        due("no threes, above", x.bottles(7), -6);
        due("no threes", x.bottles(1), -3);
        x.row(9);
        due("bottles(1)", x.bottles(1), 9);
        due("the ROW stays", x.count(7), 3);
        for (int i = 3; i < 18; i++) {
            x.row(0);
        }
        due("18", x.bottles(1), 9);
        x.row(0);
        due("19", x.bottles(1), -3);
        x.row(0);
        due("20", x.bottles(1), -3);
        due("count(13)", x.count(13), 3);
    }

    private static void row() {
        CHECK.promise("25 row");
        AlwaysYesterdays x = new AlwaysYesterdays();
        due("row(-1)", x.row(-1), -4);
        due("row(100)", x.row(100), -6);
        for (int i = 1; i <= 20; i++) {
            due("row", x.row(i % 2 * 99), i);
        }
        due("row, 21st", x.row(0), -6);
        due("row(-1), 21st", x.row(-1), -4);
        due("count(7)", x.count(7), 20);
        due("count(16)", x.count(16), 2);
    }

    private static void fits() {
        CHECK.promise("26 fits");
        AlwaysYesterdays x = Check.of("ee291;b000;s403;s009;");
        due("empty", x.fits(), 63);
        int[][] rows = {{1}, {3}, {2}, {0}, {3, 0}, {99}};
        int[] want = {1 + 8, 2 + 4 + 16, 32, 0, 2 + 4 + 16, 0};
        for (int i = 0; i < rows.length; i++) {
            Check.row(x, rows[i]);
            due("fits, row " + i, x.fits(), want[i]);
            due("the ROW stays", x.count(7), rows[i].length);
            x.judge();
        }
        AlwaysYesterdays bare = Check.of("b000;s403;s302;");
        Check.row(bare, 3, 2, 0);
        due("nobody eats", bare.fits(), 63);
        bare.row(1);
        due("the last is not so", bare.fits(), 0);
        due("the KIND stays", bare.count(5), 0);
    }

    private static void judge() {
        CHECK.promise("27 judge");
        AlwaysYesterdays x = Check.of("ee3510;s401;s101;");
        due("empty", x.judge(), -9);
        int[][] rows = {{4, 1, 0}, {4}, {4, 1, 0, 0}, {4, 1, 1}, {1}, {4, 0, 0}, {99}};
        int[] want = {-9, -9, 3, 2, 0, 1, 0};
        for (int i = 0; i < rows.length; i++) {
            Check.row(x, rows[i]);
            due("judge, row " + i, x.judge(), want[i]);
            due("the ROW has none then", x.count(7), 0);
        }
        due("nothing changes", x.count(1) * 100 + x.count(2), 2);
        AlwaysYesterdays many = Check.of("ef991;ef991;ef991;b300;");
        for (int i = 0; i < 20; i++) {
            many.row(0);
        }
        due("20, more are EATEN", many.judge(), -9);
    }

    private static void lots() {
        CHECK.promise("28 lots");
        AlwaysYesterdays x = Check.of("ee051;b000;s409;");
        due("a DRAW of 2", x.lots(1, 0), 7);
        due("a DRAW with the sign's bit", x.lots(1, 1000), 8);
        AlwaysYesterdays nobody = Check.of("s405;");
        due("each year from now", nobody.lots(3, 1), 3 * (5 + 24 * 6));
        due("lots(20, -1)", nobody.lots(20, -1), 20 * (5 + 24 * 6));
        due("lots(0, 0)", x.lots(0, 0), -4);
        due("lots(21, 0)", x.lots(21, 0), -6);
        due("nothing changes", x.count(2) * 10 + x.eater(0, 1), 90);
        lotsDrawOn();
    }

    /** All bread of AGE 4 today, so that a year throws 50 less the DRAWS of its first day. */
    private static void lotsDrawOn() {
        AlwaysYesterdays x = Check.of("ee951;ee351;b000;s450;");
        int z = 12345;
        int want = 0;
        for (int year = 0; year < 4; year++) {
            want += 50;
            for (int i = 0; i < 56; i++) {
                z = z * 1664525 + 1013904223;
                int draw = (int) ((z & 0x7fffffffL) / 256 % (i % 2 == 0 ? 12 : 6));
                want -= i < 2 ? draw : 0;
            }
        }
        due("EATERS by numbers, z goes on", x.lots(4, 12345), want);
    }

    private static void imageAndOn() {
        CHECK.promise("29 image, 30 on");
        AlwaysYesterdays x = Check.of("ec375;s203;d;");
        due("none", x.on(), -3);
        due("image()", x.image(), 1);
        String was = snapshot(x);
        Check.tell(x, "ef111;s360;wxxxxxxx;b010;hn;c000;d;d;");
        x.row(5);
        x.letter('d');
        x.stock(9, 9);
        due("on()", x.on(), 1);
        due("the ROW stays", x.count(7), 1);
        due("letters stay", x.count(8), 1);
        due("REFUSALS stay", x.count(11) * 10 + x.count(13), 11);
        x.judge();
        x.house();
        CHECK.that("all is as then", was.equals(snapshot(x)));
        x.dayOn();
        x.stock(2, 60);
        due("on() once more", x.on(), 1);
        CHECK.that("all is as then once more", was.equals(snapshot(x)));
        x.dayOn();
        due("image() later", x.image(), 2);
        x.dayOn();
        due("on() from the later one", x.on(), 2);
    }

    private static void count() {
        CHECK.promise("31 count");
        AlwaysYesterdays x = Check.of("ee311;ef951;s009;s460;woxoxoxo;b090;hb;d;");
        Check.row(x, 1, 2, 3);
        x.letter('e');
        x.letter('e');
        int bread = 0;
        for (int age = 0; age < 5; age++) {
            bread += x.left(0, age);
        }
        int[] want = {2, 1, bread, 9, 4, 4, 12, 3, 2, -9, -9};
        for (int what = 0; what < want.length; what++) {
            due("count(" + what + ")", x.count(what), want[what]);
        }
        x.likes(9);
        x.set(9, 0);
        x.set(9, 0);
        x.on();
        x.row(-1);
        x.row(100);
        x.letter(999);
        int[] refused = {1, 2, 1, 1, 0, 2};
        for (int i = 0; i < 6; i++) {
            due("count(" + (11 + i) + ")", x.count(11 + i), refused[i]);
        }
        for (int what : new int[] {-1, 9, 10, 17, Integer.MIN_VALUE, Integer.MAX_VALUE}) {
            due("count(" + what + ")", x.count(what), -9);
        }
        due("-9 is no REFUSAL", Check.refusals(x), 7);
    }
}
