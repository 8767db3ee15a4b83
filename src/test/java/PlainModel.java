import java.math.BigInteger;
import java.util.ArrayList;
import java.util.Collections;
import java.util.List;
import java.util.regex.Matcher;
import java.util.regex.Pattern;

/**
 * The document once more, told as slowly and plainly as can be: SLICES one by one, all ways tried.
 * It shares nothing with the class, so that a slip in one of them shows.
 */
final class PlainModel {
    private static final Pattern HOUSE = Pattern.compile(
            "(?:e[efcpha][0-9]{3,4};|s[0-9]{3};|w[ox]{7};|b[0-9]{3};|h[onmtbs];|c[0-9]{3};|d;)+");
    private static final String EATER_KINDS = "efcpha";
    private static final String HOUSE_KINDS = "onmtbs";

    static final class Eater implements Cloneable {
        char kind;
        int hunger;
        int base;
        int chance;

        Eater copy() {
            Eater e = new Eater();
            e.kind = kind;
            e.hunger = hunger;
            e.base = base;
            e.chance = chance;
            return e;
        }
    }

    static final class World {
        List<Integer> bread = new ArrayList<>();
        boolean[] open = {true, true, true, true, true, true, true};
        int day;
        int buy = 6;
        int yesterdays;
        int price = 2;
        int throwing = 1;
        int lack = 3;
        char kind = 'o';
        List<Eater> eaters = new ArrayList<>();
        int buyLessOnce;

        World copy() {
            World w = new World();
            w.bread = new ArrayList<>(bread);
            w.open = open.clone();
            w.day = day;
            w.buy = buy;
            w.yesterdays = yesterdays;
            w.price = price;
            w.throwing = throwing;
            w.lack = lack;
            w.kind = kind;
            for (Eater e : eaters) {
                w.eaters.add(e.copy());
            }
            w.buyLessOnce = buyLessOnce;
            return w;
        }

        int slices(int age) {
            return Collections.frequency(bread, age);
        }

        void putSlices(int age, int n) {
            bread.removeIf(a -> a == age);
            for (int i = 0; i < n; i++) {
                bread.add(age);
            }
        }
    }

    /** What one DAY brought. */
    static final class Report {
        int value;
        int eaten;
        int fresh;
        int thrown;
        int lacked;
        int bought;
        List<Integer> ages = new ArrayList<>();
    }

    private World world = new World();
    private World image;
    private final StringBuilder text = new StringBuilder();
    private final List<Integer> row = new ArrayList<>();
    private final int[] refused = new int[7];

    private int no(int refusal) {
        refused[-refusal]++;
        return refusal;
    }

    static int worthOf(Eater e, int age, int day) {
        switch (e.kind) {
            case 'e':
                return Math.max(0, e.base - age);
            case 'f':
                return age == 0 ? e.base : -1;
            case 'c':
                return age == 3 || age == 4 ? e.base + 1 : Math.max(0, e.base - age);
            case 'p':
                return age == 0 ? e.base : age == 1 ? e.base / 2 : -1;
            case 'h':
                return 1;
            default:
                int w = age == 0 ? e.base : age == 1 ? e.base / 2 : -1;
                if (w == -1) {
                    return -1;
                }
                return day % 7 == 5 || day % 7 == 6 ? Math.max(0, w - 1) : w;
        }
    }

    private static int next(World w, Eater e, char kind) {
        List<Integer> may = new ArrayList<>();
        for (int age = 0; age < 5; age++) {
            if (w.slices(age) > 0 && worthOf(e, age, w.day) != -1) {
                may.add(age);
            }
        }
        if ((kind == 't' || kind == 's') && w.slices(0) <= 3) {
            may.remove(Integer.valueOf(0));
        }
        if (may.isEmpty()) {
            return -1;
        }
        switch (kind) {
            case 'n':
                return may.get(0);
            case 'm':
                int best = may.get(0);
                for (int age : may) {
                    if (worthOf(e, age, w.day) >= worthOf(e, best, w.day)) {
                        best = age;
                    }
                }
                return best;
            case 'b':
                return next(w, e, w.day % 2 == 0 ? 'm' : 'n');
            default:
                return may.get(may.size() - 1);
        }
    }

    static Report pass(World w) {
        Report r = new Report();
        boolean open = w.open[w.day % 7];
        int fresh = 0;
        int half = 0;
        if (open) {
            fresh = w.buy - w.buyLessOnce;
            w.buyLessOnce = 0;
            half = w.yesterdays;
            if (!w.open[(w.day + 1) % 7]) {
                fresh += w.buy;
            }
        }
        for (int i = 0; i < fresh; i++) {
            if (w.slices(0) < 60) {
                w.bread.add(0);
                r.bought++;
                r.value -= w.price;
            }
        }
        for (int i = 0; i < half; i++) {
            if (w.slices(1) < 60) {
                w.bread.add(1);
                r.bought++;
                r.value -= w.price / 2;
            }
        }
        for (Eater e : w.eaters) {
            int takes = w.kind == 's' ? Math.max(0, e.hunger - 1) : e.hunger;
            int got = 0;
            while (got < takes) {
                int age = next(w, e, w.kind);
                if (age == -1) {
                    break;
                }
                w.bread.remove(Integer.valueOf(age));
                got++;
                r.eaten++;
                if (age == 0) {
                    r.fresh++;
                }
                r.ages.add(age);
                r.value += worthOf(e, age, w.day);
            }
            r.lacked += e.hunger - got;
        }
        r.value -= r.lacked * w.lack;
        List<Integer> older = new ArrayList<>();
        for (int age : w.bread) {
            if (age == 4) {
                r.thrown++;
            } else {
                older.add(age + 1);
            }
        }
        w.bread = older;
        r.value -= r.thrown * w.throwing;
        w.day++;
        return r;
    }

    private static int value(World w, int n) {
        int value = 0;
        for (int i = 0; i < n; i++) {
            value += pass(w).value;
        }
        return value;
    }

    private static int firstMost(List<Integer> values) {
        return values.indexOf(Collections.max(values));
    }

    int letter(int c) {
        if (c < 0) {
            return no(-4);
        }
        if (c > 255 || text.length() == 96) {
            return no(-6);
        }
        text.append((char) c);
        return text.length();
    }

    int house() {
        String told = text.toString();
        text.setLength(0);
        for (int i = 1; i <= told.length(); i++) {
            Matcher m = HOUSE.matcher(told.substring(0, i));
            if (!m.matches() && !m.hitEnd()) {
                return -1000 - (i - 1);
            }
        }
        if (!HOUSE.matcher(told).matches()) {
            return -1000 - told.length();
        }
        World w = world.copy();
        int place = 0;
        int statements = 0;
        for (String statement : told.split(";")) {
            if (!come(w, statement)) {
                return -2000 - place;
            }
            place += statement.length() + 1;
            statements++;
        }
        world = w;
        return statements;
    }

    private static boolean come(World w, String s) {
        switch (s.charAt(0)) {
            case 'e':
                Eater e = new Eater();
                e.kind = s.charAt(1);
                e.hunger = Integer.parseInt(s.substring(2, 3));
                e.base = Integer.parseInt(s.substring(3, 4));
                e.chance = Integer.parseInt(s.substring(4));
                w.eaters.add(e);
                return w.eaters.size() <= 4 && e.chance >= 1 && e.chance <= 10;
            case 's':
                int age = Integer.parseInt(s.substring(1, 2));
                int n = Integer.parseInt(s.substring(2));
                w.putSlices(age, n);
                return age <= 4 && n <= 60;
            case 'w':
                for (int i = 0; i < 7; i++) {
                    w.open[i] = s.charAt(i + 1) == 'o';
                }
                return true;
            case 'b':
                w.buy = Integer.parseInt(s.substring(1, 3));
                w.yesterdays = Integer.parseInt(s.substring(3));
                return w.buy <= 30;
            case 'h':
                w.kind = s.charAt(1);
                return true;
            case 'c':
                w.price = s.charAt(1) - '0';
                w.throwing = s.charAt(2) - '0';
                w.lack = s.charAt(3) - '0';
                return true;
            default:
                pass(w);
                return w.day <= 9999;
        }
    }

    int eater(int eater, int what) {
        if (eater < 0 || eater >= world.eaters.size()) {
            return no(-1);
        }
        if (what < 0 || what > 3) {
            return no(-2);
        }
        Eater e = world.eaters.get(eater);
        return new int[] {EATER_KINDS.indexOf(e.kind), e.hunger, e.base, e.chance}[what];
    }

    int stock(int age, int v) {
        if (age < 0 || age > 4) {
            return no(-1);
        }
        if (v < 0) {
            return no(-4);
        }
        if (v > 60) {
            return no(-6);
        }
        int was = world.slices(age);
        world.putSlices(age, v);
        return was;
    }

    int open(int day, int is) {
        if (day < 0 || day > 6) {
            return no(-1);
        }
        if (is != 0 && is != 1) {
            return no(-2);
        }
        int was = world.open[day] ? 1 : 0;
        world.open[day] = is == 1;
        return was;
    }

    int set(int what, int v) {
        if (what < 0 || what > 5) {
            return no(-2);
        }
        if (v < 0) {
            return no(-4);
        }
        if (v > (what == 0 ? 30 : what == 5 ? 5 : 9)) {
            return no(-6);
        }
        int[] now = {world.buy, world.yesterdays, world.price, world.throwing, world.lack, HOUSE_KINDS.indexOf(world.kind)};
        put(world, what, v);
        return now[what];
    }

    private static void put(World w, int what, int v) {
        switch (what) {
            case 0: w.buy = v; break;
            case 1: w.yesterdays = v; break;
            case 2: w.price = v; break;
            case 3: w.throwing = v; break;
            case 4: w.lack = v; break;
            default: w.kind = HOUSE_KINDS.charAt(v);
        }
    }

    int worth(int eater, int age) {
        if (eater < 0 || eater >= world.eaters.size() || age < 0 || age > 4) {
            return no(-1);
        }
        int w = worthOf(world.eaters.get(eater), age, world.day);
        return w == -1 ? -9 : w;
    }

    int dayOn() {
        if (world.day + 1 > 9999) {
            return 1000000000 - no(-6);
        }
        return pass(world).value;
    }

    private int badDays(int n) {
        return n < 0 ? -4 : n > 28 ? -6 : 0;
    }

    int total(int n, int what) {
        if (badDays(n) != 0) {
            return 1000000000 - no(badDays(n));
        }
        if (what < 0 || what > 5) {
            return 1000000000 - no(-2);
        }
        World w = world.copy();
        int all = 0;
        for (int i = 0; i < n; i++) {
            Report r = pass(w);
            all += new int[] {r.value, r.eaten, r.fresh, r.thrown, r.lacked, r.bought}[what];
        }
        return all;
    }

    int left(int n, int age) {
        if (badDays(n) != 0) {
            return no(badDays(n));
        }
        if (age < 0 || age > 4) {
            return no(-1);
        }
        World w = world.copy();
        value(w, n);
        return w.slices(age);
    }

    int never() {
        World w = world.copy();
        int days = 0;
        while (days < 28 && pass(w).fresh == 0) {
            days++;
        }
        return days;
    }

    int out(int n) {
        if (badDays(n) != 0) {
            return no(badDays(n));
        }
        List<Integer> values = new ArrayList<>();
        for (int k = 0; k <= Math.min(20, world.bread.size()); k++) {
            World w = world.copy();
            Collections.sort(w.bread);
            w.bread = new ArrayList<>(w.bread.subList(0, w.bread.size() - k));
            values.add(value(w, n) - k * world.throwing);
        }
        return firstMost(values);
    }

    int less(int n) {
        if (badDays(n) != 0) {
            return no(badDays(n));
        }
        if (count(4) == 0) {
            return -9;
        }
        List<Integer> values = new ArrayList<>();
        for (int k = 0; k <= world.buy; k++) {
            World w = world.copy();
            w.buyLessOnce = k;
            values.add(value(w, n));
        }
        return firstMost(values);
    }

    private List<Integer> valuesOf(int what, int most, int n) {
        List<Integer> values = new ArrayList<>();
        for (int v = 0; v <= most; v++) {
            World w = world.copy();
            put(w, what, v);
            values.add(value(w, n));
        }
        return values;
    }

    int best(int n) {
        return badDays(n) != 0 ? no(badDays(n)) : firstMost(valuesOf(5, 5, n));
    }

    int buying(int n) {
        return badDays(n) != 0 ? no(badDays(n)) : firstMost(valuesOf(0, 30, n));
    }

    int close() {
        int best = -9;
        int most = Integer.MIN_VALUE;
        for (int day = 0; day < 7; day++) {
            if (world.open[day]) {
                World w = world.copy();
                w.open[day] = false;
                int v = value(w, 14);
                if (v > most) {
                    most = v;
                    best = day;
                }
            }
        }
        return best;
    }

    int half(int n) {
        return badDays(n) != 0 ? no(badDays(n)) : firstMost(valuesOf(1, 9, n));
    }

    int pays(int n) {
        if (badDays(n) != 0) {
            return 1000000000 - no(badDays(n));
        }
        List<Integer> values = valuesOf(1, 9, n);
        return Collections.max(values) - values.get(0);
    }

    long mean(int part) {
        if (part != 0 && part != 1) {
            return 4000000000000000000L - no(-2);
        }
        BigInteger above = meanAbove(0, world.copy());
        BigInteger below = BigInteger.TEN.pow(world.eaters.size());
        BigInteger by = above.gcd(below);
        return (part == 0 ? above : below).divide(by).longValueExact();
    }

    private BigInteger meanAbove(int eater, World w) {
        if (eater == w.eaters.size()) {
            return BigInteger.valueOf(pass(w).value);
        }
        World without = w.copy();
        without.eaters.get(eater).hunger = 0;
        int chance = w.eaters.get(eater).chance;
        return meanAbove(eater + 1, w).multiply(BigInteger.valueOf(chance))
                .add(meanAbove(eater + 1, without).multiply(BigInteger.valueOf(10 - chance)));
    }

    int likes(int eater) {
        if (eater < 0 || eater >= world.eaters.size()) {
            return no(-1);
        }
        List<Integer> values = new ArrayList<>();
        for (int age = 0; age < 5; age++) {
            values.add(worthOf(world.eaters.get(eater), age, world.day));
        }
        return Collections.max(values) == -1 ? -9 : firstMost(values);
    }

    int whose(int age) {
        if (age < 0 || age > 4) {
            return no(-1);
        }
        List<Integer> values = new ArrayList<>();
        for (Eater e : world.eaters) {
            values.add(worthOf(e, age, world.day));
        }
        return values.isEmpty() || Collections.max(values) == -1 ? -9 : firstMost(values);
    }

    int share() {
        List<Integer> sorted = new ArrayList<>(world.bread);
        Collections.sort(sorted);
        return bestShare(sorted.subList(0, Math.min(6, sorted.size())), 0, new int[world.eaters.size()]);
    }

    private int bestShare(List<Integer> slices, int at, int[] has) {
        if (at == slices.size()) {
            return 0;
        }
        int most = bestShare(slices, at + 1, has);
        for (int e = 0; e < has.length; e++) {
            int w = worthOf(world.eaters.get(e), slices.get(at), world.day);
            if (has[e] < 2 && w != -1) {
                has[e]++;
                most = Math.max(most, w + bestShare(slices, at + 1, has));
                has[e]--;
            }
        }
        return most;
    }

    int bottles(int n) {
        if (n < 1) {
            return no(-4);
        }
        if (n > 6) {
            return no(-6);
        }
        if (row.size() % 3 != 0 || row.size() > 18) {
            return no(-3);
        }
        return bestBottles(0, new boolean[n]);
    }

    private int bestBottles(int at, boolean[] used) {
        if (at == row.size()) {
            return 0;
        }
        int most = bestBottles(at + 3, used);
        for (int day = 0; day < used.length; day++) {
            if (!used[day] && day >= row.get(at) && day <= row.get(at + 1)) {
                used[day] = true;
                most = Math.max(most, row.get(at + 2) + bestBottles(at + 3, used));
                used[day] = false;
            }
        }
        return most;
    }

    int row(int v) {
        if (v < 0) {
            return no(-4);
        }
        if (v > 99 || row.size() == 20) {
            return no(-6);
        }
        row.add(v);
        return row.size();
    }

    int fits() {
        int bits = 0;
        for (int kind = 0; kind < 6; kind++) {
            World w = world.copy();
            w.kind = HOUSE_KINDS.charAt(kind);
            boolean so = true;
            for (int thrown : row) {
                so &= pass(w).thrown == thrown;
            }
            bits += so ? 1 << kind : 0;
        }
        return bits;
    }

    int judge() {
        List<Integer> ages = pass(world.copy()).ages;
        List<Integer> told = new ArrayList<>(row);
        row.clear();
        for (int i = 0; i < told.size(); i++) {
            if (i >= ages.size() || !ages.get(i).equals(told.get(i))) {
                return i;
            }
        }
        return -9;
    }

    int lots(int n, int z) {
        if (n < 1) {
            return no(-4);
        }
        if (n > 20) {
            return no(-6);
        }
        int seed = z;
        int thrown = 0;
        for (int year = 0; year < n; year++) {
            World w = world.copy();
            for (int day = 0; day < 28; day++) {
                for (int e = 0; e < w.eaters.size(); e++) {
                    seed = (int) (seed * 1664525L + 1013904223L);
                    long unsigned = seed < 0 ? seed + 2147483648L : seed;
                    w.eaters.get(e).hunger = (int) (unsigned / 256 % (world.eaters.get(e).hunger + 3));
                }
                thrown += pass(w).thrown;
            }
        }
        return thrown;
    }

    int image() {
        image = world.copy();
        return world.day;
    }

    int on() {
        if (image == null) {
            return no(-3);
        }
        world = image.copy();
        return world.day;
    }

    int count(int what) {
        switch (what) {
            case 0: return world.eaters.size();
            case 1: return world.day;
            case 2: return world.bread.size();
            case 3: return world.buy;
            case 4:
                int open = 0;
                for (boolean o : world.open) {
                    open += o ? 1 : 0;
                }
                return open;
            case 5: return HOUSE_KINDS.indexOf(world.kind);
            case 6: return world.eaters.stream().mapToInt(e -> e.hunger).sum();
            case 7: return row.size();
            case 8: return text.length();
            default: return what >= 11 && what <= 16 ? refused[what - 10] : -9;
        }
    }
}
