import java.util.Arrays;

/** A house that eats bread by age, as ../shared/DOC.md tells it. */
public final class AlwaysYesterdays {
    private static final int NOBODY = -1;
    private static final int OTHER = -2;
    private static final int STATE = -3;
    private static final int BELOW = -4;
    private static final int ROOM = -6;
    private static final int REFUSAL_KINDS = 6;
    private static final int NONE = -9;
    // Where an answer may itself be below 0, a refusal is told as this less it.
    private static final int INT_TELLER = 1000000000;
    private static final long LONG_TELLER = 4000000000000000000L;

    private static final int AGES = 5;
    private static final int OLDEST = AGES - 1;
    private static final int WEEK = 7;
    private static final int MOST_SLICES = 60;
    private static final int LAST_DAY = 9999;
    private static final int MOST_EATERS = 4;
    private static final int MOST_LETTERS = 96;
    private static final int LAST_SIGN = 255;
    private static final int MOST_IN_ROW = 20;
    private static final int MOST_ROW_NUMBER = 99;

    private static final int MOST_THOUGHT_DAYS = 28;
    private static final int CLOSING_DAYS = 14;
    private static final int MOST_THROWN_OUT = 20;
    private static final int MOST_YEARS = 20;
    private static final int MOST_BOTTLE_DAYS = 6;
    private static final int MOST_BOTTLES = 6;
    private static final int SHARED_SLICES = 6;

    // The settings, by the numbers of set().
    private static final int BUY = 0;
    private static final int YESTERDAYS = 1;
    private static final int PRICE = 2;
    private static final int THROW = 3;
    private static final int LACK = 4;
    private static final int HOUSE_KIND = 5;
    private static final int[] MOST_OF_SETTING = {30, 9, 9, 9, 9, 5};

    // What is known of an EATER, by the numbers of eater().
    private static final int EATER_KIND = 0;
    private static final int HUNGER = 1;
    private static final int BASE = 2;
    private static final int CHANCE = 3;
    private static final int EATER_PARTS = 4;
    private static final int MOST_CHANCE = 10;

    // KINDS of EATERS by their places here; 0 is the plain EATER.
    private static final String EATER_LETTERS = "efcpha";
    private static final int FRESH = 1;
    private static final int CRUST = 2;
    private static final int PICKY = 3;
    private static final int HEN = 4;
    private static final int AWAY = 5;
    private static final int FIRST_CRUST_AGE = 3;
    private static final int FIRST_AWAY_DAY = 5;
    private static final int NOT_EATEN = -1;

    // KINDS of HOUSES by their places here; 0 is OLD.
    private static final String HOUSE_LETTERS = "onmtbs";
    private static final int NEW = 1;
    private static final int MIX = 2;
    private static final int THRIFTY = 3;
    private static final int BOTH = 4;
    private static final int STINGY = 5;
    private static final int THRIFT = 3;

    // What is counted of DAYS, by the numbers of total().
    private static final int VALUE = 0;
    private static final int EATEN = 1;
    private static final int EATEN_FRESH = 2;
    private static final int THROWN = 3;
    private static final int LACKED = 4;
    private static final int BOUGHT = 5;
    private static final int COUNTED = 6;

    // SHARE counts what each EATER has (0 .. 2) as the digits of a number by threes.
    private static final int[] THREES = {1, 3, 9, 27};
    private static final int ALL_SHARES = 81;
    // BOTTLES has the days on which one is opened as bits.
    private static final int ALL_BOTTLE_DAYS = 64;
    private static final int UNREACHED = -1;

    private final Household here = new Household();
    private final Household kept = new Household();
    private final Household mind = new Household();
    private final Tally tally = new Tally();
    private final Choice choice = new Choice();
    private final Letters letters = new Letters();
    private final int[] numbers = new int[MOST_IN_ROW];
    private final int[] refusals = new int[REFUSAL_KINDS + 1];
    private final int[] byShares = new int[ALL_SHARES];
    private final int[] byDays = new int[ALL_BOTTLE_DAYS];
    private int numberCount;
    private boolean imageTaken;

    public AlwaysYesterdays() {
    }

    public int letter(int c) {
        int refusal = outside(c, 0, LAST_SIGN);
        if (refusal == 0 && letters.many >= MOST_LETTERS) {
            refusal = ROOM;
        }
        if (refusal != 0) {
            return refuse(refusal);
        }
        letters.add((char) c);
        return letters.many;
    }

    public int house() {
        int wrong = letters.wrongPlace();
        int answer = wrong >= 0 ? -1000 - wrong : becomeHouse();
        letters.many = 0;
        return answer;
    }

    public int eater(int eater, int what) {
        if (!here.has(eater)) {
            return refuse(NOBODY);
        }
        if (!within(what, 0, EATER_PARTS - 1)) {
            return refuse(OTHER);
        }
        return here.eaters[eater][what];
    }

    public int stock(int age, int v) {
        int refusal = isAge(age) ? outside(v, 0, MOST_SLICES) : NOBODY;
        if (refusal != 0) {
            return refuse(refusal);
        }
        int was = here.slices[age];
        here.slices[age] = v;
        return was;
    }

    public int open(int day, int is) {
        if (!within(day, 0, WEEK - 1)) {
            return refuse(NOBODY);
        }
        if (!within(is, 0, 1)) {
            return refuse(OTHER);
        }
        int was = here.opens[day];
        here.opens[day] = is;
        return was;
    }

    public int set(int what, int v) {
        if (!within(what, 0, HOUSE_KIND)) {
            return refuse(OTHER);
        }
        int refusal = outside(v, 0, MOST_OF_SETTING[what]);
        if (refusal != 0) {
            return refuse(refusal);
        }
        int was = here.settings[what];
        here.settings[what] = v;
        return was;
    }

    public int worth(int eater, int age) {
        if (!here.has(eater) || !isAge(age)) {
            return refuse(NOBODY);
        }
        int worth = here.worthTo(eater, age);
        return worth == NOT_EATEN ? NONE : worth;
    }

    public int dayOn() {
        if (here.day >= LAST_DAY) {
            return INT_TELLER - refuse(ROOM);
        }
        tally.clear();
        here.passDay(tally);
        return tally.counted[VALUE];
    }

    public int total(int n, int what) {
        int refusal = outside(n, 0, MOST_THOUGHT_DAYS);
        if (refusal == 0 && !within(what, 0, COUNTED - 1)) {
            refusal = OTHER;
        }
        if (refusal != 0) {
            return INT_TELLER - refuse(refusal);
        }
        think();
        passInMind(n);
        return tally.counted[what];
    }

    public int left(int n, int age) {
        int refusal = outside(n, 0, MOST_THOUGHT_DAYS);
        if (refusal == 0 && !isAge(age)) {
            refusal = NOBODY;
        }
        if (refusal != 0) {
            return refuse(refusal);
        }
        think();
        passInMind(n);
        return mind.slices[age];
    }

    public int never() {
        think();
        for (int days = 0; days < MOST_THOUGHT_DAYS; days++) {
            passInMind(1);
            if (tally.counted[EATEN_FRESH] > 0) {
                return days;
            }
        }
        return MOST_THOUGHT_DAYS;
    }

    public int out(int n) {
        int refusal = outside(n, 0, MOST_THOUGHT_DAYS);
        if (refusal != 0) {
            return refuse(refusal);
        }
        int most = Math.min(MOST_THROWN_OUT, here.allSlices());
        choice.clear();
        for (int k = 0; k <= most; k++) {
            think();
            mind.loseOldest(k);
            choice.offer(k, passInMind(n) - k * here.settings[THROW]);
        }
        return choice.best;
    }

    public int less(int n) {
        int refusal = outside(n, 0, MOST_THOUGHT_DAYS);
        if (refusal != 0) {
            return refuse(refusal);
        }
        if (here.openDays() == 0) {
            return NONE;
        }
        choice.clear();
        for (int k = 0; k <= here.settings[BUY]; k++) {
            think();
            mind.fewer = k;
            choice.offer(k, passInMind(n));
        }
        return choice.best;
    }

    public int best(int n) {
        int refusal = outside(n, 0, MOST_THOUGHT_DAYS);
        return refusal != 0 ? refuse(refusal) : bestOfSetting(HOUSE_KIND, n);
    }

    public int buying(int n) {
        int refusal = outside(n, 0, MOST_THOUGHT_DAYS);
        return refusal != 0 ? refuse(refusal) : bestOfSetting(BUY, n);
    }

    public int close() {
        choice.clear();
        for (int day = 0; day < WEEK; day++) {
            if (here.opens[day] == 1) {
                think();
                mind.opens[day] = 0;
                choice.offer(day, passInMind(CLOSING_DAYS));
            }
        }
        return choice.best;
    }

    public int half(int n) {
        int refusal = outside(n, 0, MOST_THOUGHT_DAYS);
        return refusal != 0 ? refuse(refusal) : bestOfSetting(YESTERDAYS, n);
    }

    public int pays(int n) {
        int refusal = outside(n, 0, MOST_THOUGHT_DAYS);
        if (refusal != 0) {
            return INT_TELLER - refuse(refusal);
        }
        bestOfSetting(YESTERDAYS, n);
        think();
        mind.settings[YESTERDAYS] = 0;
        return choice.bestValue - passInMind(n);
    }

    public long mean(int part) {
        if (!within(part, 0, 1)) {
            return LONG_TELLER - refuse(OTHER);
        }
        long below = 1;
        for (int eater = 0; eater < here.eaterCount; eater++) {
            below *= MOST_CHANCE;
        }
        long above = 0;
        for (int who = 0; who < 1 << here.eaterCount; who++) {
            above += chanceOf(who) * valueIfThereCome(who);
        }
        long by = greatestDivisor(below, Math.abs(above));
        return (part == 0 ? above : below) / by;
    }

    public int likes(int eater) {
        if (!here.has(eater)) {
            return refuse(NOBODY);
        }
        choice.clear();
        for (int age = 0; age < AGES; age++) {
            int worth = here.worthTo(eater, age);
            if (worth != NOT_EATEN) {
                choice.offer(age, worth);
            }
        }
        return choice.best;
    }

    public int whose(int age) {
        if (!isAge(age)) {
            return refuse(NOBODY);
        }
        choice.clear();
        for (int eater = 0; eater < here.eaterCount; eater++) {
            int worth = here.worthTo(eater, age);
            if (worth != NOT_EATEN) {
                choice.offer(eater, worth);
            }
        }
        return choice.best;
    }

    public int share() {
        Arrays.fill(byShares, UNREACHED);
        byShares[0] = 0;
        int left = SHARED_SLICES;
        for (int age = 0; age < AGES; age++) {
            int many = Math.min(left, here.slices[age]);
            for (int i = 0; i < many; i++) {
                shareOne(age);
            }
            left -= many;
        }
        return greatest(byShares);
    }

    public int bottles(int n) {
        int refusal = outside(n, 1, MOST_BOTTLE_DAYS);
        if (refusal == 0 && (numberCount % 3 != 0 || numberCount > 3 * MOST_BOTTLES)) {
            refusal = STATE;
        }
        if (refusal != 0) {
            return refuse(refusal);
        }
        Arrays.fill(byDays, UNREACHED);
        byDays[0] = 0;
        for (int at = 0; at + 2 < numberCount; at += 3) {
            openBottle(numbers[at], Math.min(numbers[at + 1], n - 1), numbers[at + 2]);
        }
        return greatest(byDays);
    }

    public int row(int v) {
        int refusal = outside(v, 0, MOST_ROW_NUMBER);
        if (refusal == 0 && numberCount >= MOST_IN_ROW) {
            refusal = ROOM;
        }
        if (refusal != 0) {
            return refuse(refusal);
        }
        numbers[numberCount] = v;
        numberCount++;
        return numberCount;
    }

    public int fits() {
        int bits = 0;
        for (int kind = 0; kind <= MOST_OF_SETTING[HOUSE_KIND]; kind++) {
            if (throwsAsInRow(kind)) {
                bits |= 1 << kind;
            }
        }
        return bits;
    }

    public int judge() {
        int answer = firstNotEatenToday();
        numberCount = 0;
        return answer;
    }

    public int lots(int n, int z) {
        int refusal = outside(n, 1, MOST_YEARS);
        if (refusal != 0) {
            return refuse(refusal);
        }
        int seed = z;
        int thrown = 0;
        for (int year = 0; year < n; year++) {
            think();
            for (int day = 0; day < MOST_THOUGHT_DAYS; day++) {
                for (int eater = 0; eater < here.eaterCount; eater++) {
                    seed = seed * 1664525 + 1013904223;
                    mind.eaters[eater][HUNGER] = draw(seed, here.eaters[eater][HUNGER] + 3);
                }
                passInMind(1);
                thrown += tally.counted[THROWN];
            }
        }
        return thrown;
    }

    public int image() {
        kept.become(here);
        imageTaken = true;
        return here.day;
    }

    public int on() {
        if (!imageTaken) {
            return refuse(STATE);
        }
        here.become(kept);
        return here.day;
    }

    public int count(int what) {
        if (within(what, 11, 10 + REFUSAL_KINDS)) {
            return refusals[what - 10];
        }
        switch (what) {
            case 0:
                return here.eaterCount;
            case 1:
                return here.day;
            case 2:
                return here.allSlices();
            case 3:
                return here.settings[BUY];
            case 4:
                return here.openDays();
            case 5:
                return here.settings[HOUSE_KIND];
            case 6:
                return here.allHunger();
            case 7:
                return numberCount;
            case 8:
                return letters.many;
            default:
                return NONE;
        }
    }

    private static boolean within(int v, int least, int most) {
        return v >= least && v <= most;
    }

    private static boolean isAge(int age) {
        return age >= 0 && age < AGES;
    }

    /** The refusal of a number that is not within its bounds; 0 if it is. */
    private static int outside(int v, int least, int most) {
        if (v < least) {
            return BELOW;
        }
        return v > most ? ROOM : 0;
    }

    private int refuse(int refusal) {
        if (within(-refusal, 1, REFUSAL_KINDS)) {
            refusals[-refusal]++;
        }
        return refusal;
    }

    /** Tells all STATEMENTS in mind first, for with a FAULT nothing may come. */
    private int becomeHouse() {
        think();
        int statements = 0;
        int at = 0;
        // Each STATEMENT has two letters at least, so the places run out before the turns.
        for (int turn = 0; turn < MOST_LETTERS && at < letters.many; turn++) {
            if (!letters.tellStatement(at, mind, tally)) {
                return -2000 - at;
            }
            statements++;
            at = letters.behindStatement(at);
        }
        here.become(mind);
        return statements;
    }

    private void think() {
        mind.become(here);
    }

    /** The VALUE of n DAYS more in mind; the tally has these DAYS alone. */
    private int passInMind(int n) {
        tally.clear();
        for (int i = 0; i < n; i++) {
            mind.passDay(tally);
        }
        return tally.counted[VALUE];
    }

    private int bestOfSetting(int setting, int n) {
        choice.clear();
        for (int v = 0; v <= MOST_OF_SETTING[setting]; v++) {
            think();
            mind.settings[setting] = v;
            choice.offer(v, passInMind(n));
        }
        return choice.best;
    }

    /** How often, of ten for each EATER, just those come whose bits are set. */
    private long chanceOf(int who) {
        long chance = 1;
        for (int eater = 0; eater < here.eaterCount; eater++) {
            int comes = here.eaters[eater][CHANCE];
            chance *= (who >> eater & 1) == 1 ? comes : MOST_CHANCE - comes;
        }
        return chance;
    }

    private int valueIfThereCome(int who) {
        think();
        for (int eater = 0; eater < here.eaterCount; eater++) {
            if ((who >> eater & 1) == 0) {
                mind.eaters[eater][HUNGER] = 0;
            }
        }
        return passInMind(1);
    }

    /** Of a above 0 and b, 0 at least. */
    private static long greatestDivisor(long a, long b) {
        long divisor = a;
        long rest = b;
        for (int i = 0; i < 1000 && rest != 0; i++) {
            long next = divisor % rest;
            divisor = rest;
            rest = next;
        }
        return Math.max(1, divisor);
    }

    /** One SLICE more; from above down, so that no one gets it twice. */
    private void shareOne(int age) {
        for (int shares = ALL_SHARES - 1; shares > 0; shares--) {
            for (int eater = 0; eater < here.eaterCount; eater++) {
                boolean hasOne = shares / THREES[eater] % 3 > 0;
                int before = hasOne ? byShares[shares - THREES[eater]] : UNREACHED;
                if (before == UNREACHED) {
                    continue;
                }
                int worth = here.worthTo(eater, age);
                if (worth != NOT_EATEN && before + worth > byShares[shares]) {
                    byShares[shares] = before + worth;
                }
            }
        }
    }

    /** One bottle more; from above down, so that it is opened but once. */
    private void openBottle(int from, int to, int worth) {
        for (int days = ALL_BOTTLE_DAYS - 1; days > 0; days--) {
            for (int day = from; day <= to; day++) {
                boolean hasDay = (days >> day & 1) == 1;
                int before = hasDay ? byDays[days - (1 << day)] : UNREACHED;
                if (before != UNREACHED && before + worth > byDays[days]) {
                    byDays[days] = before + worth;
                }
            }
        }
    }

    private static int greatest(int[] of) {
        int greatest = 0;
        for (int i = 0; i < of.length; i++) {
            greatest = Math.max(greatest, of[i]);
        }
        return greatest;
    }

    private boolean throwsAsInRow(int kind) {
        think();
        mind.settings[HOUSE_KIND] = kind;
        for (int i = 0; i < numberCount; i++) {
            passInMind(1);
            if (tally.counted[THROWN] != numbers[i]) {
                return false;
            }
        }
        return true;
    }

    private int firstNotEatenToday() {
        think();
        passInMind(1);
        for (int i = 0; i < numberCount; i++) {
            if (i >= tally.firstCount || tally.firstAges[i] != numbers[i]) {
                return i;
            }
        }
        return NONE;
    }

    private static int draw(int seed, int below) {
        return below < 1 ? 0 : (seed & 0x7fffffff) / 256 % below;
    }

    /** What brings most; of several the first that is offered. */
    private static final class Choice {
        int best;
        int bestValue;

        void clear() {
            best = NONE;
            bestValue = 0;
        }

        void offer(int what, int value) {
            if (best == NONE || value > bestValue) {
                best = what;
                bestValue = value;
            }
        }
    }

    /** What is counted while DAYS go by. */
    private static final class Tally {
        final int[] counted = new int[COUNTED];
        // The ROW can't ask for more of them than it holds.
        final int[] firstAges = new int[MOST_IN_ROW];
        int firstCount;

        void clear() {
            Arrays.fill(counted, 0);
            firstCount = 0;
        }

        void addBought(int many, int price) {
            counted[BOUGHT] += many;
            counted[VALUE] -= many * price;
        }

        void addEaten(int age, int many, int worth) {
            counted[EATEN] += many;
            if (age == 0) {
                counted[EATEN_FRESH] += many;
            }
            counted[VALUE] += many * worth;
            for (int i = 0; i < many && firstCount < MOST_IN_ROW; i++) {
                firstAges[firstCount] = age;
                firstCount++;
            }
        }

        void addLacked(int many, int lack) {
            counted[LACKED] += many;
            counted[VALUE] -= many * lack;
        }

        void addThrown(int many, int cost) {
            counted[THROWN] += many;
            counted[VALUE] -= many * cost;
        }
    }

    /** All that an image keeps: bread, EATERS, the shop, the settings, DAY. */
    private static final class Household {
        final int[] slices = new int[AGES];
        final int[] opens = {1, 1, 1, 1, 1, 1, 1};
        final int[] settings = {6, 0, 2, 1, 3, 0};
        final int[][] eaters = new int[MOST_EATERS][EATER_PARTS];
        int eaterCount;
        int day;
        // How many less of AGE 0 come on the next OPEN day: only LESS thinks of it.
        int fewer;

        void become(Household other) {
            System.arraycopy(other.slices, 0, slices, 0, AGES);
            System.arraycopy(other.opens, 0, opens, 0, WEEK);
            System.arraycopy(other.settings, 0, settings, 0, settings.length);
            for (int eater = 0; eater < MOST_EATERS; eater++) {
                System.arraycopy(other.eaters[eater], 0, eaters[eater], 0, EATER_PARTS);
            }
            eaterCount = other.eaterCount;
            day = other.day;
            fewer = other.fewer;
        }

        boolean has(int eater) {
            return eater >= 0 && eater < eaterCount;
        }

        int allSlices() {
            int all = 0;
            for (int age = 0; age < AGES; age++) {
                all += slices[age];
            }
            return all;
        }

        int openDays() {
            int days = 0;
            for (int i = 0; i < WEEK; i++) {
                days += opens[i];
            }
            return days;
        }

        int allHunger() {
            int all = 0;
            for (int eater = 0; eater < eaterCount; eater++) {
                all += eaters[eater][HUNGER];
            }
            return all;
        }

        boolean takeIn(int kind, int hunger, int base, int chance) {
            if (eaterCount >= MOST_EATERS || !within(chance, 1, MOST_CHANCE)) {
                return false;
            }
            int[] eater = eaters[eaterCount];
            eater[EATER_KIND] = kind;
            eater[HUNGER] = hunger;
            eater[BASE] = base;
            eater[CHANCE] = chance;
            eaterCount++;
            return true;
        }

        boolean putSlices(int age, int many) {
            if (!isAge(age) || !within(many, 0, MOST_SLICES)) {
                return false;
            }
            slices[age] = many;
            return true;
        }

        boolean change(int setting, int v) {
            if (!within(v, 0, MOST_OF_SETTING[setting])) {
                return false;
            }
            settings[setting] = v;
            return true;
        }

        void loseOldest(int k) {
            int left = k;
            for (int age = OLDEST; age >= 0; age--) {
                int many = Math.min(left, slices[age]);
                slices[age] -= many;
                left -= many;
            }
        }

        void passDay(Tally tally) {
            shop(tally);
            for (int eater = 0; eater < eaterCount; eater++) {
                feed(eater, tally);
            }
            tally.addThrown(slices[OLDEST], settings[THROW]);
            for (int age = OLDEST; age > 0; age--) {
                slices[age] = slices[age - 1];
            }
            slices[0] = 0;
            day++;
        }

        private void shop(Tally tally) {
            if (opens[day % WEEK] == 0) {
                return;
            }
            tally.addBought(bring(0, settings[BUY] - fewer), settings[PRICE]);
            fewer = 0;
            if (opens[(day + 1) % WEEK] == 0) {
                tally.addBought(bring(0, settings[BUY]), settings[PRICE]);
            }
            tally.addBought(bring(1, settings[YESTERDAYS]), settings[PRICE] / 2);
        }

        private int bring(int age, int many) {
            int come = Math.min(many, MOST_SLICES - slices[age]);
            slices[age] += come;
            return come;
        }

        /** Takes as many of an AGE at once as would be taken of it one behind the other. */
        private void feed(int eater, Tally tally) {
            int hunger = eaters[eater][HUNGER];
            int wanted = settings[HOUSE_KIND] == STINGY ? hunger - 1 : hunger;
            int eaten = 0;
            for (int turn = 0; turn < AGES && eaten < wanted; turn++) {
                int age = nextAge(eater);
                if (age < 0) {
                    break;
                }
                int many = Math.min(wanted - eaten, inReach(age));
                slices[age] -= many;
                eaten += many;
                tally.addEaten(age, many, worthTo(eater, age));
            }
            tally.addLacked(hunger - eaten, settings[LACK]);
        }

        /** How many SLICES of an AGE may be taken. */
        private int inReach(int age) {
            int kind = settings[HOUSE_KIND];
            boolean spares = age == 0 && (kind == THRIFTY || kind == STINGY);
            return spares ? slices[age] - THRIFT : slices[age];
        }

        /** The AGE that an EATER takes next; -1 if there is none. */
        private int nextAge(int eater) {
            int way = settings[HOUSE_KIND];
            if (way == BOTH) {
                way = day % 2 == 0 ? MIX : NEW;
            }
            int best = -1;
            int bestWorth = NOT_EATEN;
            for (int age = OLDEST; age >= 0; age--) {
                if (inReach(age) <= 0) {
                    continue;
                }
                int worth = worthTo(eater, age);
                if (worth == NOT_EATEN) {
                    continue;
                }
                if (best < 0 || way == NEW || way == MIX && worth > bestWorth) {
                    best = age;
                    bestWorth = worth;
                }
            }
            return best;
        }

        int worthTo(int eater, int age) {
            int base = eaters[eater][BASE];
            int kind = eaters[eater][EATER_KIND];
            int plain = base > age ? base - age : 0;
            switch (kind) {
                case FRESH:
                    return age == 0 ? base : NOT_EATEN;
                case CRUST:
                    return age >= FIRST_CRUST_AGE ? base + 1 : plain;
                case HEN:
                    return 1;
                case PICKY:
                case AWAY:
                    if (age > 1) {
                        return NOT_EATEN;
                    }
                    int picky = age == 0 ? base : base / 2;
                    boolean away = kind == AWAY && day % WEEK >= FIRST_AWAY_DAY;
                    return away && picky > 0 ? picky - 1 : picky;
                default:
                    return plain;
            }
        }
    }

    /** Letters told one by one, and how they read as STATEMENTS. */
    private static final class Letters {
        private static final char END = ';';
        // Signs of a form: a KIND of EATER, of HOUSE, OPEN or not, a digit, one that may lack.
        private static final char AN_EATER = 'E';
        private static final char A_HOUSE = 'H';
        private static final char OPEN_OR_NOT = 'W';
        private static final char DIGIT = '9';
        private static final char MAYBE_DIGIT = '?';

        private final char[] signs = new char[MOST_LETTERS];
        int many;

        void add(char sign) {
            if (many < MOST_LETTERS) {
                signs[many] = sign;
                many++;
            }
        }

        /** A place beyond the letters reads as the end of a STATEMENT. */
        private char sign(int at) {
            return at >= 0 && at < many ? signs[at] : END;
        }

        private int digit(int at) {
            return sign(at) - '0';
        }

        private int twoDigits(int at) {
            return 10 * digit(at) + digit(at + 1);
        }

        /** Where the first FAULT of kind 1 is; -1 if there is none. */
        int wrongPlace() {
            String form = "";
            int step = 0;
            for (int at = 0; at < many; at++) {
                char sign = signs[at];
                if (step >= form.length()) {
                    form = formBehind(sign);
                    step = 0;
                    if (form.isEmpty()) {
                        return at;
                    }
                    continue;
                }
                if (form.charAt(step) == MAYBE_DIGIT && !isDigit(sign)) {
                    step++;
                }
                if (step >= form.length() || !goesOn(form.charAt(step), sign)) {
                    return at;
                }
                step++;
            }
            return many > 0 && step >= form.length() ? -1 : many;
        }

        /** What must stand behind a STATEMENT's first letter; empty if none begins so. */
        private static String formBehind(char first) {
            switch (first) {
                case 'e':
                    return "E999?;";
                case 's':
                case 'b':
                case 'c':
                    return "999;";
                case 'w':
                    return "WWWWWWW;";
                case 'h':
                    return "H;";
                case 'd':
                    return ";";
                default:
                    return "";
            }
        }

        private static boolean isDigit(char sign) {
            return sign >= '0' && sign <= '9';
        }

        private static boolean goesOn(char must, char sign) {
            switch (must) {
                case AN_EATER:
                    return EATER_LETTERS.indexOf(sign) >= 0;
                case A_HOUSE:
                    return HOUSE_LETTERS.indexOf(sign) >= 0;
                case OPEN_OR_NOT:
                    return sign == 'o' || sign == 'x';
                case DIGIT:
                case MAYBE_DIGIT:
                    return isDigit(sign);
                default:
                    return sign == must;
            }
        }

        int behindStatement(int at) {
            int behind = at;
            while (behind < many && signs[behind] != END) {
                behind++;
            }
            return behind + 1;
        }

        /** Whether the STATEMENT is as it must be; if it is, it has come. */
        boolean tellStatement(int at, Household to, Tally tally) {
            switch (sign(at)) {
                case 'e':
                    int chance = sign(at + 5) == END ? digit(at + 4) : twoDigits(at + 4);
                    return to.takeIn(EATER_LETTERS.indexOf(sign(at + 1)), digit(at + 2), digit(at + 3), chance);
                case 's':
                    return to.putSlices(digit(at + 1), twoDigits(at + 2));
                case 'w':
                    for (int i = 0; i < WEEK; i++) {
                        to.opens[i] = sign(at + 1 + i) == 'o' ? 1 : 0;
                    }
                    return true;
                case 'b':
                    return to.change(BUY, twoDigits(at + 1)) && to.change(YESTERDAYS, digit(at + 3));
                case 'h':
                    return to.change(HOUSE_KIND, HOUSE_LETTERS.indexOf(sign(at + 1)));
                case 'c':
                    return to.change(PRICE, digit(at + 1)) && to.change(THROW, digit(at + 2))
                            && to.change(LACK, digit(at + 3));
                default:
                    if (to.day >= LAST_DAY) {
                        return false;
                    }
                    to.passDay(tally);
                    return true;
            }
        }
    }
}
