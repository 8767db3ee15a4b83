/** Counts the answers of a test that are not as due, and ends it with exit code 1 if there are some. */
final class Check {
    private int checked;
    private int wrong;
    private String promise = "";

    void promise(String name) {
        promise = name;
    }

    void due(String call, long got, long want) {
        checked++;
        if (got != want) {
            wrong++;
            if (wrong <= 40) {
                System.out.println(promise + ": " + call + " answered " + got + ", due is " + want);
            }
        }
    }

    void that(String what, boolean holds) {
        checked++;
        if (!holds) {
            wrong++;
            System.out.println(promise + ": " + what);
        }
    }

    void end(String test) {
        System.out.println(test + ": " + checked + " checked, " + wrong + " wrong");
        if (wrong != 0) {
            System.exit(1);
        }
    }

    /** Tells a text letter by letter and has it become a HOUSE. */
    static int tell(AlwaysYesterdays x, String text) {
        for (int i = 0; i < text.length(); i++) {
            x.letter(text.charAt(i));
        }
        return x.house();
    }

    /** A new object with a HOUSE, which must be without FAULT. */
    static AlwaysYesterdays of(String text) {
        AlwaysYesterdays x = new AlwaysYesterdays();
        if (tell(x, text) < 0) {
            throw new IllegalStateException("a FAULT in " + text);
        }
        return x;
    }

    static void row(AlwaysYesterdays x, int... numbers) {
        for (int number : numbers) {
            x.row(number);
        }
    }
}
