import java.io.IOException;
import java.io.UncheckedIOException;
import java.nio.file.Files;
import java.nio.file.Path;

/** Counts the answers of a test that are not as due, and ends it with exit code 1 if there are some. */
final class Check {
    static final int LOW = Integer.MIN_VALUE;
    static final int HIGH = Integer.MAX_VALUE;

    private int checked;
    private int wrong;
    private int sentences;
    private String promise = "";
    private String document = "";

    void promise(String name) {
        promise = name;
    }

    /**
     * What follows tests these words of the document. If it has them no longer, that is told, but the class is not
     * wrong for it: then the test is to be looked at.
     */
    void sentence(String words) {
        if (document.isEmpty()) {
            document = inOneLine(Path.of("../shared/DOC.md"));
        }
        promise = "'" + words + "'";
        sentences++;
        if (!document.contains(words)) {
            System.out.println(promise + " is not in the document");
        }
    }

    private static String inOneLine(Path file) {
        try {
            return Files.exists(file) ? Files.readString(file).replaceAll("\\s+", " ") : "no document";
        } catch (IOException e) {
            throw new UncheckedIOException(e);
        }
    }

    void due(String call, long got, long want) {
        checked++;
        if (got != want) {
            wrong++;
            if (wrong <= 40) {
                System.out.println(promise + ": " + call + " answered " + got + ", due is " + want);
            }
        }
    }

    void that(String what, boolean holds) {
        checked++;
        if (!holds) {
            wrong++;
            System.out.println(promise + ": " + what);
        }
    }

    /** That today just these AGES are EATEN, one behind the other. */
    void eats(String what, AlwaysYesterdays x, int... ages) {
        row(x, ages);
        due(what + " eats so", x.judge(), -9);
        due(what + " eats no more", x.total(1, 1), ages.length);
        row(x, ages);
        x.row(0);
        due(what + ", beyond what is EATEN", x.judge(), ages.length);
    }

    void end(String test) {
        String of = sentences == 0 ? "" : " for " + sentences + " sentences";
        System.out.println(test + ": " + checked + " checked" + of + ", " + wrong + " wrong");
        if (wrong != 0) {
            System.exit(1);
        }
    }

    /** Tells a text letter by letter and has it become a HOUSE. */
    static int tell(AlwaysYesterdays x, String text) {
        for (int i = 0; i < text.length(); i++) {
            x.letter(text.charAt(i));
        }
        return x.house();
    }

    /** A new object with a HOUSE, which must be without FAULT. */
    static AlwaysYesterdays of(String text) {
        AlwaysYesterdays x = new AlwaysYesterdays();
        if (tell(x, text) < 0) {
            throw new IllegalStateException("a FAULT in " + text);
        }
        return x;
    }

    static void row(AlwaysYesterdays x, int... numbers) {
        for (int number : numbers) {
            x.row(number);
        }
    }

    /** REFUSALS of all kinds together. */
    static int refusals(AlwaysYesterdays x) {
        int all = 0;
        for (int what = 11; what <= 16; what++) {
            all += x.count(what);
        }
        return all;
    }

    /** All that an image keeps, in some sixty calls that leave it as it is. */
    static String household(AlwaysYesterdays x) {
        StringBuilder s = new StringBuilder();
        for (int what = 0; what < 7; what++) {
            s.append(x.count(what)).append(' ');
        }
        for (int e = 0; e < x.count(0); e++) {
            for (int what = 0; what < 4; what++) {
                s.append(x.eater(e, what)).append(' ');
            }
        }
        for (int age = 0; age < 5; age++) {
            s.append(x.left(0, age)).append(' ');
        }
        for (int what = 0; what < 6; what++) {
            int was = x.set(what, 0);
            x.set(what, was);
            s.append(was).append(' ');
        }
        for (int day = 0; day < 7; day++) {
            int was = x.open(day, 0);
            x.open(day, was);
            s.append(was);
        }
        return s.toString();
    }

    /** What household() leaves out: the ROW, as far as it can be asked, letters and REFUSALS. */
    static String rest(AlwaysYesterdays x) {
        StringBuilder s = new StringBuilder();
        s.append(x.count(7)).append(' ').append(x.count(8)).append(' ').append(x.fits());
        for (int what = 11; what <= 16; what++) {
            s.append(' ').append(x.count(what));
        }
        return s.toString();
    }
}
