import java.util.Arrays;
import java.util.Random;

/**
 * Promises 1 to 23 together: long runs of calls, each answer compared with that of the model. The
 * runs are the same each time, for their seeds are written here.
 */
public final class ModelTest {
    private static final int RUNS = 1200;
    private static final int CALLS = 512;
    private static final int[] STRANGE = {Integer.MIN_VALUE, -1000000, -2, -1, 16, 41, 20002,
        10000001, Integer.MAX_VALUE};
    private static final String[] ASKED_OF_YEAR = {"reinstatement", "net", "commission", "share",
        "carried"};

    private final Random random;
    private final CededBook book = new CededBook();
    private final Model model = new Model();
    private final String run;
    /** Small runs have small sums, so that layers and marks are met to the cent. */
    private final int scale;
    private int calls = 0;

    private ModelTest(int seed) {
        random = new Random(seed);
        run = "run " + seed;
        scale = new int[] {10, 60, 1000, 10000000}[seed % 4];
    }

    public static void main(String[] args) {
        for (int seed = 0; seed < RUNS; seed++) {
            new ModelTest(seed).play();
        }
        Check.end();
    }

    private void play() {
        setAllTerms();
        while (calls < CALLS - 80) {
            step(random.nextInt(100));
        }
        askForAll();
    }

    private void setAllTerms() {
        shares();
        same("setExcess", upTo(scale), upTo(scale));
        same("setEvents", upTo(scale), upTo(scale), upTo(3), upTo(1000000));
        commissionTerms();
        same("setProfit", upTo(10000), upTo(10000));
    }

    private void step(int what) {
        if (what < 3) {
            shares();
        } else if (what < 6) {
            same("setExcess", upTo(scale), upTo(scale));
        } else if (what < 9) {
            same("setEvents", upTo(scale), upTo(scale), upTo(3), upTo(1000));
        } else if (what < 11) {
            commissionTerms();
        } else if (what < 13) {
            same("setProfit", upTo(10000), upTo(10000));
        } else if (what < 18) {
            same("write", 1 + upTo(scale - 1), upTo(Math.min(scale, 1000000)));
        } else if (what < 30) {
            same("lose", upTo(book.risks()), upTo(3), 1 + upTo(scale - 1));
        } else if (what < 40) {
            same("change", upTo(book.losses()), upTo(scale));
        } else if (what < 42) {
            same("commute", upTo(book.year()));
        } else if (what < 44) {
            same("closeYear");
        } else {
            ask(what);
        }
    }

    private void ask(int what) {
        if (what < 52) {
            same("premium", upTo(book.risks()), upTo(4));
        } else if (what < 62) {
            same("part", upTo(book.losses()), upTo(4));
        } else if (what < 68) {
            same("borne", upTo(book.year()), upTo(4));
        } else if (what < 76) {
            same("byEvent", upTo(book.year()), upTo(3));
        } else if (what < 98) {
            same(ASKED_OF_YEAR[upTo(ASKED_OF_YEAR.length - 1)], upTo(book.year()));
        } else {
            same("year");
            same("risks");
            same("losses");
        }
    }

    private void askForAll() {
        for (int year = 0; year <= book.year() && calls < CALLS - 9; year++) {
            for (String name : ASKED_OF_YEAR) {
                same(name, year);
            }
            for (int event = 0; event < 4; event++) {
                same("byEvent", year, event);
            }
        }
    }

    private void shares() {
        same("setShares", 1 + upTo(Math.min(scale, 1000000) - 1), upTo(10), upTo(10000));
    }

    private void commissionTerms() {
        int lower = upTo(20000);
        int greatest = upTo(10000);
        same("setCommission", lower, lower + 1 + upTo(Math.min(9000, 20000 - lower)), greatest,
                upTo(greatest));
    }

    private int upTo(int most) {
        return most <= 0 ? 0 : random.nextInt(most + 1);
    }

    private void same(String name, int... a) {
        for (int i = 0; i < a.length; i++) {
            if (random.nextInt(60) == 0) {
                a[i] = STRANGE[random.nextInt(STRANGE.length)];
            }
        }
        calls++;
        Check.is(run + ", call " + calls + ": " + name + Arrays.toString(a), model.call(name, a),
                Calls.answer(book, name, a));
    }
}
