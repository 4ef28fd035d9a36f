import java.util.ArrayList;
import java.util.List;
import java.util.TreeSet;

/**
 * What is refused. For each argument of each call the least and the greatest value that is taken,
 * and the first one on either side that is not, with the exception that is due, the one that the
 * document names first if there are two, and nothing changed behind it.
 */
public final class RefusalsTest {
    private static final String I = Calls.INDEX;
    private static final String A = Calls.ARGUMENT;
    private static final String S = Calls.STATE;
    private static final String TAKEN = "taken";

    private static final String NEW = "";

    /** Risks and losses in the years 0 and 1; the year of now is 2, with terms and no risks. */
    private static final String OPEN = "setShares 100 4 3000; setExcess 30 40;"
            + "setEvents 50 60 1 500; setCommission 5000 7000 3000 1000; setProfit 1000 5000;"
            + "write 1000 900; write 80 70; lose 0 0 500; lose 1 1 80; lose 0 2 300; closeYear;"
            + "setShares 200 2 1000; write 500 1000; lose 2 3 300; closeYear;"
            + "setShares 50 3 2500; setExcess 20 60; setEvents 40 30 2 700;";

    /** The year of now has a risk. */
    private static final String WRITTEN = OPEN + "write 300 600; lose 3 1 200;";

    /** The year 0, which holds the losses 0 to 2, is commuted. */
    private static final String COMMUTED = OPEN + "commute 0;";

    /** 15 risks and 40 losses, of the years 0 and 1. */
    private static final String FULL = "setShares 100 2 1000; setExcess 9 5; setEvents 10 20 1 100;"
            + "setCommission 2000 9000 3000 100; setProfit 500 2500;"
            + "write 1000 900;".repeat(8) + "closeYear;" + "write 600 50;".repeat(7)
            + "lose 0 0 10;".repeat(20) + "lose 14 3 600;".repeat(20);

    /** The year of now is 9, and every fourth year before it is commuted. */
    private static final String LAST = "setShares 100 1 5000; setExcess 10 20;"
            + "setEvents 5 30 1 100; setCommission 100 900 2000 10; setProfit 100 9000;"
            + "write 200 1000; lose 0 0 100;" + "closeYear; write 300 500; ".repeat(9)
            + "lose 9 2 300; lose 5 1 7; commute 0; commute 4; commute 8;";

    /** Calls that show whatever a refused call may have changed: their answers lean on it. */
    private static final String THEN = "write 640 900; write 480 77; lose 0 2 7; lose 1 3 9;"
            + "lose 2 1 11; lose 3 0 300; lose 4 1 200; lose 14 2 1; change 0 3; change 1 4;"
            + "change 2 6; change 3 5; change 39 2; commute 0; commute 1; commute 4; closeYear;"
            + "write 512 777; lose 5 2 299; commute 2; change 4 1;";

    /** The names of the calls that were made here, so that none is forgotten. */
    private static final TreeSet<String> SEEN = new TreeSet<>();

    public static void main(String[] args) {
        promise2();
        promise3();
        promise4();
        promise5();
        promise6();
        promise7();
        promise8();
        promise8Order();
        promise9();
        promise10();
        promise11();
        promise15();
        promise16();
        promise17();
        promise18();
        promises19To23();
        everyCallHasBeenHere();
        Check.end();
    }

    // ---- terms

    private static void promise2() {
        for (String before : List.of(NEW, OPEN, COMMUTED, FULL + "closeYear;")) {
            shares(before, TAKEN);
        }
        for (String before : List.of("write 1 0;", WRITTEN, FULL, LAST)) {
            shares(before, S);
        }
    }

    private static void shares(String before, String inside) {
        range(before, "setShares * 4 3000", 1, 1000000, A, inside);
        range(before, "setShares 100 * 3000", 0, 10, A, inside);
        range(before, "setShares 100 4 *", 0, 10000, A, inside);
        refused(before, "setShares 0 11 10001", A);
    }

    private static void promise3() {
        for (String before : List.of(NEW, OPEN, COMMUTED, FULL + "closeYear;")) {
            excess(before, TAKEN);
        }
        for (String before : List.of("write 1 0;", WRITTEN, FULL, LAST)) {
            excess(before, S);
        }
    }

    private static void excess(String before, String inside) {
        range(before, "setExcess * 40", 0, 10000000, A, inside);
        range(before, "setExcess 30 *", 0, 10000000, A, inside);
        refused(before, "setExcess -1 -1", A);
    }

    private static void promise4() {
        for (String before : List.of(NEW, OPEN, COMMUTED, FULL + "closeYear;")) {
            events(before, TAKEN);
        }
        for (String before : List.of("write 1 0;", WRITTEN, FULL, LAST)) {
            events(before, S);
        }
    }

    private static void events(String before, String inside) {
        range(before, "setEvents * 60 1 500", 0, 10000000, A, inside);
        range(before, "setEvents 50 * 1 500", 0, 10000000, A, inside);
        range(before, "setEvents 50 60 * 500", 0, 3, A, inside);
        range(before, "setEvents 50 60 1 *", 0, 1000000, A, inside);
        refused(before, "setEvents -1 -1 4 -1", A);
    }

    private static void promise5() {
        for (String before : List.of(NEW, OPEN, WRITTEN, COMMUTED, FULL, LAST)) {
            range(before, "setCommission * 20001 3000 1000", 0, 20000, A, TAKEN);
            range(before, "setCommission 0 * 3000 1000", 1, 20001, A, TAKEN);
            range(before, "setCommission 5000 * 3000 1000", 5001, 20001, A, TAKEN);
            range(before, "setCommission 20000 * 3000 1000", 20001, 20001, A, TAKEN);
            range(before, "setCommission * 7000 3000 1000", 0, 6999, A, TAKEN);
            range(before, "setCommission 5000 7000 * 0", 0, 10000, A, TAKEN);
            range(before, "setCommission 5000 7000 * 1000", 1000, 10000, A, TAKEN);
            range(before, "setCommission 5000 7000 0 *", 0, 0, A, TAKEN);
            range(before, "setCommission 5000 7000 3000 *", 0, 3000, A, TAKEN);
            range(before, "setCommission 5000 7000 10000 *", 0, 10000, A, TAKEN);
            refused(before, "setCommission 20001 20002 3000 1000", A);
            refused(before, "setCommission -2 -1 3000 1000", A);
            refused(before, "setCommission 5000 7000 -1 -1", A);
            refused(before, "setCommission 5000 7000 10001 10001", A);
        }
    }

    private static void promise6() {
        for (String before : List.of(NEW, OPEN, WRITTEN, COMMUTED, FULL, LAST)) {
            range(before, "setProfit * 5000", 0, 10000, A, TAKEN);
            range(before, "setProfit 1000 *", 0, 10000, A, TAKEN);
            refused(before, "setProfit 10001 -1", A);
        }
    }

    // ---- risks, losses, years

    private static void promise7() {
        for (String before : List.of(NEW, OPEN, WRITTEN, COMMUTED, LAST,
                "write 1 0;".repeat(14))) {
            risk(before, TAKEN);
        }
        for (String before : List.of(FULL, FULL + "closeYear;", "write 1 0;".repeat(15))) {
            risk(before, S);
        }
    }

    private static void risk(String before, String inside) {
        range(before, "write * 900", 1, 10000000, A, inside);
        range(before, "write 1000 *", 0, 1000000, A, inside);
        refused(before, "write 0 -1", A);
    }

    private static void promise8() {
        refused(NEW, "lose 0 0 1", I);
        refused(NEW, "lose -1 0 1", I);
        range(OPEN, "lose * 1 30", 0, 2, I, TAKEN);
        range(OPEN, "lose 2 * 30", 0, 3, I, TAKEN);
        range(OPEN, "lose 0 1 *", 1, 1000, A, TAKEN);
        range(OPEN, "lose 1 1 *", 1, 80, A, TAKEN);
        range(OPEN, "lose 2 1 *", 1, 500, A, TAKEN);
        range("write 1 0; write 10000000 0;", "lose 0 0 *", 1, 1, A, TAKEN);
        range("write 1 0; write 10000000 0;", "lose 1 0 *", 1, 10000000, A, TAKEN);
        range("write 9 0;".repeat(15), "lose * 3 9", 0, 14, I, TAKEN);
        range("write 9 0;" + "lose 0 0 9;".repeat(39), "lose 0 3 *", 1, 9, A, TAKEN);
        range(COMMUTED, "lose 2 1 *", 1, 500, A, TAKEN);
    }

    /** No such risk or event, then the amount, then the commuted year or the 40 losses. */
    private static void promise8Order() {
        for (String before : List.of(COMMUTED, FULL, FULL + "commute 0;")) {
            range(before, "lose 0 * 500", 0, 3, I, S);
            range(before, "lose 0 1 *", 1, 1000, A, S);
            refused(before, "lose 0 4 0", I);
            refused(before, "lose 0 -1 1001", I);
            refused(before, "lose 15 1 0", I);
            refused(before, "lose -1 1 10000001", I);
            refused(before, "lose -1 4 0", I);
        }
        range(FULL, "lose * 1 600", 0, 14, I, S);
        range(FULL, "lose 14 1 *", 1, 600, A, S);
        refused(NEW, "lose 0 0 0", I);
        refused(OPEN, "lose 3 0 0", I);
        refused(OPEN, "lose 2 4 501", I);
    }

    private static void promise9() {
        refused(NEW, "change 0 0", I);
        refused("write 9 9;", "change 0 0", I);
        range(OPEN, "change * 80", 0, 3, I, TAKEN);
        range(OPEN, "change 0 *", 0, 1000, A, TAKEN);
        range(OPEN, "change 1 *", 0, 80, A, TAKEN);
        range(OPEN, "change 3 *", 0, 500, A, TAKEN);
        range(FULL, "change * 600", 0, 39, I, TAKEN);
        range(FULL, "change 39 *", 0, 600, A, TAKEN);
        range(COMMUTED, "change 3 *", 0, 500, A, TAKEN);
        range(COMMUTED, "change 0 *", 0, 1000, A, S);
        range(COMMUTED, "change 1 *", 0, 80, A, S);
        for (String before : List.of(OPEN, COMMUTED)) {
            refused(before, "change 4 -1", I);
            refused(before, "change -1 1001", I);
        }
    }

    private static void promise10() {
        refused(NEW, "commute 0", I);
        refused(NEW, "commute -1", I);
        range("closeYear;", "commute *", 0, 0, I, TAKEN);
        range(OPEN, "commute *", 0, 1, I, TAKEN);
        ends(LAST, "commute *", 1, 7, TAKEN);
        range(LAST, "commute *", 0, 8, I, S);
        refused(LAST, "commute 4", S);
        taken(COMMUTED, "commute 1");
        refused(COMMUTED, "commute 0", S);
        // A year that is none stays none if the bits of its number are those of a commuted one.
        for (int year : new int[] {-1, 2, 3, 10, 32, 64, -32, 256, 65536}) {
            refused(COMMUTED, "commute " + year, I);
        }
    }

    private static void promise11() {
        refused(LAST, "closeYear", S);
        refused("closeYear;".repeat(9), "closeYear", S);
        taken("closeYear;".repeat(8), "closeYear");
    }

    // ---- what there is

    private static void promise15() {
        refused(NEW, "premium 0 SURPLUS", I);
        range(OPEN, "premium * KEPT", 0, 2, I, TAKEN);
        range(FULL, "premium * SURPLUS", 0, 14, I, TAKEN);
        range(OPEN, "premium 0 *", 0, 3, A, TAKEN);
        taken(OPEN, "premium 0 QUOTA");
        refused(OPEN, "premium 0 EXCESS", A);
        for (String who : List.of("EXCESS", "4", "-1")) {
            refused(NEW, "premium 0 " + who, I);
            refused(OPEN, "premium 3 " + who, I);
            refused(OPEN, "premium -1 " + who, I);
        }
    }

    private static void promise16() {
        refused(NEW, "part 0 SURPLUS", I);
        refused("write 9 9;", "part 0 KEPT", I);
        range(OPEN, "part * KEPT", 0, 3, I, TAKEN);
        range(FULL, "part * EXCESS", 0, 39, I, TAKEN);
        range(OPEN, "part 0 *", 0, 3, A, TAKEN);
        for (String who : List.of("4", "-1")) {
            refused(NEW, "part 0 " + who, I);
            refused(OPEN, "part 4 " + who, I);
            refused(OPEN, "part -1 " + who, I);
        }
    }

    private static void promise17() {
        for (String before : List.of(NEW, OPEN, FULL, LAST)) {
            range(before, "borne * KEPT", 0, Calls.made(before).year(), I, TAKEN);
            range(before, "borne 0 *", 0, 3, A, TAKEN);
            refused(before, "borne -1 4", I);
            refused(before, "borne 10 -1", I);
        }
    }

    private static void promise18() {
        for (String before : List.of(NEW, OPEN, FULL, LAST)) {
            range(before, "byEvent * 0", 0, Calls.made(before).year(), I, TAKEN);
            range(before, "byEvent 0 *", 0, 3, I, TAKEN);
            refused(before, "byEvent -1 4", I);
        }
    }

    private static void promises19To23() {
        for (String name : List.of("reinstatement", "net", "commission", "share", "carried")) {
            for (String before : List.of(NEW, "closeYear;", OPEN, FULL, LAST)) {
                range(before, name + " *", 0, Calls.made(before).year(), I, TAKEN);
            }
        }
    }

    // ---- how it is asked

    /** In the call a star stands for the argument that has a range. */
    private static void range(String before, String call, int least, int greatest, String outside,
            String inside) {
        ends(before, call, least, greatest, inside);
        long[] beyond = {least - 1L, greatest + 1L, Integer.MIN_VALUE, Integer.MAX_VALUE};
        for (long value : beyond) {
            refused(before, call.replace("*", "" + value), outside);
        }
    }

    private static void ends(String before, String call, int least, int greatest, String due) {
        for (int value : new int[] {least, greatest}) {
            String told = call.replace("*", "" + value);
            if (due.equals(TAKEN)) {
                taken(before, told);
            } else {
                refused(before, told, due);
            }
        }
    }

    private static void taken(String before, String call) {
        String answer = Calls.answer(Calls.made(before), call);
        Check.is(before + " " + call + " is taken", false, answer.endsWith("Exception"));
        SEEN.add(call.split(" ")[0]);
    }

    /** A twin that never had the refused call tells what is due behind it. */
    private static void refused(String before, String call, String due) {
        CededBook book = Calls.made(before);
        Check.is(before + " " + call, due, Calls.answer(book, call));
        Check.is(before + " " + call + ", and then", behind(Calls.made(before)), behind(book));
        SEEN.add(call.split(" ")[0]);
    }

    private static List<String> behind(CededBook book) {
        List<String> told = new ArrayList<>(Calls.answers(book, THEN));
        told.addAll(Calls.all(book));
        return told;
    }

    private static void everyCallHasBeenHere() {
        Check.is("calls that can be refused", "[borne, byEvent, carried, change, closeYear,"
                + " commission, commute, lose, net, part, premium, reinstatement, setCommission,"
                + " setEvents, setExcess, setProfit, setShares, share, write]", SEEN.toString());
    }
}
