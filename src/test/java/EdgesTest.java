import java.util.List;

/**
 * The edges of what is taken, in the order of the document: what the least and the greatest values
 * do, where a sum is rounded down, what is "at most" and "as far as", the cases of 0, the object
 * empty and full, and products that leave the range of an int.
 */
public final class EdgesTest {
    private static final String ALL_OF_A_LOSS = "write 10000000 0; lose 0 0 10000000;";

    public static void main(String[] args) {
        promise1();
        promise2Line();
        promise2Lines();
        promise2Quota();
        promise2WithoutRisks();
        promise3();
        promise4();
        promise4Again();
        promise5();
        promise6();
        promise7();
        promise8();
        promise9();
        promise10();
        promise10Stays();
        promises11To14();
        promises15And16();
        promises17And18();
        promise18Left();
        promise19();
        promise20();
        promise21Ratio();
        promise21Large();
        promises22And23();
        promises22And23Carried();
        promises22And23Large();
        eachYearByItself();
        Check.end();
    }

    // ---- terms

    private static void promise1() {
        for (String told : Calls.all(new CededBook())) {
            Check.is("1 " + told, true, told.endsWith(": 0"));
        }
        Check.is("1 only the year 0", 16, Calls.all(new CededBook()).size());
        // The surplus bears nine tenths: without a margin nothing is added to its loss.
        String loss = "setShares 1000000 10 0; write 10000000 1000000; lose 0 0 10000000;";
        due(loss, "carried 0", 8100000);
    }

    private static void promise2Line() {
        due("setShares 1 1 0; write 1 1000", "premium 0 SURPLUS", 0);
        due("setShares 1 1 0; write 2 1000", "premium 0 SURPLUS", 500);
        due("setShares 1 10 0; write 10000000 1000000", "premium 0 SURPLUS", 1);
        String greatest = "setShares 1000000 10 0;";
        due(greatest + "write 1000000 1000000", "premium 0 SURPLUS", 0);
        due(greatest + "write 1000001 1000000", "premium 0 SURPLUS", 0);
        due(greatest + "write 1000001 0; lose 0 0 1000000", "part 0 SURPLUS", 0);
        due(greatest + "write 1000001 0; lose 0 0 1000001", "part 0 SURPLUS", 1);
        due(greatest + ALL_OF_A_LOSS, "part 0 SURPLUS", 9000000);
        due("setShares 999999 10 0;" + ALL_OF_A_LOSS, "part 0 SURPLUS", 9000001);
    }

    private static void promise2Lines() {
        due("setShares 1 0 0; write 11 1000", "premium 0 SURPLUS", 0);
        due("setShares 1 1 0; write 11 1000", "premium 0 SURPLUS", 90);
        due("setShares 1 9 0; write 11 1000", "premium 0 SURPLUS", 818);
        due("setShares 1 10 0; write 10 1000", "premium 0 SURPLUS", 900);
        due("setShares 1 10 0; write 11 1000", "premium 0 SURPLUS", 909);
        due("setShares 1 10 0; write 12 1000", "premium 0 SURPLUS", 833);
        due("setShares 1000000 9 0;" + ALL_OF_A_LOSS, "part 0 SURPLUS", 9000000);
        due("setShares 1000000 8 0;" + ALL_OF_A_LOSS, "part 0 SURPLUS", 8000000);
        due("setShares 1000000 0 0;" + ALL_OF_A_LOSS, "part 0 SURPLUS", 0);
    }

    private static void promise2Quota() {
        due("setShares 1 0 0; write 10 1000000", "premium 0 QUOTA", 0);
        due("setShares 1 0 1; write 10 9999", "premium 0 QUOTA", 0);
        due("setShares 1 0 1; write 10 10000", "premium 0 QUOTA", 1);
        due("setShares 1 0 9999; write 10 1", "premium 0 QUOTA", 0);
        due("setShares 1 0 9999; write 10 10000", "premium 0 QUOTA", 9999);
        due("setShares 1 0 10000; write 10 1", "premium 0 QUOTA", 1);
        due("setShares 1 0 10000; write 10 1", "premium 0 KEPT", 0);
        due("setShares 1 0 10000;" + ALL_OF_A_LOSS, "part 0 QUOTA", 10000000);
        due("setShares 1 0 9999;" + ALL_OF_A_LOSS, "part 0 QUOTA", 9999000);
        due("setShares 100 1 5000; write 200 101", "premium 0 SURPLUS", 50);
        due("setShares 100 1 5000; write 200 101", "premium 0 QUOTA", 25);
        due("setShares 100 1 5000; write 200 101", "premium 0 KEPT", 26);
    }

    /** Only the risks of the year of now keep its terms from being set. */
    private static void promise2WithoutRisks() {
        String full = "write 100 0;".repeat(15) + "lose 14 0 100; closeYear;";
        due(full + "setShares 9 9 9; setShares 1 1 1; setExcess 1 1; setEvents 1 1 1 1",
                "part 0 KEPT", 100);
        due("setShares 9 9 9; setShares 50 1 0; write 100 1000", "premium 0 SURPLUS", 500);
        due("closeYear;".repeat(9) + "setShares 50 1 0; write 100 1000", "premium 0 SURPLUS", 500);
        due("setExcess 0 1; setExcess 0 7;" + ALL_OF_A_LOSS, "part 0 EXCESS", 7);
        due("setEvents 0 1 0 0; setEvents 0 7 0 0;" + ALL_OF_A_LOSS, "byEvent 0 0", 7);
    }

    private static void promise3() {
        due("setExcess 0 10000000;" + ALL_OF_A_LOSS, "part 0 EXCESS", 10000000);
        due("setExcess 0 10000000;" + ALL_OF_A_LOSS, "part 0 KEPT", 0);
        due("setExcess 0 9999999;" + ALL_OF_A_LOSS, "part 0 EXCESS", 9999999);
        due("setExcess 0 9999999;" + ALL_OF_A_LOSS, "part 0 KEPT", 1);
        due("setExcess 10000000 10000000;" + ALL_OF_A_LOSS, "part 0 EXCESS", 0);
        due("setExcess 9999999 10000000;" + ALL_OF_A_LOSS, "part 0 EXCESS", 1);
        due("setExcess 0 0;" + ALL_OF_A_LOSS, "part 0 EXCESS", 0);
        due("setExcess 0 1;" + ALL_OF_A_LOSS, "part 0 EXCESS", 1);
        // Of 400 the surplus leaves 200, and the quota 150 of these.
        String left = "write 1000 0; lose 0 0 400";
        due("setShares 500 1 2500; setExcess 149 10;" + left, "part 0 EXCESS", 1);
        due("setShares 500 1 2500; setExcess 150 10;" + left, "part 0 EXCESS", 0);
        due("setShares 500 1 2500; setExcess 140 10;" + left, "part 0 EXCESS", 10);
        due("setShares 500 1 2500; setExcess 139 10;" + left, "part 0 KEPT", 140);
    }

    private static void promise4() {
        due("setEvents 0 10000000 0 0;" + ALL_OF_A_LOSS, "byEvent 0 0", 10000000);
        due("setEvents 0 10000000 0 0;" + ALL_OF_A_LOSS, "net 0", 0);
        due("setEvents 0 10000000 3 0;" + ALL_OF_A_LOSS + "lose 0 0 10000000", "byEvent 0 0",
                10000000);
        due("setEvents 0 10000000 3 0;" + ALL_OF_A_LOSS + "lose 0 0 10000000", "net 0", 10000000);
        due("setEvents 10000000 10000000 3 0;" + ALL_OF_A_LOSS, "byEvent 0 0", 0);
        due("setEvents 10000000 10000000 3 0;" + ALL_OF_A_LOSS + "lose 0 0 1", "byEvent 0 0", 1);
        due("setEvents 9999999 1 0 0;" + ALL_OF_A_LOSS, "byEvent 0 0", 1);
        due("setEvents 9999998 1 0 0;" + ALL_OF_A_LOSS, "byEvent 0 0", 1);
        due("setEvents 0 0 3 1000000;" + ALL_OF_A_LOSS, "byEvent 0 0", 0);
        due("setEvents 0 0 3 1000000;" + ALL_OF_A_LOSS, "reinstatement 0", 0);
    }

    private static void promise4Again() {
        String each = "write 10000000 0; lose 0 0 10000000; lose 0 1 10000000;"
                + "lose 0 2 10000000; lose 0 3 10000000";
        for (int again = 0; again <= 3; again++) {
            String terms = "setEvents 0 10000000 " + again + " 1000000;";
            for (int event = 0; event < 4; event++) {
                due(terms + each, "byEvent 0 " + event, event <= again ? 10000000 : 0);
            }
            due(terms + each, "net 0", 10000000 * (3 - again));
            due(terms + each, "reinstatement 0", 1000000 * again);
        }
        due("setEvents 0 1 3 1000000;" + each, "byEvent 0 3", 1);
        due("setEvents 0 1 3 1000000;" + each, "reinstatement 0", 3000000);
        due("setEvents 0 10000000 3 0;" + each, "reinstatement 0", 0);
        due("setEvents 0 10000000 3 1;" + each, "reinstatement 0", 3);
    }

    private static void promise5() {
        int[][] rows = {
            // lower, upper, greatest, least, ratio, the rate that is due
            {0, 1, 10000, 0, 0, 10000}, {0, 1, 10000, 0, 1, 0},
            {0, 2, 10000, 9999, 1, 10000}, {0, 2, 10000, 9999, 2, 9999},
            {20000, 20001, 10000, 0, 20000, 10000}, {20000, 20001, 10000, 0, 20001, 0},
            {19999, 20001, 10000, 0, 20000, 5000}, {19999, 20001, 10000, 0, 19999, 10000},
            {0, 20001, 10000, 0, 0, 10000}, {0, 20001, 10000, 0, 2, 10000},
            {0, 20001, 10000, 0, 3, 9999}, {0, 20001, 10000, 0, 20000, 1},
            {0, 20001, 10000, 0, 20001, 0}, {0, 20001, 10000, 0, 20002, 0},
            {100, 103, 10000, 10000, 0, 10000}, {100, 103, 10000, 10000, 101, 10000},
            {100, 103, 10000, 10000, 103, 10000}, {100, 103, 0, 0, 0, 0},
            {100, 103, 0, 0, 101, 0}, {100, 103, 9, 2, 100, 9}, {100, 103, 9, 2, 101, 7},
            {100, 103, 9, 2, 102, 5}, {100, 103, 9, 2, 103, 2}, {100, 103, 9, 2, 10000000, 2}};
        for (int[] row : rows) {
            due("setShares 1 0 10000; setCommission " + row[0] + " " + row[1] + " " + row[2] + " "
                    + row[3] + "; write 10000000 10000; lose 0 0 1; change 0 " + row[4],
                    "commission 0", row[5]);
        }
    }

    private static void promise6() {
        // The surplus bears the half: its premiums are 1000.
        String half = "setShares 500 1 0; write 1000 2000;";
        due(half + "setProfit 0 0", "share 0", 0);
        due(half + "setProfit 0 1", "share 0", 0);
        due(half + "setProfit 0 10", "share 0", 1);
        due(half + "setProfit 0 9999", "share 0", 999);
        due(half + "setProfit 0 10000", "share 0", 1000);
        due(half + "setProfit 9 10000", "share 0", 1000);
        due(half + "setProfit 10 10000", "share 0", 999);
        due(half + "setProfit 9999 10000", "share 0", 1);
        due(half + "setProfit 10000 10000", "share 0", 0);
        due(half + "setProfit 10000 10000", "carried 0", 0);
        due(half + "setProfit 10000 10000; lose 0 0 2", "carried 0", 1);
        due(half + "setProfit 10000 0; lose 0 0 1000", "carried 0", 500);
    }

    // ---- risks, losses, years

    private static void promise7() {
        due("", "write 1 0", 0);
        due("", "write 10000000 1000000", 0);
        due("write 1 0", "premium 0 KEPT", 0);
        due("write 1 1000000", "premium 0 KEPT", 1000000);
        due("write 1 0;".repeat(14), "write 1 0", 14);
        due("write 1 0;".repeat(14) + "closeYear;".repeat(9), "write 1 7", 14);
        due("write 1 0;".repeat(14) + "closeYear;".repeat(9) + "write 1 7", "premium 14 KEPT", 7);
        due("write 1 0;".repeat(15), "risks", 15);
        // A risk has the terms of the year in which it was written.
        String years = "setShares 50 1 0; write 100 1000; closeYear; setShares 25 1 0;"
                + "write 100 1000";
        due(years, "premium 0 SURPLUS", 500);
        due(years, "premium 1 SURPLUS", 250);
    }

    private static void promise8() {
        due("write 1 0", "lose 0 0 1", 0);
        due("write 10000000 0", "lose 0 3 10000000", 0);
        due("write 10000000 0; lose 0 3 10000000", "part 0 KEPT", 10000000);
        due("write 9 0; lose 0 0 1", "part 0 KEPT", 1);
        due("write 9 0;".repeat(15), "lose 14 0 9", 0);
        due("write 9 0;" + "lose 0 0 9;".repeat(39), "lose 0 0 9", 39);
        due("write 9 0;" + "lose 0 0 9;".repeat(40), "losses", 40);
        due("write 9 0;" + "lose 0 0 9;".repeat(40), "borne 0 KEPT", 360);
        // A late loss is of the year of its risk.
        String late = "setEvents 0 5 0 0; write 9 0;" + "closeYear;".repeat(9) + "lose 0 3 9";
        due(late, "byEvent 0 3", 5);
        due(late, "borne 0 KEPT", 9);
        due(late, "borne 9 KEPT", 0);
        due(late, "net 0", 4);
    }

    private static void promise9() {
        String two = "write 9 0; write 20 0; lose 0 0 4; lose 1 1 5;";
        due(two, "change 0 0", 4);
        due(two, "change 0 9", 4);
        due(two, "change 1 20", 5);
        due(two, "change 1 5", 5);
        due(two + "change 1 20", "change 1 0", 20);
        due(two + "change 1 0", "change 1 20", 0);
        due(two + "change 1 0", "losses", 2);
        due(two + "change 1 0", "part 1 KEPT", 0);
        due(two + "change 1 0", "borne 0 KEPT", 4);
        due("write 9 0;" + "lose 0 0 9;".repeat(40), "change 39 0", 9);
        due("write 9 0;" + "lose 0 0 9;".repeat(40) + "change 39 0", "borne 0 KEPT", 351);
        due("write 9 0;" + "lose 0 0 9;".repeat(40) + "change 0 1", "borne 0 KEPT", 352);
        due("write 10000000 0; lose 0 0 1", "change 0 10000000", 1);
        due("write 10000000 0; lose 0 0 1; change 0 10000000", "net 0", 10000000);
    }

    private static void promise10() {
        due("closeYear", "commute 0", 0);
        due("closeYear;".repeat(9), "commute 0", 0);
        due("closeYear;".repeat(9), "commute 8", 0);
        String ten = "setShares 1 0 5000;";
        for (int year = 0; year < 10; year++) {
            ten += "write 1000 0; lose " + year + " 0 " + (100 + 2 * year) + ";"
                    + (year < 9 ? "closeYear;" : "");
        }
        for (int year = 0; year < 9; year++) {
            due(ten, "commute " + year, 50 + year);
            due(ten + "commute " + year, "commute " + (year + 1) % 9, 50 + (year + 1) % 9);
        }
        due(ten + "commute 0; commute 8", "change 7 1000", 114);
        due(ten + "commute 0; commute 8", "lose 9 0 1", 10);
        due(ten + "commute 0; commute 1; commute 2", "borne 1 QUOTA", 51);
        // Of 300 the treaties bear 240, 27, 13 and 12, and 8 are net.
        String all = "setShares 100 4 4500; setExcess 20 40; setEvents 8 50 0 0; write 500 0;"
                + "lose 0 1 300; lose 0 1 100; change 1 0; closeYear";
        due(all, "part 0 SURPLUS", 240);
        due(all, "part 0 QUOTA", 27);
        due(all, "part 0 EXCESS", 13);
        due(all, "byEvent 0 1", 12);
        due(all, "commute 0", 292);
        due(all + "; commute 0", "net 0", 8);
    }

    /** What there is of a commuted year stays, whatever is done to the years behind it. */
    private static void promise10Stays() {
        String terms = "setShares 50 1 2000; setExcess 10 20; setEvents 5 30 1 100;"
                + "setCommission 100 20000 9000 10;";
        CededBook book = Calls.made(terms + "write 100 1000; lose 0 0 90; lose 0 3 80; closeYear;"
                + "commute 0");
        List<String> before = Calls.all(book).subList(3, 3 + 3 + 8 + 13);
        Calls.answers(book, "lose 0 0 1; change 0 0; change 1 100; setShares 1 10 1;"
                + "setExcess 0 0; setEvents 0 0 0 0; write 9 9; lose 1 0 9; closeYear; commute 1;"
                + "commute 0; change 0 1; closeYear; change 1 0; lose 0 1 5");
        List<String> behind = Calls.all(book);
        for (String told : before) {
            Check.is("10 stays " + told, true, behind.contains(told));
        }
        Check.is("10 a loss of each year", 3, book.losses());
    }

    private static void promises11To14() {
        for (int year = 0; year < 9; year++) {
            due("closeYear;".repeat(year), "closeYear", year + 1);
            due("closeYear;".repeat(year), "year", year);
        }
        due("closeYear;".repeat(9), "year", 9);
        due("closeYear;".repeat(9), "risks", 0);
        due("closeYear;".repeat(9), "losses", 0);
        String terms = "setShares 50 1 5000; setExcess 5 10; setEvents 2 3 1 9;";
        String risk = "write 100 1000; lose 0 0 100;";
        due(terms + "closeYear;".repeat(9) + risk, "part 0 SURPLUS", 50);
        due(terms + "closeYear;".repeat(9) + risk, "part 0 QUOTA", 25);
        due(terms + "closeYear;".repeat(9) + risk, "part 0 EXCESS", 10);
        due(terms + "closeYear;".repeat(9) + risk, "byEvent 9 0", 3);
        due(terms + "closeYear;".repeat(9) + risk, "reinstatement 9", 9);
        due("closeYear;" + terms + risk, "part 0 SURPLUS", 50);
        due("write 100 0; closeYear; write 100 0; lose 1 0 1; closeYear", "risks", 2);
        due("write 100 0; closeYear; write 100 0; lose 1 0 1; closeYear", "losses", 1);
    }

    // ---- what there is

    private static void promises15And16() {
        // The products are 9000000 times 999999 and 9000000 times 9999999.
        String large = "setShares 1000000 10 3333; setExcess 100000 300000;"
                + "write 10000000 999999; lose 0 0 9999999;";
        due(large, "premium 0 SURPLUS", 899999);
        due(large, "premium 0 QUOTA", 33330);
        due(large, "premium 0 KEPT", 66670);
        due(large, "part 0 SURPLUS", 8999999);
        due(large, "part 0 QUOTA", 333300);
        due(large, "part 0 EXCESS", 300000);
        due(large, "part 0 KEPT", 366700);
        // What is rounded down is kept, to the cent.
        String small = "setShares 1 2 9999; setExcess 0 1; write 3 1; lose 0 0 1; lose 0 0 2;";
        due(small, "premium 0 SURPLUS", 0);
        due(small, "premium 0 QUOTA", 0);
        due(small, "premium 0 KEPT", 1);
        due(small, "part 0 SURPLUS", 0);
        due(small, "part 0 EXCESS", 1);
        due(small, "part 0 KEPT", 0);
        due(small, "part 1 SURPLUS", 1);
        due(small, "part 1 QUOTA", 0);
        due(small, "part 1 EXCESS", 1);
    }

    private static void promises17And18() {
        String full = "setShares 1000000 0 5000; setEvents 0 10000000 3 0; write 10000000 0;"
                + "lose 0 3 10000000;".repeat(40);
        due(full, "borne 0 QUOTA", 200000000);
        due(full, "borne 0 KEPT", 200000000);
        due(full, "borne 0 SURPLUS", 0);
        due(full, "byEvent 0 3", 10000000);
        due(full, "byEvent 0 0", 0);
        due(full, "net 0", 190000000);
        due(full + "closeYear", "commute 0", 210000000);
        due("setExcess 0 10000000; write 10000000 0;" + "lose 0 3 10000000;".repeat(40),
                "borne 0 EXCESS", 400000000);
        // By one loss the event stays at its priority; by another of another risk it is above.
        String together = "setEvents 10 5 0 0; write 20 0; write 20 0; lose 0 1 10;";
        due(together, "byEvent 0 1", 0);
        due(together + "lose 1 1 1", "byEvent 0 1", 1);
        due(together + "lose 1 1 5", "byEvent 0 1", 5);
        due(together + "lose 1 1 6", "byEvent 0 1", 5);
        due(together + "lose 1 2 10", "byEvent 0 1", 0);
    }

    /** A layer of 10 and one reinstatement: 20 are left for the events together. */
    private static void promise18Left() {
        String events = "setEvents 5 10 1 100; write 100 0; lose 0 3 100; lose 0 2 10;"
                + "lose 0 1 14; lose 0 0 15;";
        due(events, "byEvent 0 0", 10);
        due(events, "byEvent 0 1", 9);
        due(events, "byEvent 0 2", 1);
        due(events, "byEvent 0 3", 0);
        due(events + "change 2 15", "byEvent 0 2", 0);
        due(events + "change 2 13", "byEvent 0 2", 2);
        due(events + "change 3 0", "byEvent 0 2", 5);
        due(events + "change 3 0", "byEvent 0 3", 6);
        due(events + "change 2 0; change 1 0", "byEvent 0 3", 10);
        due(events + "closeYear; write 100 0; lose 1 0 100", "byEvent 1 0", 10);
    }

    private static void promise19() {
        int[][] rows = {
            // layer, reinstatements, premium, losses of the events 0 and 1, the premium due
            {3, 1, 1, 2, 0, 0}, {3, 1, 1, 3, 0, 1}, {3, 1, 2, 2, 0, 1}, {3, 1, 100, 2, 0, 66},
            {3, 1, 100, 3, 1, 100}, {3, 2, 100, 3, 1, 133}, {3, 0, 100, 3, 3, 0},
            {3, 1, 0, 3, 0, 0}, {0, 3, 1000000, 9, 9, 0}, {1, 3, 1000000, 9, 9, 2000000},
            {10000000, 3, 1000000, 9999999, 9999999, 1999999},
            {9999999, 3, 999999, 10000000, 1, 999999}, {10000000, 3, 1000000, 9, 0, 0},
            {10000000, 3, 1000000, 10, 0, 1}};
        for (int[] row : rows) {
            due("setEvents 0 " + row[0] + " " + row[1] + " " + row[2] + "; write 10000000 0;"
                    + "lose 0 0 1; change 0 " + row[3] + "; lose 0 1 1; change 1 " + row[4],
                    "reinstatement 0", row[5]);
        }
    }

    /** What is gross is what is net and what all treaties bear, to the cent. */
    private static void promise20() {
        String terms = "setShares 7 3 3333; setExcess 5 4; setEvents 9 8 1 99;";
        StringBuilder calls = new StringBuilder(terms);
        int gross = 0;
        for (int risk = 0; risk < 15; risk++) {
            calls.append("write ").append(1 + 5 * risk).append(" 101;");
        }
        for (int loss = 0; loss < 40; loss++) {
            int amount = 1 + loss * 13 % (1 + 5 * (loss % 15));
            gross += amount;
            calls.append("lose ").append(loss % 15).append(' ').append(loss % 4).append(' ')
                    .append(amount).append(';');
        }
        CededBook book = Calls.made(calls + "closeYear");
        int parts = 0;
        for (int loss = 0; loss < 40; loss++) {
            for (int who = 0; who < 4; who++) {
                parts += book.part(loss, who);
            }
        }
        Check.is("20 the parts are the whole", gross, parts);
        for (int risk = 0; risk < 15; risk++) {
            Check.is("15 the parts are the whole of " + risk, 101, book.premium(risk, 0)
                    + book.premium(risk, 1) + book.premium(risk, 3));
        }
        int taken = 0;
        for (int event = 0; event < 4; event++) {
            taken += book.byEvent(0, event);
        }
        Check.is("18 all that there is", 16, taken);
        Check.is("20 kept less the excess by event", book.borne(0, 3) - taken, book.net(0));
        Check.is("20 gross is net and ceded", gross, book.net(0) + book.commute(0));
    }

    private static void promise21Ratio() {
        // The ratio 3333.3 is 3333, and 6666.6 is 6666.
        String third = "setShares 1 0 10000; write 10 3; lose 0 0 1;";
        due(third + "setCommission 3333 3334 10000 0", "commission 0", 3);
        due(third + "setCommission 3332 3333 10000 0", "commission 0", 0);
        due(third + "change 0 2; setCommission 6666 6667 10000 0", "commission 0", 3);
        due(third + "setCommission 9999 10000 3333 0", "commission 0", 0);
        due(third + "setCommission 9999 10000 3334 0", "commission 0", 1);
        due(third + "setCommission 9999 10000 9999 0", "commission 0", 2);
        String marks = "setCommission 0 1 10000 5000;";
        due(marks, "commission 0", 0);
        due(marks + "setShares 1 0 10000; write 10 0; lose 0 0 10", "commission 0", 0);
        due(marks + "setShares 1 0 5000; write 10 1; lose 0 0 10", "commission 0", 0);
        due(marks + "setShares 1 0 5000; write 10 2; lose 0 0 10", "commission 0", 0);
        due(marks + "setShares 1 0 5000; write 10 4; lose 0 0 10", "commission 0", 1);
        due(marks + "setShares 1 0 5000; write 10 4; lose 0 0 1", "commission 0", 2);
        // All risks and losses of a year are one ratio: 3 of 20 is 1500.
        String two = "setShares 1 0 10000; write 10 15; write 10 5; lose 1 0 2; lose 0 3 1;";
        due(two + "setCommission 1500 1501 10000 0", "commission 0", 20);
        due(two + "setCommission 1499 1500 10000 0", "commission 0", 0);
    }

    private static void promise21Large() {
        // The ratio: 400000000 times 10000, divided by 15000000, is 266666, by 1 it is no int.
        String full = "setShares 1 0 10000; setCommission 20000 20001 10000 1;"
                + "write 10000000 1000000;".repeat(15);
        due(full, "commission 0", 15000000);
        due(full + "lose 14 0 10000000;".repeat(3), "commission 0", 15000000);
        due(full + "lose 14 0 10000000;".repeat(4), "commission 0", 1500);
        due(full + "lose 14 0 10000000;".repeat(40), "commission 0", 1500);
        due("setShares 1 0 10000; setCommission 20000 20001 10000 0; write 10000000 1;"
                + "lose 0 0 10000000;".repeat(40), "commission 0", 0);
        // 429497 times 10000 is 2704 beyond the range of an unsigned int.
        due("setShares 1 0 10000; setCommission 20000 20001 10000 0; write 10000000 1;"
                + "lose 0 0 429497", "commission 0", 0);
    }

    private static void promises22And23() {
        // The surplus bears the half of each.
        String half = "setShares 500 1 0; setProfit 0 10000; write 1000 200;";
        due(half, "share 0", 100);
        due(half, "carried 0", 0);
        due(half + "lose 0 0 198", "share 0", 1);
        due(half + "lose 0 0 198", "carried 0", 0);
        due(half + "lose 0 0 200", "share 0", 0);
        due(half + "lose 0 0 200", "carried 0", 0);
        due(half + "lose 0 0 202", "share 0", 0);
        due(half + "lose 0 0 202", "carried 0", 1);
        due(half + "setProfit 0 9999", "share 0", 99);
        due(half + "setProfit 99 10000", "share 0", 100);
        due(half + "setProfit 100 10000", "share 0", 99);
        due("", "share 0", 0);
        due("setProfit 10000 10000", "carried 0", 0);
        // A profit of one year does not stand against the loss of the next.
        String next = half + "closeYear; write 1000 0; lose 1 0 100;";
        due(next, "share 0", 100);
        due(next, "carried 1", 50);
    }

    /** A loss of the year 0 is worked off by 10 a year: after nine years it is gone. */
    private static void promises22And23Carried() {
        String years = "setShares 500 1 0; setProfit 0 10000;"
                + "write 1000 20; closeYear;".repeat(9) + "write 1000 20; lose 0 0 200;";
        for (int year = 0; year < 10; year++) {
            due(years, "carried " + year, 90 - 10 * year);
            due(years, "share " + year, 0);
        }
        due(years + "change 0 198", "carried 8", 9);
        due(years + "change 0 198", "share 9", 1);
        due(years + "change 0 198", "carried 9", 0);
        due(years + "change 0 202", "carried 9", 1);
        due(years + "change 0 202", "share 9", 0);
        due(years + "change 0 0", "share 0", 10);
        due(years + "change 0 0", "share 9", 10);
        due(years + "change 0 36", "carried 0", 8);
        due(years + "change 0 36", "share 1", 2);
        due(years + "change 0 36", "share 2", 10);
        due(years + "commute 0; commute 1; commute 8", "carried 9", 0);
        due(years + "commute 0; commute 1; commute 8", "carried 8", 10);
        // The margin of each year is of its own premiums.
        due(years + "setProfit 1000 10000", "carried 9", 10);
    }

    private static void promises22And23Large() {
        String full = "setShares 1000000 10 0; setProfit 0 10000;"
                + "write 10000000 1000000;".repeat(15);
        due(full, "share 0", 13500000);
        due(full + "setProfit 9999 10000", "share 0", 1350);
        due(full + "setProfit 1 9999", "share 0", 13497300);
        due(full + "lose 14 3 10000000;".repeat(40), "carried 0", 346500000);
        due(full + "lose 14 3 10000000;".repeat(40) + "setProfit 10000 10000", "carried 0",
                360000000);
        due(full + "lose 14 3 10000000;".repeat(40) + "closeYear;".repeat(9), "carried 9",
                346500000);
    }

    /**
     * Ten years of terms that differ, each with two losses of 200, of two events; the losses come
     * late and from the last year on, so that no loss has the number of its risk or year.
     */
    private static void eachYearByItself() {
        StringBuilder calls = new StringBuilder("setCommission 0 20000 10000 0;");
        for (int year = 0; year < 10; year++) {
            calls.append("setShares 1 0 " + 1000 * year + "; setExcess " + 10 * year + " "
                    + (5 + year) + "; setEvents " + year + " " + (2 + year) + " " + year % 4 + " "
                    + 100 * year + "; write 400 " + (400 + 40 * year) + ";"
                    + (year < 9 ? "closeYear;" : ""));
        }
        for (int year = 9; year >= 0; year--) {
            calls.append("lose " + year + " " + year % 4 + " 200;");
            calls.append("lose " + year + " " + (year + 1) % 4 + " 200;");
        }
        CededBook book = Calls.made(calls.toString());
        int[] excess = {5, 6, 7, 8, 9, 10, 11, 0, 0, 0};
        int[] reinstatement = {0, 100, 400, 600, 0, 500, 1200, 1400, 0, 900};
        int[] commission = {0, 24, 56, 96, 144, 200, 264, 336, 416, 504};
        for (int year = 0; year < 10; year++) {
            int kept = 2 * (200 - 20 * year - excess[year]);
            // Without a reinstatement the event 0 uses up the layer.
            int second = year % 4 == 0 ? 0 : 2 + year;
            Check.is("17 quota of " + year, 40 * year, book.borne(year, 1));
            Check.is("17 excess of " + year, 2 * excess[year], book.borne(year, 2));
            Check.is("17 kept of " + year, kept, book.borne(year, 3));
            Check.is("18 one event of " + year, 2 + year, book.byEvent(year, year % 4));
            Check.is("18 the other of " + year, second, book.byEvent(year, (year + 1) % 4));
            Check.is("18 no event of " + year, 0, book.byEvent(year, (year + 2) % 4));
            Check.is("19 year " + year, reinstatement[year], book.reinstatement(year));
            Check.is("20 year " + year, kept - 2 - year - second, book.net(year));
            Check.is("21 year " + year, commission[year], book.commission(year));
        }
    }

    // ---- how it is asked

    private static void due(String before, String call, int due) {
        Check.is(before + " " + call, "" + due, Calls.answer(Calls.made(before), call));
    }
}
