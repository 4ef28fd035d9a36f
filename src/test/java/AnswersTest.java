/** Promises 15 to 23: what there is. */
public final class AnswersTest {
    private static final int SURPLUS = CededBook.SURPLUS;
    private static final int QUOTA = CededBook.QUOTA;
    private static final int EXCESS = CededBook.EXCESS;
    private static final int KEPT = CededBook.KEPT;

    public static void main(String[] args) {
        constants();
        promise15();
        promise15Surplus();
        promise16();
        promise17();
        promise18();
        promise18Capacity();
        promise19();
        promise20();
        promise21();
        promise21Marks();
        promise21Ranges();
        promise22And23();
        promise22Margin();
        greatestNumbers();
        Check.end();
    }

    private static void constants() {
        Check.is("SURPLUS", 0, SURPLUS);
        Check.is("QUOTA", 1, QUOTA);
        Check.is("EXCESS", 2, EXCESS);
        Check.is("KEPT", 3, KEPT);
    }

    private static void promise15() {
        CededBook book = new CededBook();
        book.setShares(50, 10, 3333);
        book.setExcess(0, 100);
        book.write(100, 101);
        Check.is("15 surplus, rounded down", 50, book.premium(0, SURPLUS));
        Check.is("15 quota of what is left, rounded down", 16, book.premium(0, QUOTA));
        Check.is("15 kept, the excess takes none", 35, book.premium(0, KEPT));
    }

    private static void promise15Surplus() {
        int[][] rows = {
            // line, lines, sum, the surplus's part of a premium of 1000
            {100, 4, 99, 0}, {100, 4, 100, 0}, {100, 4, 101, 9}, {100, 4, 500, 800},
            {100, 4, 501, 798}, {100, 0, 500, 0}, {100, 1, 1000, 100}, {1, 10, 11, 909},
            {1000000, 10, 10000000, 900}, {1, 1, 10000000, 0}};
        for (int[] row : rows) {
            CededBook book = new CededBook();
            book.setShares(row[0], row[1], 0);
            book.write(row[2], 1000);
            Check.is("15 surplus of " + row[2], row[3], book.premium(0, SURPLUS));
            Check.is("15 kept of " + row[2], 1000 - row[3], book.premium(0, KEPT));
        }
    }

    private static void promise16() {
        CededBook book = new CededBook();
        book.setShares(100, 4, 3000);
        book.setExcess(30, 40);
        book.write(1000, 900);
        book.lose(0, 0, 499);
        Check.is("16 surplus", 199, book.part(0, SURPLUS));
        Check.is("16 quota", 90, book.part(0, QUOTA));
        Check.is("16 excess", 40, book.part(0, EXCESS));
        Check.is("16 kept", 170, book.part(0, KEPT));
        book.change(0, 80);
        Check.is("16 surplus of a changed loss", 32, book.part(0, SURPLUS));
        Check.is("16 quota of a changed loss", 14, book.part(0, QUOTA));
        Check.is("16 excess of a changed loss", 4, book.part(0, EXCESS));
        Check.is("16 kept of a changed loss", 30, book.part(0, KEPT));
    }

    private static void promise17() {
        CededBook book = new CededBook();
        book.setShares(100, 4, 3000);
        book.setExcess(30, 40);
        book.setEvents(0, 1000, 3, 0);
        book.write(1000, 0);
        book.write(80, 0);
        book.lose(0, 0, 500);
        book.lose(1, 1, 80);
        book.closeYear();
        book.write(1000, 0);
        book.lose(2, 0, 10);
        book.lose(0, 3, 100);
        Check.is("17 surplus", 200 + 0 + 40, book.borne(0, SURPLUS));
        Check.is("17 quota", 90 + 24 + 18, book.borne(0, QUOTA));
        Check.is("17 excess by risk alone", 40 + 26 + 12, book.borne(0, EXCESS));
        Check.is("17 kept, before the excess by event", 170 + 30 + 30, book.borne(0, KEPT));
        Check.is("17 the year of the risk", 4, book.borne(1, SURPLUS));
    }

    private static void promise18() {
        CededBook book = new CededBook();
        book.setEvents(50, 60, 3, 0);
        book.write(1000, 0);
        int[] kept = {50, 51, 110, 111};
        int[] borne = {0, 1, 60, 60};
        for (int event = 0; event < 4; event++) {
            book.lose(0, event, kept[event] - 20);
            Check.is("18 below the priority or by one loss",
                    Math.max(kept[event] - 70, 0), book.byEvent(0, event));
            book.lose(0, event, 20);
            Check.is("18 both losses of an event", borne[event], book.byEvent(0, event));
        }
        book.closeYear();
        book.write(1000, 0);
        book.lose(1, 0, 70);
        Check.is("18 events of years are apart", 0, book.byEvent(0, 0));
        Check.is("18 the other year's", 20, book.byEvent(1, 0));
    }

    private static void promise18Capacity() {
        for (int again = 0; again < 4; again++) {
            CededBook book = new CededBook();
            book.setEvents(10, 100, again, 0);
            book.write(1000, 0);
            for (int event = 3; event >= 0; event--) {
                book.lose(0, event, 80);
                Check.is("18 70 is left for " + event, Math.min(70, 100 * (1 + again)),
                        book.byEvent(0, event));
            }
            int left = 100 * (1 + again);
            for (int event = 0; event < 4; event++) {
                Check.is("18 lower numbers first, " + event, Math.min(70, left),
                        book.byEvent(0, event));
                left -= Math.min(70, left);
            }
        }
        CededBook none = new CededBook();
        none.setEvents(0, 0, 3, 1000000);
        none.write(1000, 0);
        none.lose(0, 0, 1000);
        Check.is("18 no layer", 0, none.byEvent(0, 0));
        Check.is("19 no layer", 0, none.reinstatement(0));
    }

    private static void promise19() {
        int[][] rows = {
            // reinstatements, the loss of each of the four events, the premium that is due
            {0, 50, 0}, {1, 2, 0}, {1, 3, 38}, {1, 5, 114}, {1, 7, 190}, {1, 8, 200},
            {1, 1000, 200}, {2, 10, 304}, {2, 13, 400}, {3, 17, 571}, {3, 18, 600},
            {3, 1000, 600}};
        for (int[] row : rows) {
            CededBook book = new CededBook();
            book.setEvents(2, 21, row[0], 200);
            book.write(1000, 0);
            for (int event = 0; event < 4; event++) {
                book.lose(0, event, row[1]);
            }
            Check.is("19 again " + row[0] + ", losses of " + row[1], row[2],
                    book.reinstatement(0));
        }
        CededBook least = new CededBook();
        least.setEvents(0, 1, 3, 7);
        least.write(10, 0);
        least.lose(0, 0, 10);
        least.lose(0, 1, 10);
        Check.is("19 a layer of one cent", 14, least.reinstatement(0));
    }

    private static void promise20() {
        CededBook book = new CededBook();
        book.setShares(100, 4, 3000);
        book.setExcess(30, 40);
        book.setEvents(50, 60, 1, 500);
        book.write(1000, 900);
        book.lose(0, 0, 500);
        Check.is("20 net", 110, book.net(0));
        book.lose(0, 1, 500);
        book.lose(0, 2, 500);
        Check.is("20 net when the layers are used up", 3 * 170 - 120, book.net(0));
        book.closeYear();
        Check.is("20 an empty year", 0, book.net(1));
        book.write(10, 0);
        book.lose(1, 0, 10);
        Check.is("20 the next year", 7, book.net(1));
    }

    private static void promise21() {
        CededBook book = new CededBook();
        book.setCommission(5000, 7000, 3000, 1000);
        Check.is("21 no premiums", 0, book.commission(0));
        book.setShares(1000000, 0, 5000);
        book.write(1000, 1999);
        Check.is("21 no losses", 299, book.commission(0));
        book.lose(0, 0, 1000);
        Check.is("21 at the lower mark, by a rounding", 299, book.commission(0));
        book.lose(0, 0, 200);
        Check.is("21 between the marks", 199, book.commission(0));
        book.change(1, 400);
        Check.is("21 above the upper mark", 99, book.commission(0));
        book.closeYear();
        book.write(1000, 100);
        Check.is("21 a year by itself", 15, book.commission(1));
        Check.is("21 the other year stands", 99, book.commission(0));
    }

    private static void promise21Marks() {
        CededBook book = new CededBook();
        book.setShares(1000000, 0, 10000);
        book.write(1000000, 10000);
        book.lose(0, 0, 1);
        book.setCommission(100, 107, 1000, 500);
        int[] losses = {0, 99, 100, 101, 102, 103, 104, 105, 106, 107, 108, 1000000};
        int[] rates = {1000, 1000, 1000, 929, 858, 786, 715, 643, 572, 500, 500, 500};
        for (int i = 0; i < losses.length; i++) {
            book.change(0, losses[i]);
            Check.is("21 ratio " + losses[i], rates[i], book.commission(0));
        }
        book.setCommission(0, 1, 10000, 0);
        book.change(0, 0);
        Check.is("21 the whole", 10000, book.commission(0));
        book.change(0, 1);
        Check.is("21 nothing", 0, book.commission(0));
    }

    private static void promise21Ranges() {
        CededBook book = new CededBook();
        book.setShares(1000000, 0, 10000);
        book.write(10000000, 1);
        book.setCommission(20000, 20001, 10000, 0);
        Check.is("21 no loss", 1, book.commission(0));
        for (int loss = 0; loss < 40; loss++) {
            book.lose(0, 0, 10000000);
            Check.is("21 a ratio beyond an int", 0, book.commission(0));
        }
        CededBook free = new CededBook();
        free.setShares(1000000, 0, 10000);
        free.setCommission(0, 1, 10000, 10000);
        free.write(10, 0);
        free.lose(0, 0, 10);
        Check.is("21 losses without premiums", 0, free.commission(0));
    }

    private static void promise22And23() {
        CededBook book = new CededBook();
        book.setShares(500, 1, 0);
        book.setProfit(0, 3333);
        book.write(1000, 200);
        book.lose(0, 0, 600);
        Check.is("22 a loss shares nothing", 0, book.share(0));
        Check.is("23 a loss is carried", 200, book.carried(0));
        book.closeYear();
        Check.is("22 an empty year", 0, book.share(1));
        Check.is("23 carried on", 200, book.carried(1));
        book.write(1000, 300);
        Check.is("23 carried less", 50, book.carried(1));
        book.closeYear();
        book.write(1000, 100);
        Check.is("22 a profit of nothing", 0, book.share(2));
        Check.is("23 nothing carried", 0, book.carried(2));
        book.closeYear();
        book.write(1000, 202);
        Check.is("22 rounded down", 33, book.share(3));
        Check.is("23 a profit is not carried", 0, book.carried(3));
        book.closeYear();
        Check.is("22 nor is it shared again", 0, book.share(4));
        book.change(0, 0);
        Check.is("22 a late change in year 0", 33, book.share(0));
        Check.is("22 and in year 1", 49, book.share(1));
        Check.is("22 and in year 2", 16, book.share(2));
    }

    private static void promise22Margin() {
        CededBook book = new CededBook();
        book.setShares(500, 1, 0);
        book.setProfit(3333, 10000);
        book.write(1000, 202);
        Check.is("22 the margin is rounded down", 101 - 33, book.share(0));
        book.lose(0, 0, 140);
        Check.is("22 the margin with a loss", 0, book.share(0));
        Check.is("23 the margin with a loss", 2, book.carried(0));
        book.setProfit(10000, 10000);
        Check.is("23 the greatest margin", 70, book.carried(0));
        book.write(1000, 3);
        Check.is("23 the margin of all premiums", 70, book.carried(0));
        book.setProfit(0, 0);
        Check.is("22 no rate", 0, book.share(0));
        book.setProfit(0, 10000);
        book.change(0, 202);
        Check.is("22 a cent of profit", 1, book.share(0));
        book.change(0, 204);
        Check.is("22 neither profit", 0, book.share(0));
        Check.is("23 nor loss", 0, book.carried(0));
        book.change(0, 206);
        Check.is("23 a cent of loss", 1, book.carried(0));
        book.setProfit(0, 0);
        book.change(0, 140);
        Check.is("23 no rate", 0, book.carried(0));
    }

    private static void greatestNumbers() {
        CededBook book = new CededBook();
        book.setShares(1000000, 10, 0);
        book.setEvents(0, 10000000, 3, 1000000);
        book.setProfit(0, 10000);
        for (int risk = 0; risk < 15; risk++) {
            book.write(10000000, 1000000);
        }
        Check.is("22 the greatest premiums", 13500000, book.share(0));
        for (int loss = 0; loss < 40; loss++) {
            book.lose(loss % 15, loss % 4, 10000000);
        }
        Check.is("17 the greatest surplus", 360000000, book.borne(0, SURPLUS));
        Check.is("17 the greatest kept", 40000000, book.borne(0, KEPT));
        Check.is("18 the greatest event", 10000000, book.byEvent(0, 3));
        Check.is("19 the greatest reinstatement", 3000000, book.reinstatement(0));
        Check.is("20 net of all", 0, book.net(0));
        Check.is("23 the greatest carried", 346500000, book.carried(0));
        book.closeYear();
        Check.is("10 the greatest of all treaties", 400000000, book.commute(0));
    }
}
