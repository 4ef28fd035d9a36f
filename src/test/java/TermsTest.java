/** Promises 1 to 6: a new object and its terms. */
public final class TermsTest {
    public static void main(String[] args) {
        promise1();
        promise2Effect();
        promise3Effect();
        promise4Effect();
        promise5Effect();
        promise6Effect();
        termsGoOnIntoTheNextYear();
        Check.end();
    }

    private static void promise1() {
        CededBook book = new CededBook();
        Check.is("1 year", 0, book.year());
        Check.is("1 risks", 0, book.risks());
        Check.is("1 losses", 0, book.losses());
        Check.is("1 net", 0, book.net(0));
        Check.is("1 commission", 0, book.commission(0));
        Check.is("1 share", 0, book.share(0));
        Check.is("1 carried", 0, book.carried(0));
        Check.is("1 reinstatement", 0, book.reinstatement(0));
        Check.throwing("1 no year 1", Check.INDEX, () -> book.net(1));

        book.write(10000000, 1000000);
        book.lose(0, 0, 10000000);
        Check.is("1 no lines", 0, book.part(0, CededBook.SURPLUS));
        Check.is("1 no quota", 0, book.part(0, CededBook.QUOTA));
        Check.is("1 no excess", 0, book.part(0, CededBook.EXCESS));
        Check.is("1 all kept", 10000000, book.part(0, CededBook.KEPT));
        book.lose(0, 0, 10000000);
        Check.is("1 no excess by event", 0, book.byEvent(0, 0));
        Check.is("1 all net", 20000000, book.net(0));
        Check.is("1 no reinstatement", 0, book.reinstatement(0));
        Check.is("1 no commission", 0, book.commission(0));
        Check.is("1 no share", 0, book.share(0));
        Check.is("1 nothing carried", 0, book.carried(0));
        firstRates();
        twoObjectsAreApart();
    }

    /** The greatest premiums would show even the smallest rate that is not 0. */
    private static void firstRates() {
        CededBook book = new CededBook();
        book.setShares(1000000, 0, 10000);
        book.write(10000000, 1000000);
        Check.is("1 greatest rate 0", 0, book.commission(0));
        book.lose(0, 0, 10000000);
        Check.is("1 least rate 0", 0, book.commission(0));
        book.closeYear();
        book.setShares(1000000, 10, 0);
        book.write(10000000, 1000000);
        Check.is("1 rate of sharing 0", 0, book.share(1));
        book.lose(1, 0, 1000000);
        Check.is("1 margin 0", 0, book.carried(1));
    }

    private static void twoObjectsAreApart() {
        CededBook one = new CededBook();
        CededBook other = new CededBook();
        one.setShares(10, 1, 5000);
        one.write(20, 100);
        one.lose(0, 0, 5);
        one.closeYear();
        one.commute(0);
        Check.is("1 other risks", 0, other.risks());
        Check.is("1 other losses", 0, other.losses());
        Check.is("1 other year", 0, other.year());
        other.write(20, 100);
        Check.is("1 other terms", 100, other.premium(0, CededBook.KEPT));
    }

    private static void promise2Effect() {
        CededBook book = new CededBook();
        book.setShares(1, 1, 1);
        book.setShares(100, 4, 3000);
        book.write(1000, 900);
        Check.is("2 surplus", 360, book.premium(0, CededBook.SURPLUS));
        Check.is("2 quota", 162, book.premium(0, CededBook.QUOTA));
        Check.throwing("2 with risks", Check.STATE, () -> book.setShares(1, 1, 1));
        Check.is("2 unchanged", 360, book.premium(0, CededBook.SURPLUS));
        book.closeYear();
        book.setShares(500, 1, 0);
        book.write(1000, 900);
        Check.is("2 year before unchanged", 360, book.premium(0, CededBook.SURPLUS));
        Check.is("2 the next year", 450, book.premium(1, CededBook.SURPLUS));
        Check.is("2 the next year's quota", 0, book.premium(1, CededBook.QUOTA));
    }

    private static void promise3Effect() {
        CededBook book = new CededBook();
        book.setExcess(30, 40);
        book.write(100, 0);
        int[] amounts = {1, 29, 30, 31, 69, 70, 71, 100};
        int[] borne = {0, 0, 0, 1, 39, 40, 40, 40};
        for (int i = 0; i < amounts.length; i++) {
            book.lose(0, 0, amounts[i]);
            Check.is("3 excess of " + amounts[i], borne[i], book.part(i, CededBook.EXCESS));
            Check.is("3 kept of " + amounts[i], amounts[i] - borne[i],
                    book.part(i, CededBook.KEPT));
        }
        Check.throwing("3 with risks", Check.STATE, () -> book.setExcess(0, 0));
        Check.is("3 unchanged", 40, book.part(7, CededBook.EXCESS));
        book.closeYear();
        book.setExcess(0, 10000000);
        book.write(100, 0);
        book.lose(1, 0, 100);
        Check.is("3 the next year", 100, book.part(8, CededBook.EXCESS));
        Check.is("3 year before unchanged", 40, book.part(7, CededBook.EXCESS));
    }

    private static void promise4Effect() {
        CededBook book = new CededBook();
        book.setEvents(10, 50, 2, 1000);
        book.write(100, 0);
        book.lose(0, 1, 30);
        Check.is("4 borne", 20, book.byEvent(0, 1));
        Check.is("4 reinstatement", 400, book.reinstatement(0));
        Check.throwing("4 with risks", Check.STATE, () -> book.setEvents(0, 0, 0, 0));
        Check.is("4 unchanged", 20, book.byEvent(0, 1));
        book.closeYear();
        book.setEvents(0, 7, 1, 70);
        book.write(100, 0);
        book.lose(1, 1, 30);
        Check.is("4 the next year", 7, book.byEvent(1, 1));
        Check.is("4 the next year's reinstatement", 70, book.reinstatement(1));
        Check.is("4 year before unchanged", 20, book.byEvent(0, 1));
    }

    private static void promise5Effect() {
        CededBook book = new CededBook();
        book.setShares(1000000, 0, 10000);
        book.write(1000, 1000);
        book.setCommission(0, 1, 3000, 0);
        Check.is("5 with risks", 300, book.commission(0));
        book.closeYear();
        book.write(1000, 2000);
        book.commute(0);
        book.setCommission(0, 1, 4000, 0);
        Check.is("5 for a commuted year too", 400, book.commission(0));
        Check.is("5 for the year of now", 800, book.commission(1));
    }

    private static void promise6Effect() {
        CededBook book = new CededBook();
        book.setShares(500, 1, 0);
        book.write(1000, 2000);
        book.setProfit(1000, 5000);
        Check.is("6 with risks", 450, book.share(0));
        book.closeYear();
        book.write(1000, 4000);
        book.commute(0);
        book.setProfit(0, 10000);
        Check.is("6 for a commuted year too", 1000, book.share(0));
        Check.is("6 for the year of now", 2000, book.share(1));
    }

    private static void termsGoOnIntoTheNextYear() {
        CededBook book = new CededBook();
        book.setShares(100, 1, 5000);
        book.setExcess(20, 10);
        book.setEvents(5, 10, 3, 100);
        for (int year = 0; year < 10; year++) {
            int risk = book.write(200, 1000);
            int loss = book.lose(risk, 2, 100);
            Check.is("11 surplus of " + year, 50, book.part(loss, CededBook.SURPLUS));
            Check.is("11 quota of " + year, 25, book.part(loss, CededBook.QUOTA));
            Check.is("11 excess of " + year, 5, book.part(loss, CededBook.EXCESS));
            Check.is("11 by event of " + year, 10, book.byEvent(year, 2));
            Check.is("11 reinstatement of " + year, 100, book.reinstatement(year));
            if (year < 9) {
                book.closeYear();
            }
        }
    }
}
