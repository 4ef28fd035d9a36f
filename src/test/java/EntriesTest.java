/** Promises 7 to 14: risks, losses and years are entered and counted. */
public final class EntriesTest {
    public static void main(String[] args) {
        promise7Numbers();
        promise8Numbers();
        promise8Order();
        promise9Effect();
        promise10Answer();
        promise10Freezes();
        promise11And12();
        promise13And14();
        Check.end();
    }

    private static void promise7Numbers() {
        CededBook book = new CededBook();
        for (int risk = 0; risk < 15; risk++) {
            Check.is("7 number", risk, book.write(10 + risk, 100 + risk));
            Check.is("7 its premium", 100 + risk, book.premium(risk, CededBook.KEPT));
            if (risk == 7) {
                book.closeYear();
            }
        }
        Check.throwing("7 a sixteenth", Check.STATE, () -> book.write(1, 1));
        Check.throwing("7 the argument first", Check.ARGUMENT, () -> book.write(0, 1));
        book.closeYear();
        Check.throwing("7 a sixteenth in another year", Check.STATE, () -> book.write(1, 1));
        Check.is("7 fifteen stand", 15, book.risks());
    }

    private static void promise8Numbers() {
        CededBook book = new CededBook();
        book.write(100, 0);
        for (int loss = 0; loss < 40; loss++) {
            Check.is("8 number", loss, book.lose(0, loss % 4, loss + 1));
            Check.is("8 its amount", loss + 1, book.part(loss, CededBook.KEPT));
        }
        Check.throwing("8 a forty-first", Check.STATE, () -> book.lose(0, 0, 1));
        Check.is("8 forty stand", 40, book.losses());
        Check.is("8 their sum", 820, book.borne(0, CededBook.KEPT));
        Check.is("8 the last can be changed", 40, book.change(39, 50));
    }

    private static void promise8Order() {
        CededBook book = new CededBook();
        book.write(10, 0);
        book.closeYear();
        book.commute(0);
        Check.throwing("8 commuted", Check.STATE, () -> book.lose(0, 0, 1));
        Check.throwing("8 amount before commuted", Check.ARGUMENT, () -> book.lose(0, 0, 11));
        Check.throwing("8 event before amount", Check.INDEX, () -> book.lose(0, 4, 11));
        Check.is("8 nothing entered when commuted", 0, book.losses());
        book.write(20, 0);
        Check.is("8 in the year of now", 0, book.lose(1, 0, 20));
        Check.is("8 of the year of its risk", 20, book.borne(1, CededBook.KEPT));
    }

    private static void promise9Effect() {
        CededBook book = new CededBook();
        book.write(10, 0);
        book.write(20, 0);
        book.lose(0, 0, 5);
        book.lose(1, 0, 7);
        Check.is("9 before", 5, book.change(0, 0));
        Check.is("9 nothing left", 0, book.part(0, CededBook.KEPT));
        Check.is("9 still there", 2, book.losses());
        Check.is("9 from 0", 0, book.change(0, 10));
        Check.is("9 up to the sum", 10, book.part(0, CededBook.KEPT));
        Check.is("9 the other stands", 7, book.change(1, 20));
        Check.is("9 a year that is over", 1, book.closeYear());
        Check.is("9 can be changed", 20, book.change(1, 3));
        Check.is("9 till commuted", 0, book.commute(0));
        Check.throwing("9 commuted", Check.STATE, () -> book.change(1, 4));
        Check.throwing("9 amount before commuted", Check.ARGUMENT, () -> book.change(1, 21));
        Check.is("9 stays", 3, book.part(1, CededBook.KEPT));
    }

    private static void promise10Answer() {
        CededBook book = new CededBook();
        book.setShares(100, 4, 3000);
        book.setExcess(30, 40);
        book.setEvents(50, 60, 1, 500);
        book.write(1000, 900);
        book.lose(0, 0, 500);
        book.closeYear();
        book.write(1000, 900);
        book.lose(1, 0, 500);
        Check.is("10 surplus, quota and both excesses", 200 + 90 + 40 + 60, book.commute(0));
        Check.is("10 what is net stays", 110, book.net(0));
    }

    private static void promise10Freezes() {
        CededBook book = new CededBook();
        book.write(100, 0);
        book.lose(0, 0, 10);
        book.closeYear();
        book.write(100, 0);
        book.lose(1, 0, 20);
        book.closeYear();
        book.commute(0);
        Check.throwing("10 no change", Check.STATE, () -> book.change(0, 11));
        Check.throwing("10 no loss", Check.STATE, () -> book.lose(0, 0, 11));
        Check.is("10 the next year is open", 20, book.change(1, 21));
        Check.is("10 and takes losses", 2, book.lose(1, 0, 5));
        Check.is("10 the frozen year", 10, book.borne(0, CededBook.KEPT));
        Check.is("10 the open year", 26, book.borne(1, CededBook.KEPT));
    }

    private static void promise11And12() {
        CededBook book = new CededBook();
        for (int year = 1; year < 10; year++) {
            Check.is("11 closeYear", year, book.closeYear());
            Check.is("12 year", year, book.year());
        }
        Check.throwing("11 after 9", Check.STATE, book::closeYear);
        Check.is("12 still 9", 9, book.year());
        Check.is("11 the last year works", 0, book.write(10, 10));
        Check.is("11 its losses", 0, book.lose(0, 3, 10));
        Check.is("11 its net", 10, book.net(9));
        for (int year = 0; year < 9; year++) {
            Check.is("10 every year before", 0, book.commute(year));
        }
        Check.throwing("10 not the last", Check.INDEX, () -> book.commute(9));
    }

    private static void promise13And14() {
        CededBook book = new CededBook();
        book.write(10, 0);
        book.write(10, 0);
        Check.is("13 risks", 2, book.risks());
        book.lose(1, 0, 1);
        Check.is("14 losses", 1, book.losses());
        book.closeYear();
        Check.is("13 of all years", 2, book.risks());
        Check.is("14 of all years", 1, book.losses());
        book.write(10, 0);
        book.lose(0, 0, 1);
        Check.is("13 three", 3, book.risks());
        Check.is("14 two", 2, book.losses());
        book.change(0, 0);
        book.commute(0);
        Check.is("14 a loss of 0 counts", 2, book.losses());
    }
}
