import java.util.ArrayList;
import java.util.List;

/**
 * Calls written as text, such as "lose 0 1 500" or "part 0 KEPT", and their answers as text: a
 * number, "nothing", or the name of the exception.
 */
final class Calls {
    static final String INDEX = "IndexOutOfBoundsException";
    static final String ARGUMENT = "IllegalArgumentException";
    static final String STATE = "IllegalStateException";

    private static final List<String> WHO = List.of("SURPLUS", "QUOTA", "EXCESS", "KEPT");
    private static final List<String> OF_A_YEAR = List.of("reinstatement", "net", "commission",
            "share", "carried");

    private Calls() {
    }

    /** A new object after some calls, divided by ";", none of which may be refused. */
    static CededBook made(String calls) {
        CededBook book = new CededBook();
        for (String told : answers(book, calls)) {
            if (told.endsWith("Exception")) {
                Check.is(calls, "no call refused", told);
            }
        }
        return book;
    }

    /** Each call, divided by ";", with its answer. */
    static List<String> answers(CededBook book, String calls) {
        List<String> told = new ArrayList<>();
        for (String call : calls.split(";")) {
            if (!call.isBlank()) {
                told.add(call.strip() + ": " + answer(book, call));
            }
        }
        return told;
    }

    /** Every question that the object can be asked, with its answer. */
    static List<String> all(CededBook book) {
        StringBuilder calls = new StringBuilder("year;risks;losses;");
        for (int risk = 0; risk < book.risks(); risk++) {
            each(calls, "premium " + risk, 0, 1, 3);
        }
        for (int loss = 0; loss < book.losses(); loss++) {
            each(calls, "part " + loss, 0, 1, 2, 3);
        }
        for (int year = 0; year <= book.year(); year++) {
            each(calls, "borne " + year, 0, 1, 2, 3);
            each(calls, "byEvent " + year, 0, 1, 2, 3);
            for (String name : OF_A_YEAR) {
                each(calls, name, year);
            }
        }
        return answers(book, calls.toString());
    }

    private static void each(StringBuilder calls, String begin, int... last) {
        for (int argument : last) {
            calls.append(begin).append(' ').append(argument).append(';');
        }
    }

    static String answer(CededBook book, String call) {
        String[] words = call.strip().split(" +");
        int[] a = new int[words.length - 1];
        for (int i = 0; i < a.length; i++) {
            int who = WHO.indexOf(words[i + 1]);
            a[i] = who >= 0 ? who : Integer.parseInt(words[i + 1]);
        }
        return answer(book, words[0], a);
    }

    static String answer(CededBook book, String name, int[] a) {
        try {
            switch (name) {
                case "setShares":
                    book.setShares(a[0], a[1], a[2]);
                    return "nothing";
                case "setExcess":
                    book.setExcess(a[0], a[1]);
                    return "nothing";
                case "setEvents":
                    book.setEvents(a[0], a[1], a[2], a[3]);
                    return "nothing";
                case "setCommission":
                    book.setCommission(a[0], a[1], a[2], a[3]);
                    return "nothing";
                case "setProfit":
                    book.setProfit(a[0], a[1]);
                    return "nothing";
                default:
                    return "" + number(book, name, a);
            }
        } catch (RuntimeException thrown) {
            // The very class: one below that which is due would be another exception.
            return thrown.getClass().getSimpleName();
        }
    }

    private static int number(CededBook book, String name, int[] a) {
        switch (name) {
            case "write": return book.write(a[0], a[1]);
            case "lose": return book.lose(a[0], a[1], a[2]);
            case "change": return book.change(a[0], a[1]);
            case "commute": return book.commute(a[0]);
            case "closeYear": return book.closeYear();
            case "year": return book.year();
            case "risks": return book.risks();
            case "losses": return book.losses();
            case "premium": return book.premium(a[0], a[1]);
            case "part": return book.part(a[0], a[1]);
            case "borne": return book.borne(a[0], a[1]);
            case "byEvent": return book.byEvent(a[0], a[1]);
            case "reinstatement": return book.reinstatement(a[0]);
            case "net": return book.net(a[0]);
            case "commission": return book.commission(a[0]);
            case "share": return book.share(a[0]);
            case "carried": return book.carried(a[0]);
            default: throw new AssertionError(name);
        }
    }
}
