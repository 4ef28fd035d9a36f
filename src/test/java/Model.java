import java.math.BigInteger;
import java.util.ArrayList;
import java.util.HashMap;
import java.util.List;
import java.util.Map;

/**
 * The document's terms said a second time, in another way: years, risks and losses as objects,
 * numbers without limits, and a year's answers worked out all at once.
 */
final class Model {
    private static final BigInteger WHOLE = BigInteger.valueOf(10000);

    private static final class Year implements Cloneable {
        int line = 1000000;
        int lines = 0;
        int quota = 0;
        int riskPriority = 10000000;
        int riskLayer = 0;
        int eventPriority = 10000000;
        int eventLayer = 0;
        int again = 0;
        int premium = 0;
        boolean commuted = false;
        List<Risk> risks = new ArrayList<>();

        Year next() {
            try {
                Year next = (Year) clone();
                next.commuted = false;
                next.risks = new ArrayList<>();
                return next;
            } catch (CloneNotSupportedException e) {
                throw new AssertionError(e);
            }
        }
    }

    private static final class Risk {
        final Year year;
        final int sum;
        final int premium;
        final List<Loss> losses = new ArrayList<>();

        Risk(Year year, int sum, int premium) {
            this.year = year;
            this.sum = sum;
            this.premium = premium;
        }
    }

    private static final class Loss {
        final Risk risk;
        final int event;
        int amount;

        Loss(Risk risk, int event, int amount) {
            this.risk = risk;
            this.event = event;
            this.amount = amount;
        }
    }

    private final List<Year> years = new ArrayList<>(List.of(new Year()));
    private final List<Risk> risks = new ArrayList<>();
    private final List<Loss> losses = new ArrayList<>();
    private int lower = 0;
    private int upper = 10000;
    private int greatest = 0;
    private int least = 0;
    private int margin = 0;
    private int rate = 0;

    /** The answer of a call, told as text: a number, "nothing", or the exception's name. */
    String call(String name, int... a) {
        switch (name) {
            case "setShares":
                return setTerms(a, new int[] {1, 0, 0}, new int[] {1000000, 10, 10000}, 0);
            case "setExcess":
                return setTerms(a, new int[] {0, 0}, new int[] {10000000, 10000000}, 1);
            case "setEvents":
                return setTerms(a, new int[4], new int[] {10000000, 10000000, 3, 1000000}, 2);
            case "setCommission":
                return setCommission(a[0], a[1], a[2], a[3]);
            case "setProfit":
                if (out(a[0], 0, 10000) || out(a[1], 0, 10000)) {
                    return "IllegalArgumentException";
                }
                margin = a[0];
                rate = a[1];
                return "nothing";
            case "write":
                return write(a[0], a[1]);
            case "lose":
                return lose(a[0], a[1], a[2]);
            case "change":
                return change(a[0], a[1]);
            case "commute":
                return commute(a[0]);
            case "closeYear":
                if (years.size() == 10) {
                    return "IllegalStateException";
                }
                years.add(now().next());
                return "" + (years.size() - 1);
            default:
                return asked(name, a);
        }
    }

    private String asked(String name, int[] a) {
        switch (name) {
            case "year":
                return "" + (years.size() - 1);
            case "risks":
                return "" + risks.size();
            case "losses":
                return "" + losses.size();
            case "premium":
                if (out(a[0], 0, risks.size() - 1)) {
                    return "IndexOutOfBoundsException";
                }
                if (a[1] != 0 && a[1] != 1 && a[1] != 3) {
                    return "IllegalArgumentException";
                }
                return "" + premiumOf(risks.get(a[0]), a[1]);
            case "part":
                if (out(a[0], 0, losses.size() - 1)) {
                    return "IndexOutOfBoundsException";
                }
                if (out(a[1], 0, 3)) {
                    return "IllegalArgumentException";
                }
                return "" + partOf(losses.get(a[0]), a[1]);
            default:
                if (out(a[0], 0, years.size() - 1)
                        || name.equals("byEvent") && out(a[1], 0, 3)) {
                    return "IndexOutOfBoundsException";
                }
                if (name.equals("borne") && out(a[1], 0, 3)) {
                    return "IllegalArgumentException";
                }
                return "" + ofYear(name, a);
        }
    }

    private BigInteger ofYear(String name, int[] a) {
        Year year = years.get(a[0]);
        switch (name) {
            case "borne":
                return borneBy(year, a[1]);
            case "byEvent":
                return events(year).get(a[1]);
            case "reinstatement":
                return reinstatementOf(year);
            case "net":
                return borneBy(year, 3).subtract(sum(events(year)));
            case "commission":
                return commissionOf(year);
            case "share":
                return profits().get(a[0]).max(BigInteger.ZERO).multiply(big(rate)).divide(WHOLE);
            case "carried":
                return profits().get(a[0]).min(BigInteger.ZERO).negate();
            default:
                throw new AssertionError(name);
        }
    }

    private String setTerms(int[] a, int[] from, int[] to, int which) {
        for (int i = 0; i < a.length; i++) {
            if (out(a[i], from[i], to[i])) {
                return "IllegalArgumentException";
            }
        }
        if (!now().risks.isEmpty()) {
            return "IllegalStateException";
        }
        if (which == 0) {
            now().line = a[0];
            now().lines = a[1];
            now().quota = a[2];
        } else if (which == 1) {
            now().riskPriority = a[0];
            now().riskLayer = a[1];
        } else {
            now().eventPriority = a[0];
            now().eventLayer = a[1];
            now().again = a[2];
            now().premium = a[3];
        }
        return "nothing";
    }

    private String setCommission(int newLower, int newUpper, int newGreatest, int newLeast) {
        if (out(newLower, 0, 20000) || out(newUpper, newLower + 1, 20001)
                || out(newGreatest, 0, 10000) || out(newLeast, 0, newGreatest)) {
            return "IllegalArgumentException";
        }
        lower = newLower;
        upper = newUpper;
        greatest = newGreatest;
        least = newLeast;
        return "nothing";
    }

    private String write(int sum, int premium) {
        if (out(sum, 1, 10000000) || out(premium, 0, 1000000)) {
            return "IllegalArgumentException";
        }
        if (risks.size() == 15) {
            return "IllegalStateException";
        }
        Risk risk = new Risk(now(), sum, premium);
        now().risks.add(risk);
        risks.add(risk);
        return "" + (risks.size() - 1);
    }

    private String lose(int number, int event, int amount) {
        if (out(number, 0, risks.size() - 1) || out(event, 0, 3)) {
            return "IndexOutOfBoundsException";
        }
        Risk risk = risks.get(number);
        if (out(amount, 1, risk.sum)) {
            return "IllegalArgumentException";
        }
        if (risk.year.commuted || losses.size() == 40) {
            return "IllegalStateException";
        }
        Loss loss = new Loss(risk, event, amount);
        risk.losses.add(loss);
        losses.add(loss);
        return "" + (losses.size() - 1);
    }

    private String change(int number, int amount) {
        if (out(number, 0, losses.size() - 1)) {
            return "IndexOutOfBoundsException";
        }
        Loss loss = losses.get(number);
        if (out(amount, 0, loss.risk.sum)) {
            return "IllegalArgumentException";
        }
        if (loss.risk.year.commuted) {
            return "IllegalStateException";
        }
        int before = loss.amount;
        loss.amount = amount;
        return "" + before;
    }

    private String commute(int number) {
        if (out(number, 0, years.size() - 2)) {
            return "IndexOutOfBoundsException";
        }
        Year year = years.get(number);
        if (year.commuted) {
            return "IllegalStateException";
        }
        year.commuted = true;
        // What is gross is what is net and what all treaties bear.
        long gross = 0;
        for (Risk risk : year.risks) {
            for (Loss loss : risk.losses) {
                gross += loss.amount;
            }
        }
        return "" + BigInteger.valueOf(gross).subtract(ofYear("net", new int[] {number}));
    }

    private Year now() {
        return years.get(years.size() - 1);
    }

    private static boolean out(int value, int from, int to) {
        return value < from || value > to;
    }

    private static BigInteger big(long value) {
        return BigInteger.valueOf(value);
    }

    private static BigInteger sum(List<BigInteger> parts) {
        return parts.stream().reduce(BigInteger.ZERO, BigInteger::add);
    }

    /** What surplus and quota bear of an amount, and what they leave. */
    private static Map<Integer, BigInteger> shares(Risk risk, int amount) {
        BigInteger above = big(Math.max(0, (long) risk.sum - risk.year.line));
        BigInteger ceded = above.min(big((long) risk.year.line * risk.year.lines));
        BigInteger surplus = ceded.multiply(big(amount)).divide(big(risk.sum));
        BigInteger left = big(amount).subtract(surplus);
        BigInteger quota = left.multiply(big(risk.year.quota)).divide(WHOLE);
        Map<Integer, BigInteger> shares = new HashMap<>();
        shares.put(0, surplus);
        shares.put(1, quota);
        shares.put(3, left.subtract(quota));
        return shares;
    }

    private static BigInteger premiumOf(Risk risk, int who) {
        return shares(risk, risk.premium).get(who);
    }

    private static BigInteger partOf(Loss loss, int who) {
        Map<Integer, BigInteger> parts = shares(loss.risk, loss.amount);
        Year year = loss.risk.year;
        BigInteger left = parts.get(3);
        BigInteger excess = big(0);
        if (left.compareTo(big(year.riskPriority)) > 0) {
            excess = left.subtract(big(year.riskPriority)).min(big(year.riskLayer));
        }
        parts.put(2, excess);
        parts.put(3, left.subtract(excess));
        return parts.get(who);
    }

    private static BigInteger borneBy(Year year, int who) {
        BigInteger total = BigInteger.ZERO;
        for (Risk risk : year.risks) {
            for (Loss loss : risk.losses) {
                total = total.add(partOf(loss, who));
            }
        }
        return total;
    }

    private static List<BigInteger> events(Year year) {
        BigInteger layer = big(year.eventLayer);
        BigInteger left = layer.multiply(big(1 + year.again));
        List<BigInteger> taken = new ArrayList<>();
        for (int event = 0; event < 4; event++) {
            BigInteger kept = BigInteger.ZERO;
            for (Risk risk : year.risks) {
                for (Loss loss : risk.losses) {
                    kept = kept.add(loss.event == event ? partOf(loss, 3) : BigInteger.ZERO);
                }
            }
            BigInteger above = kept.subtract(big(year.eventPriority)).max(BigInteger.ZERO);
            taken.add(above.min(layer).min(left));
            left = left.subtract(taken.get(event));
        }
        return taken;
    }

    private static BigInteger reinstatementOf(Year year) {
        if (year.eventLayer == 0) {
            return BigInteger.ZERO;
        }
        BigInteger layer = big(year.eventLayer);
        BigInteger most = layer.multiply(big(year.again));
        return big(year.premium).multiply(sum(events(year)).min(most)).divide(layer);
    }

    private static BigInteger premiums(Year year, int who) {
        BigInteger total = BigInteger.ZERO;
        for (Risk risk : year.risks) {
            total = total.add(premiumOf(risk, who));
        }
        return total;
    }

    private BigInteger commissionOf(Year year) {
        BigInteger premiums = premiums(year, 1);
        if (premiums.signum() == 0) {
            return BigInteger.ZERO;
        }
        BigInteger ratio = borneBy(year, 1).multiply(WHOLE).divide(premiums);
        BigInteger share;
        if (ratio.compareTo(big(lower)) <= 0) {
            share = big(greatest);
        } else if (ratio.compareTo(big(upper)) >= 0) {
            share = big(least);
        } else {
            BigInteger slide = ratio.subtract(big(lower)).multiply(big(greatest - least));
            share = big(greatest).subtract(slide.divide(big(upper - lower)));
        }
        return premiums.multiply(share).divide(WHOLE);
    }

    /** The profit of each year, below 0 what is carried out of it. */
    private List<BigInteger> profits() {
        List<BigInteger> profits = new ArrayList<>();
        BigInteger carriedIn = BigInteger.ZERO;
        for (Year year : years) {
            BigInteger premiums = premiums(year, 0);
            BigInteger profit = premiums.subtract(borneBy(year, 0))
                    .subtract(premiums.multiply(big(margin)).divide(WHOLE)).subtract(carriedIn);
            profits.add(profit);
            carriedIn = profit.min(BigInteger.ZERO).negate();
        }
        return profits;
    }
}
