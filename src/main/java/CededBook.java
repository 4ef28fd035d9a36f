import java.util.Arrays;

/**
 * A book of risks that are ceded: a surplus by lines, a quota of what is kept, excesses by risk and
 * by event with reinstatements, a commission that slides with the losses, a share of profits in
 * which losses are carried, and years that are commuted.
 *
 * <p>Only what was entered is held; every part, sum and share is worked out anew when it is asked
 * for, so that a loss that is changed late needs no mending elsewhere.
 */
public final class CededBook {
    public static final int SURPLUS = 0, QUOTA = 1, EXCESS = 2, KEPT = 3;

    private static final int YEARS = 10;
    private static final int EVENTS = 4;
    private static final int MOST_RISKS = 15;
    private static final int MOST_LOSSES = 40;

    private static final int WHOLE = 10000;
    private static final int MOST_LINE = 1000000;
    private static final int MOST_LINES = 10;
    private static final int MOST_SUM = 10000000;
    private static final int MOST_PREMIUM = 1000000;
    private static final int MOST_AGAIN = 3;
    private static final int MOST_LOWER = 20000;
    private static final int MOST_UPPER = 20001;

    // The terms of a year lie side by side; these are their places.
    private static final int LINE = 0;
    private static final int LINES = 1;
    private static final int QUOTA_RATE = 2;
    private static final int RISK_PRIORITY = 3;
    private static final int RISK_LAYER = 4;
    private static final int EVENT_PRIORITY = 5;
    private static final int EVENT_LAYER = 6;
    private static final int AGAIN = 7;
    private static final int EVENT_PREMIUM = 8;
    private static final int TERMS = 9;
    private static final int[] FIRST_TERMS = {1000000, 0, 0, 10000000, 0, 10000000, 0, 0, 0};

    private final int[] terms = Arrays.copyOf(FIRST_TERMS, YEARS * TERMS);

    private final int[] riskYear = new int[MOST_RISKS];
    private final int[] riskSum = new int[MOST_RISKS];
    private final int[] riskPremium = new int[MOST_RISKS];
    private int riskCount = 0;

    private final int[] lossRisk = new int[MOST_LOSSES];
    private final int[] lossEvent = new int[MOST_LOSSES];
    private final int[] lossAmount = new int[MOST_LOSSES];
    private int lossCount = 0;

    private int now = 0;
    // A bit for each year.
    private int commutedYears = 0;

    private int lowerMark = 0;
    private int upperMark = 10000;
    private int greatestRate = 0;
    private int leastRate = 0;
    private int profitMargin = 0;
    private int sharingRate = 0;

    public CededBook() {
    }

    // ---- terms

    public void setShares(int line, int lines, int quota)
            throws IllegalArgumentException, IllegalStateException {
        if (!within(line, 1, MOST_LINE) || !within(lines, 0, MOST_LINES)
                || !within(quota, 0, WHOLE)) {
            throw new IllegalArgumentException("line, lines or quota out of range");
        }
        if (hasRisks(now)) {
            throw new IllegalStateException("the year has risks");
        }
        setTerm(now, LINE, line);
        setTerm(now, LINES, lines);
        setTerm(now, QUOTA_RATE, quota);
    }

    public void setExcess(int priority, int layer)
            throws IllegalArgumentException, IllegalStateException {
        if (!within(priority, 0, MOST_SUM) || !within(layer, 0, MOST_SUM)) {
            throw new IllegalArgumentException("priority or layer out of range");
        }
        if (hasRisks(now)) {
            throw new IllegalStateException("the year has risks");
        }
        setTerm(now, RISK_PRIORITY, priority);
        setTerm(now, RISK_LAYER, layer);
    }

    public void setEvents(int priority, int layer, int again, int premium)
            throws IllegalArgumentException, IllegalStateException {
        if (!within(priority, 0, MOST_SUM) || !within(layer, 0, MOST_SUM)
                || !within(again, 0, MOST_AGAIN) || !within(premium, 0, MOST_PREMIUM)) {
            throw new IllegalArgumentException("priority, layer, again or premium out of range");
        }
        if (hasRisks(now)) {
            throw new IllegalStateException("the year has risks");
        }
        setTerm(now, EVENT_PRIORITY, priority);
        setTerm(now, EVENT_LAYER, layer);
        setTerm(now, AGAIN, again);
        setTerm(now, EVENT_PREMIUM, premium);
    }

    public void setCommission(int lower, int upper, int greatest, int least)
            throws IllegalArgumentException {
        if (!within(lower, 0, MOST_LOWER) || upper <= lower || upper > MOST_UPPER
                || !within(greatest, 0, WHOLE) || !within(least, 0, greatest)) {
            throw new IllegalArgumentException("a mark or a rate out of range");
        }
        lowerMark = lower;
        upperMark = upper;
        greatestRate = greatest;
        leastRate = least;
    }

    public void setProfit(int margin, int rate) throws IllegalArgumentException {
        if (!within(margin, 0, WHOLE) || !within(rate, 0, WHOLE)) {
            throw new IllegalArgumentException("margin or rate out of range");
        }
        profitMargin = margin;
        sharingRate = rate;
    }

    // ---- risks, losses, years

    public int write(int sum, int premium) throws IllegalArgumentException, IllegalStateException {
        if (!within(sum, 1, MOST_SUM) || !within(premium, 0, MOST_PREMIUM)) {
            throw new IllegalArgumentException("sum or premium out of range");
        }
        if (riskCount >= MOST_RISKS) {
            throw new IllegalStateException("there are 15 risks");
        }
        int risk = riskCount;
        put(riskYear, risk, now);
        put(riskSum, risk, sum);
        put(riskPremium, risk, premium);
        riskCount = risk + 1;
        return risk;
    }

    public int lose(int risk, int event, int amount)
            throws IndexOutOfBoundsException, IllegalArgumentException, IllegalStateException {
        if (!isRisk(risk) || !isEvent(event)) {
            throw new IndexOutOfBoundsException("no such risk or event");
        }
        if (!within(amount, 1, at(riskSum, risk))) {
            throw new IllegalArgumentException("amount out of range");
        }
        if (isCommuted(at(riskYear, risk)) || lossCount >= MOST_LOSSES) {
            throw new IllegalStateException("the year is commuted, or there are 40 losses");
        }
        int loss = lossCount;
        put(lossRisk, loss, risk);
        put(lossEvent, loss, event);
        put(lossAmount, loss, amount);
        lossCount = loss + 1;
        return loss;
    }

    public int change(int loss, int amount)
            throws IndexOutOfBoundsException, IllegalArgumentException, IllegalStateException {
        if (!isLoss(loss)) {
            throw new IndexOutOfBoundsException("no such loss");
        }
        int risk = at(lossRisk, loss);
        if (!within(amount, 0, at(riskSum, risk))) {
            throw new IllegalArgumentException("amount out of range");
        }
        if (isCommuted(at(riskYear, risk))) {
            throw new IllegalStateException("the year is commuted");
        }
        int before = at(lossAmount, loss);
        put(lossAmount, loss, amount);
        return before;
    }

    public int commute(int year) throws IndexOutOfBoundsException, IllegalStateException {
        if (!within(year, 0, now - 1)) {
            throw new IndexOutOfBoundsException("no such year before that of now");
        }
        if (isCommuted(year)) {
            throw new IllegalStateException("the year is commuted");
        }
        commutedYears |= 1 << year;
        return lossesOf(year, SURPLUS) + lossesOf(year, QUOTA) + lossesOf(year, EXCESS)
                + takenByEvents(year, EVENTS);
    }

    public int closeYear() throws IllegalStateException {
        if (now >= YEARS - 1) {
            throw new IllegalStateException("the year is the last one");
        }
        for (int which = 0; which < TERMS; which++) {
            setTerm(now + 1, which, term(now, which));
        }
        now++;
        return now;
    }

    // ---- what there is

    public int year() {
        return now;
    }

    public int risks() {
        return riskCount;
    }

    public int losses() {
        return lossCount;
    }

    public int premium(int risk, int who)
            throws IndexOutOfBoundsException, IllegalArgumentException {
        if (!isRisk(risk)) {
            throw new IndexOutOfBoundsException("no such risk");
        }
        if (who != SURPLUS && who != QUOTA && who != KEPT) {
            throw new IllegalArgumentException("who is none of SURPLUS, QUOTA and KEPT");
        }
        return premiumPart(risk, who);
    }

    public int part(int loss, int who) throws IndexOutOfBoundsException, IllegalArgumentException {
        if (!isLoss(loss)) {
            throw new IndexOutOfBoundsException("no such loss");
        }
        if (!isBearer(who)) {
            throw new IllegalArgumentException("who is none of the four");
        }
        return lossPart(loss, who);
    }

    public int borne(int year, int who) throws IndexOutOfBoundsException, IllegalArgumentException {
        if (!isYear(year)) {
            throw new IndexOutOfBoundsException("no such year");
        }
        if (!isBearer(who)) {
            throw new IllegalArgumentException("who is none of the four");
        }
        return lossesOf(year, who);
    }

    public int byEvent(int year, int event) throws IndexOutOfBoundsException {
        if (!isYear(year) || !isEvent(event)) {
            throw new IndexOutOfBoundsException("no such year or event");
        }
        return takenByEvents(year, event + 1) - takenByEvents(year, event);
    }

    public int reinstatement(int year) throws IndexOutOfBoundsException {
        if (!isYear(year)) {
            throw new IndexOutOfBoundsException("no such year");
        }
        int layer = term(year, EVENT_LAYER);
        if (layer <= 0) {
            return 0;
        }
        long reinstated = Math.min(takenByEvents(year, EVENTS), layer * term(year, AGAIN));
        return (int) (term(year, EVENT_PREMIUM) * reinstated / layer);
    }

    public int net(int year) throws IndexOutOfBoundsException {
        if (!isYear(year)) {
            throw new IndexOutOfBoundsException("no such year");
        }
        return lossesOf(year, KEPT) - takenByEvents(year, EVENTS);
    }

    public int commission(int year) throws IndexOutOfBoundsException {
        if (!isYear(year)) {
            throw new IndexOutOfBoundsException("no such year");
        }
        long premiums = premiumsOf(year, QUOTA);
        return hundredths(premiums, commissionRate(lossRatio(lossesOf(year, QUOTA), premiums)));
    }

    public int share(int year) throws IndexOutOfBoundsException {
        if (!isYear(year)) {
            throw new IndexOutOfBoundsException("no such year");
        }
        long result = surplusResult(year);
        return result > 0 ? hundredths(result, sharingRate) : 0;
    }

    public int carried(int year) throws IndexOutOfBoundsException {
        if (!isYear(year)) {
            throw new IndexOutOfBoundsException("no such year");
        }
        long result = surplusResult(year);
        return result < 0 ? (int) -result : 0;
    }

    // ---- what is and what is not

    private static boolean within(int value, int least, int most) {
        return value >= least && value <= most;
    }

    private static boolean isEvent(int event) {
        return within(event, 0, EVENTS - 1);
    }

    private static boolean isBearer(int who) {
        return within(who, SURPLUS, KEPT);
    }

    private boolean isYear(int year) {
        return within(year, 0, now);
    }

    private boolean isRisk(int risk) {
        return within(risk, 0, riskCount - 1);
    }

    private boolean isLoss(int loss) {
        return within(loss, 0, lossCount - 1);
    }

    private boolean isCommuted(int year) {
        return (commutedYears >> year & 1) != 0;
    }

    private boolean hasRisks(int year) {
        for (int risk = 0; risk < riskCount; risk++) {
            if (at(riskYear, risk) == year) {
                return true;
            }
        }
        return false;
    }

    // ---- the parts of one amount

    private int surplusPart(int risk, int amount) {
        int year = at(riskYear, risk);
        int sum = at(riskSum, risk);
        if (sum <= 0) {
            return 0;
        }
        int line = term(year, LINE);
        long ceded = slice(sum, line, line * term(year, LINES));
        return (int) (ceded * amount / sum);
    }

    private int quotaPart(int risk, int left) {
        return hundredths(left, term(at(riskYear, risk), QUOTA_RATE));
    }

    private int premiumPart(int risk, int who) {
        int amount = at(riskPremium, risk);
        int surplus = surplusPart(risk, amount);
        int quota = quotaPart(risk, amount - surplus);
        switch (who) {
            case SURPLUS:
                return surplus;
            case QUOTA:
                return quota;
            default:
                return amount - surplus - quota;
        }
    }

    private int lossPart(int loss, int who) {
        int risk = at(lossRisk, loss);
        int year = at(riskYear, risk);
        int amount = at(lossAmount, loss);
        int surplus = surplusPart(risk, amount);
        int quota = quotaPart(risk, amount - surplus);
        int left = amount - surplus - quota;
        int excess = slice(left, term(year, RISK_PRIORITY), term(year, RISK_LAYER));
        switch (who) {
            case SURPLUS:
                return surplus;
            case QUOTA:
                return quota;
            case EXCESS:
                return excess;
            default:
                return left - excess;
        }
    }

    // ---- the sums of a year

    private int premiumsOf(int year, int who) {
        int total = 0;
        for (int risk = 0; risk < riskCount; risk++) {
            if (at(riskYear, risk) == year) {
                total += premiumPart(risk, who);
            }
        }
        return total;
    }

    private int lossesOf(int year, int who) {
        int total = 0;
        for (int loss = 0; loss < lossCount; loss++) {
            if (yearOfLoss(loss) == year) {
                total += lossPart(loss, who);
            }
        }
        return total;
    }

    private int keptOfEvent(int year, int event) {
        int total = 0;
        for (int loss = 0; loss < lossCount; loss++) {
            if (yearOfLoss(loss) == year && at(lossEvent, loss) == event) {
                total += lossPart(loss, KEPT);
            }
        }
        return total;
    }

    private int yearOfLoss(int loss) {
        return at(riskYear, at(lossRisk, loss));
    }

    /** What the excess by event bears of the first events of a year, together. */
    private int takenByEvents(int year, int first) {
        int priority = term(year, EVENT_PRIORITY);
        int layer = term(year, EVENT_LAYER);
        int most = layer * (1 + term(year, AGAIN));
        int taken = 0;
        for (int event = 0; event < first && event < EVENTS; event++) {
            int wanted = slice(keptOfEvent(year, event), priority, layer);
            taken += Math.min(wanted, most - taken);
        }
        return taken;
    }

    // A long, because forty losses of the greatest sum upon a premium of one cent are a ratio far
    // beyond an int.
    private static long lossRatio(long losses, long premiums) {
        return premiums > 0 ? losses * WHOLE / premiums : 0;
    }

    private int commissionRate(long ratio) {
        if (ratio <= lowerMark) {
            return greatestRate;
        }
        int width = upperMark - lowerMark;
        if (ratio >= upperMark || width <= 0) {
            return leastRate;
        }
        long slide = (ratio - lowerMark) * (greatestRate - leastRate) / width;
        return (int) (greatestRate - slide);
    }

    /** The profit of the surplus for a year; what is below 0 of it is carried to the next. */
    private long surplusResult(int year) {
        long result = 0;
        for (int each = 0; each <= year && each < YEARS; each++) {
            long carriedIn = Math.min(result, 0);
            int premiums = premiumsOf(each, SURPLUS);
            result = premiums - lossesOf(each, SURPLUS) - hundredths(premiums, profitMargin)
                    + carriedIn;
        }
        return result;
    }

    // ---- numbers

    private static int hundredths(long amount, int rate) {
        return (int) (amount * rate / WHOLE);
    }

    /** What of an amount is above a priority, but at most a layer. */
    private static int slice(int amount, int priority, int layer) {
        return Math.min(Math.max(amount - priority, 0), layer);
    }

    private int term(int year, int which) {
        return at(terms, year * TERMS + which);
    }

    private void setTerm(int year, int which, int value) {
        put(terms, year * TERMS + which, value);
    }

    // Every index goes through these two, so that none can make the machine throw.

    private static int at(int[] row, int index) {
        return row != null && index >= 0 && index < row.length ? row[index] : 0;
    }

    private static void put(int[] row, int index, int value) {
        if (row != null && index >= 0 && index < row.length) {
            row[index] = value;
        }
    }
}
