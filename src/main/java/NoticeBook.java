/**
 * A book of deposits by notice and by term: lots with interest by the day, tiers by the whole sum
 * or by bands, notices, early money, instructions at the end of terms, and lots that are joined.
 *
 * Money is in cents, interest in parts of a cent. The promises stand in ../shared/DOC.md.
 */
public final class NoticeBook {
    public static final int NONE = -1;
    public static final int PAY = 0, SPLIT = 1, ROLL = 2;

    private static final int CUSTOMERS = 4;
    private static final int MOST_LOTS = 40;
    private static final int MOST_RATE = 2000;
    private static final int MOST_DEPOSIT = 10000000;
    private static final int MOST_TERM_DAYS = 400;
    private static final int MOST_EARLY = 100000000;
    private static final int MOST_JOINED = 100000000;
    private static final int MOST_DAYS_AT_ONCE = 100;
    private static final int LAST_DAY = 3000;

    private static final long PARTS_OF_CENT = 3650000;
    private static final int FIRST_CENT_OF_MIDDLE_BAND = 100000;
    private static final int FIRST_CENT_OF_HIGH_BAND = 1000000;
    private static final int DAYS_OF_NOTICE = 32;
    private static final int DAYS_TO_TAKE = 7;
    private static final int DAYS_OF_GRACE = 7;
    private static final int DAYS_LOST_BY_EARLY = 30;

    private final int[] rates = {100, 200, 300};
    private final long[] paidCents = new long[CUSTOMERS];
    private final long[] lostParts = new long[CUSTOMERS];
    private final Lot[] book = new Lot[MOST_LOTS];
    private boolean tiersByBands = false;
    private int termRate = 250;
    private int lotsMade = 0;
    private int day = 0;

    /** A lot; it is gone when its principal is 0. */
    private static final class Lot {
        private final int customer;
        /** The length of its terms; 0 if it is by NOTICE. */
        private final int termDays;
        private int principal;
        private long earned = 0;
        /** By TERM as the term began; by NOTICE as last noted, so to be noted anew before use. */
        private long parts = 0;
        /** 0 without a notice. */
        private int frozenCents = 0;
        private int takeFrom = 0;
        private int end = NONE;
        private int instruction = PAY;
        /** The day on which a new term began by SPLIT or ROLL, if that gives days of grace. */
        private int renewedOn = NONE;

        private Lot(int customer, int principal, int termDays) {
            this.customer = customer;
            this.principal = principal;
            this.termDays = termDays;
        }

        private boolean isByTerm() {
            return termDays > 0;
        }

        private int unfrozen() {
            return principal - frozenCents;
        }

        /** Takes the whole cents out of what is earned; the parts that are left over stay. */
        private int drawWholeCents() {
            int cents = (int) (earned / PARTS_OF_CENT);
            earned = earned % PARTS_OF_CENT;
            return cents;
        }
    }

    public NoticeBook() {
    }

    // ---- rates

    public int setRate(int band, int rate) throws IndexOutOfBoundsException, IllegalArgumentException {
        if (band < 0 || band >= rates.length) {
            throw new IndexOutOfBoundsException("no such band");
        }
        demandRange(rate, 0, MOST_RATE);
        int before = rates[band];
        rates[band] = rate;
        return before;
    }

    public boolean setByBands(boolean byBands) {
        boolean before = tiersByBands;
        tiersByBands = byBands;
        return before;
    }

    public int setTermRate(int rate) throws IllegalArgumentException {
        demandRange(rate, 0, MOST_RATE);
        int before = termRate;
        termRate = rate;
        return before;
    }

    // ---- lots

    public int deposit(int customer, int cents)
            throws IndexOutOfBoundsException, IllegalArgumentException, IllegalStateException {
        demandCustomer(customer);
        demandRange(cents, 1, MOST_DEPOSIT);
        return enter(new Lot(customer, cents, 0));
    }

    public int depositTerm(int customer, int cents, int days, int instruction)
            throws IndexOutOfBoundsException, IllegalArgumentException, IllegalStateException {
        demandCustomer(customer);
        demandRange(cents, 1, MOST_DEPOSIT);
        demandRange(days, 1, MOST_TERM_DAYS);
        demandRange(instruction, PAY, ROLL);
        Lot lot = new Lot(customer, cents, days);
        lot.instruction = instruction;
        beginTerm(lot);
        return enter(lot);
    }

    public int give(int lot, int cents)
            throws IndexOutOfBoundsException, IllegalArgumentException, IllegalStateException {
        Lot given = demandLot(lot);
        demandRange(cents, 1, given.principal);
        if (given.isByTerm() || given.frozenCents > 0) {
            throw new IllegalStateException("not by NOTICE, or it has a notice");
        }
        given.frozenCents = cents;
        given.takeFrom = day + DAYS_OF_NOTICE;
        return given.takeFrom;
    }

    public int withdraw(int lot) throws IndexOutOfBoundsException, IllegalStateException {
        Lot noticed = demandNotice(lot);
        int cents = noticed.frozenCents;
        noticed.frozenCents = 0;
        return cents;
    }

    public int take(int lot) throws IndexOutOfBoundsException, IllegalStateException {
        Lot noticed = demandNotice(lot);
        if (day < noticed.takeFrom) {
            throw new IllegalStateException("it cannot be taken yet");
        }
        int cents = noticed.frozenCents;
        noticed.frozenCents = 0;
        return payOut(noticed, cents);
    }

    public int early(int customer, int cents)
            throws IndexOutOfBoundsException, IllegalArgumentException, IllegalStateException {
        demandCustomer(customer);
        demandRange(cents, 1, MOST_EARLY);
        if (unfrozenOf(customer) < cents) {
            throw new IllegalStateException("less than that is not frozen");
        }
        noteParts(customer);
        int missing = cents;
        int payment = 0;
        // A lot gives all it can, or enough: none is asked twice, and those that are still to be
        // asked have the principals that they had ahead of the call.
        for (int asked = 0; asked < lotsMade && missing > 0; asked++) {
            Lot lot = leastHarmful(customer);
            if (lot == null) {
                break;
            }
            int part = Math.min(missing, lot.unfrozen());
            lose(lot, lossByEarly(lot, part));
            payment += payOut(lot, part);
            missing -= part;
        }
        return payment;
    }

    public int instruct(int lot, int instruction)
            throws IndexOutOfBoundsException, IllegalArgumentException, IllegalStateException {
        Lot instructed = demandLot(lot);
        demandRange(instruction, PAY, ROLL);
        if (!instructed.isByTerm()) {
            throw new IllegalStateException("not by TERM");
        }
        int before = instructed.instruction;
        instructed.instruction = instruction;
        return before;
    }

    public int letGo(int lot) throws IndexOutOfBoundsException, IllegalStateException {
        Lot leaving = demandLot(lot);
        if (leaving.renewedOn == NONE || day - leaving.renewedOn >= DAYS_OF_GRACE) {
            throw new IllegalStateException("no days of grace");
        }
        lose(leaving, leaving.earned);
        return payOut(leaving, leaving.principal);
    }

    public int join(int one, int other)
            throws IndexOutOfBoundsException, IllegalArgumentException, IllegalStateException {
        Lot kept = demandLot(one);
        Lot merged = demandLot(other);
        if (one == other) {
            throw new IllegalArgumentException("both are the same lot");
        }
        if (!canJoin(kept, merged)) {
            throw new IllegalStateException("these lots cannot be joined");
        }
        kept.principal += merged.principal;
        kept.earned += merged.earned;
        kept.parts += merged.parts;
        kept.renewedOn = NONE;
        merged.principal = 0;
        return kept.principal;
    }

    public int pass(int days) throws IllegalArgumentException, IllegalStateException {
        demandRange(days, 1, MOST_DAYS_AT_ONCE);
        if (day + days > LAST_DAY) {
            throw new IllegalStateException("beyond the last day");
        }
        // The lots by NOTICE, and so their parts of a day, stay the same until the next call.
        for (int customer = 0; customer < CUSTOMERS; customer++) {
            noteParts(customer);
        }
        int ends = 0;
        for (int passed = 0; passed < days; passed++) {
            earnOneDay();
            day++;
            ends += beginDay();
        }
        return ends;
    }

    // ---- what is

    public int today() {
        return day;
    }

    public int lots() {
        int count = 0;
        for (int number = 0; number < lotsMade; number++) {
            if (lotAt(number) != null) {
                count++;
            }
        }
        return count;
    }

    public int principal(int lot) throws IndexOutOfBoundsException {
        return demandLot(lot).principal;
    }

    public long earned(int lot) throws IndexOutOfBoundsException {
        return demandLot(lot).earned;
    }

    public long partsOfDay(int lot) throws IndexOutOfBoundsException {
        Lot asked = demandLot(lot);
        noteParts(asked.customer);
        return asked.parts;
    }

    public int frozen(int lot) throws IndexOutOfBoundsException {
        return demandLot(lot).frozenCents;
    }

    public int endOf(int lot) throws IndexOutOfBoundsException {
        return demandLot(lot).end;
    }

    public int total(int customer) throws IndexOutOfBoundsException {
        demandCustomer(customer);
        return totalOf(customer);
    }

    public long partsByTotal(int customer) throws IndexOutOfBoundsException {
        demandCustomer(customer);
        int total = totalOf(customer);
        return partsOfCents(0, total, total);
    }

    public long paid(int customer) throws IndexOutOfBoundsException {
        demandCustomer(customer);
        return paidCents[customer];
    }

    public long lost(int customer) throws IndexOutOfBoundsException {
        demandCustomer(customer);
        return lostParts[customer];
    }

    // ---- what calls demand of their arguments

    private static void demandCustomer(int customer) {
        if (customer < 0 || customer >= CUSTOMERS) {
            throw new IndexOutOfBoundsException("no such customer");
        }
    }

    private static void demandRange(int value, int least, int most) {
        if (value < least || value > most) {
            throw new IllegalArgumentException("out of range");
        }
    }

    private Lot demandLot(int number) {
        Lot lot = lotAt(number);
        if (lot == null) {
            throw new IndexOutOfBoundsException("no such lot");
        }
        return lot;
    }

    private Lot demandNotice(int number) {
        Lot lot = demandLot(number);
        if (lot.frozenCents == 0) {
            throw new IllegalStateException("no notice");
        }
        return lot;
    }

    private static boolean canJoin(Lot kept, Lot merged) {
        return kept.isByTerm() && merged.isByTerm()
                && kept.customer == merged.customer
                && kept.end == merged.end
                && (long) kept.principal + merged.principal <= MOST_JOINED;
    }

    // ---- finding lots

    /** The lot of that number, or null if there is none, or none any more. */
    private Lot lotAt(int number) {
        if (number < 0 || number >= book.length) {
            return null;
        }
        Lot lot = book[number];
        return lot != null && lot.principal > 0 ? lot : null;
    }

    /** The lot of that number if it is by NOTICE and of that customer, or null. */
    private Lot noticeLotAt(int number, int customer) {
        Lot lot = lotAt(number);
        return lot != null && !lot.isByTerm() && lot.customer == customer ? lot : null;
    }

    private int totalOf(int customer) {
        int cents = 0;
        for (int number = 0; number < lotsMade; number++) {
            Lot lot = noticeLotAt(number, customer);
            if (lot != null) {
                cents += lot.principal;
            }
        }
        return cents;
    }

    private int unfrozenOf(int customer) {
        int cents = 0;
        for (int number = 0; number < lotsMade; number++) {
            Lot lot = noticeLotAt(number, customer);
            if (lot != null) {
                cents += lot.unfrozen();
            }
        }
        return cents;
    }

    /** Of the lots that can give early money, the one to ask first; their parts are noted. */
    private Lot leastHarmful(int customer) {
        Lot least = null;
        for (int number = 0; number < lotsMade; number++) {
            Lot lot = noticeLotAt(number, customer);
            if (lot != null && lot.unfrozen() > 0 && (least == null || harmsNoMore(lot, least))) {
                least = lot;
            }
        }
        return least;
    }

    /** Compares parts of a day by principal, multiplied crosswise to be exact. */
    private static boolean harmsNoMore(Lot lot, Lot than) {
        return lot.parts * than.principal <= than.parts * lot.principal;
    }

    // ---- parts of a day

    /** Notes the parts of a day of a customer's lots by NOTICE, as things are now. */
    private void noteParts(int customer) {
        int total = totalOf(customer);
        int from = 0;
        for (int number = 0; number < lotsMade; number++) {
            Lot lot = noticeLotAt(number, customer);
            if (lot != null) {
                int to = from + lot.principal;
                lot.parts = partsOfCents(from, to, total);
                from = to;
            }
        }
    }

    /** The parts of a day of a customer's cents with these numbers, the last one left out. */
    private long partsOfCents(int from, int to, int total) {
        if (tiersByBands) {
            return partsByBands(to) - partsByBands(from);
        }
        return (long) (to - from) * rateByWholeSum(total);
    }

    /** The parts of a day of the first cents of a customer, each by the rate of its band. */
    private long partsByBands(int cents) {
        int low = Math.min(cents, FIRST_CENT_OF_MIDDLE_BAND);
        int middle = Math.min(cents, FIRST_CENT_OF_HIGH_BAND) - low;
        int high = cents - low - middle;
        return (long) low * rates[0] + (long) middle * rates[1] + (long) high * rates[2];
    }

    private int rateByWholeSum(int total) {
        int lastCent = total - 1;
        if (lastCent < FIRST_CENT_OF_MIDDLE_BAND) {
            return rates[0];
        }
        return lastCent < FIRST_CENT_OF_HIGH_BAND ? rates[1] : rates[2];
    }

    // ---- paying and losing

    /** Pays cents of the principal, and the interest if the lot is gone then. */
    private int payOut(Lot lot, int cents) {
        lot.principal -= cents;
        notePaid(lot.customer, cents);
        if (lot.principal > 0) {
            return cents;
        }
        int interest = payInterest(lot);
        lose(lot, lot.earned);
        return cents + interest;
    }

    private int payInterest(Lot lot) {
        int interest = lot.drawWholeCents();
        notePaid(lot.customer, interest);
        return interest;
    }

    private void notePaid(int customer, int cents) {
        if (customer >= 0 && customer < paidCents.length) {
            paidCents[customer] += cents;
        }
    }

    private void lose(Lot lot, long parts) {
        lot.earned -= parts;
        int customer = lot.customer;
        if (customer >= 0 && customer < lostParts.length) {
            lostParts[customer] += parts;
        }
    }

    private static long lossByEarly(Lot lot, int taken) {
        if (lot.principal <= 0) {
            return 0;
        }
        // At most 30 * (2000 * 10000000) * 10000000, which a long holds.
        long loss = DAYS_LOST_BY_EARLY * lot.parts * taken / lot.principal;
        return Math.min(loss, lot.earned);
    }

    // ---- terms and days

    /** Gives a new lot its number. */
    private int enter(Lot lot) {
        int number = lotsMade;
        if (number < 0 || number >= book.length) {
            throw new IllegalStateException("there have been 40 lots");
        }
        book[number] = lot;
        lotsMade++;
        return number;
    }

    private void beginTerm(Lot lot) {
        lot.parts = (long) lot.principal * termRate;
        lot.end = day + lot.termDays;
    }

    private void earnOneDay() {
        for (int number = 0; number < lotsMade; number++) {
            Lot lot = lotAt(number);
            if (lot != null) {
                lot.earned += lot.parts;
            }
        }
    }

    /** Lets notices lapse and lots end; answers how many ended. */
    private int beginDay() {
        int ends = 0;
        for (int number = 0; number < lotsMade; number++) {
            Lot lot = lotAt(number);
            if (lot != null) {
                if (day >= lot.takeFrom + DAYS_TO_TAKE) {
                    lot.frozenCents = 0;
                }
                if (lot.end == day) {
                    endTerm(lot);
                    ends++;
                }
            }
        }
        return ends;
    }

    private void endTerm(Lot lot) {
        if (lot.instruction == PAY) {
            payOut(lot, lot.principal);
            return;
        }
        if (lot.instruction == SPLIT) {
            payInterest(lot);
        } else {
            lot.principal += lot.drawWholeCents();
        }
        beginTerm(lot);
        lot.renewedOn = day;
    }
}
