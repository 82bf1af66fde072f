/** Promises 1 to 4, 19, 22 and 23: a new object, rates, tiers, and what they make of totals. */
public final class RatesTest {
    private static final Check CHECK = new Check("RatesTest");

    public static void main(String[] args) {
        newBook();
        booksApart();
        rates();
        ratesRefused();
        fromTodayOn();
        wholeSumEdges();
        byBandsEdges();
        bandsGoByNumbersOfLots();
        whatDoesNotCount();
        termRate();
        termRateRefused();
        largestTotal();
        lotsThatEndOnABound();
        rateBounds();
        backBelowABound();
        lotsTogetherAreTheTotal();
        bandsLeaveTermsAlone();
        CHECK.end();
    }

    private static void newBook() {
        NoticeBook book = new NoticeBook();
        CHECK.due("today at first", 0, book.today());
        CHECK.due("lots at first", 0, book.lots());
        for (int customer = 0; customer < 4; customer++) {
            CHECK.due("total at first", 0, book.total(customer));
            CHECK.due("partsByTotal at first", 0, book.partsByTotal(customer));
            CHECK.due("paid at first", 0, book.paid(customer));
            CHECK.due("lost at first", 0, book.lost(customer));
        }
        CHECK.due("rate 0 at first", 100, book.setRate(0, 1));
        CHECK.due("rate 1 at first", 200, book.setRate(1, 1));
        CHECK.due("rate 2 at first", 300, book.setRate(2, 1));
        CHECK.due("term rate at first", 250, book.setTermRate(1));
        CHECK.due("tiers at first", false, book.setByBands(true));
        CHECK.due("partsByTotal by bands without lots", 0, book.partsByTotal(0));
        CHECK.refused("principal(0) at first", Check.INDEX, NoticeBook::new, b -> b.principal(0));
    }

    private static void booksApart() {
        NoticeBook one = new NoticeBook();
        NoticeBook other = new NoticeBook();
        one.setRate(0, 7);
        one.setTermRate(8);
        one.setByBands(true);
        one.deposit(0, 5);
        one.pass(3);
        CHECK.due("another book: rate", 100, other.setRate(0, 1));
        CHECK.due("another book: term rate", 250, other.setTermRate(1));
        CHECK.due("another book: tiers", false, other.setByBands(false));
        CHECK.due("another book: lots", 0, other.lots());
        CHECK.due("another book: total", 0, other.total(0));
        CHECK.due("another book: today", 0, other.today());
    }

    private static void rates() {
        NoticeBook book = new NoticeBook();
        for (int band = 0; band < 3; band++) {
            CHECK.due("setRate to 2000", 100 * (band + 1), book.setRate(band, 2000));
            CHECK.due("setRate to 0", 2000, book.setRate(band, 0));
            CHECK.due("setRate to another", 0, book.setRate(band, 1 + band));
        }
        CHECK.due("the bands apart", 1, book.setRate(0, 5));
        CHECK.due("the bands apart", 2, book.setRate(1, 5));
        CHECK.due("the bands apart", 3, book.setRate(2, 5));
        CHECK.due("setByBands(true)", false, book.setByBands(true));
        CHECK.due("setByBands(true) again", true, book.setByBands(true));
        CHECK.due("setByBands(false)", true, book.setByBands(false));
        CHECK.due("setByBands(false) again", false, book.setByBands(false));
    }

    private static NoticeBook someLots() {
        NoticeBook book = new NoticeBook();
        book.deposit(0, 700000);
        book.deposit(0, 700000);
        book.depositTerm(1, 1000, 5, NoticeBook.ROLL);
        return book;
    }

    private static void ratesRefused() {
        CHECK.refused("setRate(-1, 5)", Check.INDEX, RatesTest::someLots, b -> b.setRate(-1, 5));
        CHECK.refused("setRate(3, 5)", Check.INDEX, RatesTest::someLots, b -> b.setRate(3, 5));
        CHECK.refused("setRate(MAX, 5)", Check.INDEX, RatesTest::someLots,
                b -> b.setRate(Integer.MAX_VALUE, 5));
        CHECK.refused("setRate(MIN, 5)", Check.INDEX, RatesTest::someLots,
                b -> b.setRate(Integer.MIN_VALUE, 5));
        CHECK.refused("setRate(3, -1)", Check.INDEX, RatesTest::someLots, b -> b.setRate(3, -1));
        for (int band = 0; band < 3; band++) {
            int number = band;
            for (int rate : new int[] {-1, 2001, Integer.MIN_VALUE, Integer.MAX_VALUE}) {
                CHECK.refused("setRate(" + band + ", " + rate + ")", Check.ARGUMENT,
                        RatesTest::someLots, b -> b.setRate(number, rate));
            }
        }
    }

    private static void fromTodayOn() {
        NoticeBook book = new NoticeBook();
        book.deposit(0, 1000);
        book.pass(2);
        book.setRate(0, 400);
        CHECK.due("earned before the rate is changed", 2 * 100000, book.earned(0));
        CHECK.due("partsOfDay since", 400000, book.partsOfDay(0));
        book.pass(3);
        CHECK.due("earned by both rates", 2 * 100000 + 3 * 400000, book.earned(0));
        book.deposit(0, 99001);
        book.setByBands(true);
        book.pass(1);
        CHECK.due("earned by bands, first lot", 1400000 + 400000, book.earned(0));
        CHECK.due("earned by bands, second lot", 99000 * 400 + 200, book.earned(1));
        book.setByBands(false);
        book.pass(1);
        CHECK.due("earned by the whole sum, first lot", 1800000 + 200000, book.earned(0));
        CHECK.due("earned by the whole sum, second lot", 99000 * 400 + 200 + 99001 * 200, book.earned(1));
    }

    private static void wholeSumEdges() {
        int[] totals = {1, 99999, 100000, 100001, 999999, 1000000, 1000001, 10000000};
        int[] due = {100, 100, 100, 200, 200, 200, 300, 300};
        for (int k = 0; k < totals.length; k++) {
            NoticeBook book = new NoticeBook();
            book.deposit(3, totals[k]);
            CHECK.due("whole sum " + totals[k], (long) totals[k] * due[k], book.partsOfDay(0));
            CHECK.due("whole sum by total " + totals[k], (long) totals[k] * due[k], book.partsByTotal(3));
            CHECK.due("total " + totals[k], totals[k], book.total(3));
        }
        NoticeBook book = new NoticeBook();
        book.deposit(1, 600000);
        book.deposit(1, 400000);
        CHECK.due("two lots, one sum", 400000L * 200, book.partsOfDay(1));
        book.deposit(1, 1);
        CHECK.due("a cent more lifts the first lot", 600000L * 300, book.partsOfDay(0));
        CHECK.due("and the second", 400000L * 300, book.partsOfDay(1));
        CHECK.due("and itself", 300, book.partsOfDay(2));
        CHECK.due("together", 1000001L * 300, book.partsByTotal(1));
        CHECK.due("total together", 1000001, book.total(1));
    }

    private static void byBandsEdges() {
        int[] totals = {1, 99999, 100000, 100001, 999999, 1000000, 1000001, 10000000};
        long full = 100000L * 100;
        long[] due = {100, 9999900, full, full + 200, full + 899999L * 200, full + 900000L * 200,
            full + 900000L * 200 + 300, full + 900000L * 200 + 9000000L * 300};
        for (int k = 0; k < totals.length; k++) {
            NoticeBook book = new NoticeBook();
            book.setByBands(true);
            book.deposit(2, totals[k]);
            CHECK.due("by bands " + totals[k], due[k], book.partsOfDay(0));
            CHECK.due("by bands by total " + totals[k], due[k], book.partsByTotal(2));
        }
    }

    private static void bandsGoByNumbersOfLots() {
        NoticeBook book = new NoticeBook();
        book.setByBands(true);
        book.deposit(0, 60000);
        book.deposit(0, 60000);
        book.deposit(0, 900000);
        CHECK.due("first lot in the low band", 6000000, book.partsOfDay(0));
        CHECK.due("second lot across a bound", 4000000 + 20000L * 200, book.partsOfDay(1));
        CHECK.due("third lot across a bound", 880000L * 200 + 20000L * 300, book.partsOfDay(2));
        CHECK.due("by total", 10000000 + 900000L * 200 + 20000L * 300, book.partsByTotal(0));
        book.early(0, 60000);
        CHECK.due("the first lot gave", 2, book.lots());
        CHECK.due("second lot moved down", 6000000, book.partsOfDay(1));
        CHECK.due("third lot moved down", 4000000 + 860000L * 200, book.partsOfDay(2));
        CHECK.due("by total moved down", 10000000 + 860000L * 200, book.partsByTotal(0));
        NoticeBook over = new NoticeBook();
        over.setByBands(true);
        over.deposit(0, 99999);
        over.deposit(0, 900002);
        CHECK.due("a lot over all three bands", 100 + 900000L * 200 + 300, over.partsOfDay(1));
    }

    private static void whatDoesNotCount() {
        NoticeBook book = new NoticeBook();
        book.deposit(0, 100000);
        book.deposit(1, 100000);
        book.depositTerm(0, 100000, 9, NoticeBook.PAY);
        book.deposit(0, 5);
        CHECK.due("total without terms and others", 100005, book.total(0));
        CHECK.due("others' totals", 100000, book.total(1));
        CHECK.due("nobody's total", 0, book.total(2));
        CHECK.due("parts by total without terms", 100005L * 200, book.partsByTotal(0));
        CHECK.due("another customer's lot", 100000L * 100, book.partsOfDay(1));
        CHECK.due("a term's own parts", 100000L * 250, book.partsOfDay(2));
        book.setByBands(true);
        CHECK.due("bands pass terms and others over", 1000, book.partsOfDay(3) );
        CHECK.due("a term has no bands", 100000L * 250, book.partsOfDay(2));
        book.give(0, 100000);
        CHECK.due("frozen cents count in the total", 100005, book.total(0));
        CHECK.due("frozen cents count for parts", 10000000, book.partsOfDay(0));
    }

    private static void termRate() {
        NoticeBook book = new NoticeBook();
        book.depositTerm(0, 1000, 3, NoticeBook.SPLIT);
        CHECK.due("term rate before", 250, book.setTermRate(2000));
        CHECK.due("a running term keeps its parts", 250000, book.partsOfDay(0));
        book.depositTerm(0, 1000, 3, NoticeBook.PAY);
        CHECK.due("a new deposit by the new rate", 2000000, book.partsOfDay(1));
        book.pass(2);
        CHECK.due("earned by the old rate", 500000, book.earned(0));
        CHECK.due("term rate again", 2000, book.setTermRate(0));
        book.pass(1);
        CHECK.due("a new term by the rate of its day", 0, book.partsOfDay(0));
        CHECK.due("what the old term earned stays", 750000, book.earned(0));
        CHECK.due("a rate of 0 before", 0, book.setTermRate(0));
    }

    private static void termRateRefused() {
        for (int rate : new int[] {-1, 2001, Integer.MIN_VALUE, Integer.MAX_VALUE}) {
            CHECK.refused("setTermRate(" + rate + ")", Check.ARGUMENT, RatesTest::someLots,
                    b -> b.setTermRate(rate));
        }
    }

    private static void largestTotal() {
        NoticeBook book = new NoticeBook();
        book.setRate(0, 2000);
        book.setRate(1, 2000);
        book.setRate(2, 2000);
        for (int lot = 0; lot < 40; lot++) {
            book.deposit(0, 10000000);
        }
        CHECK.due("the largest total", 400000000, book.total(0));
        CHECK.due("its parts", 800000000000L, book.partsByTotal(0));
        CHECK.due("parts of its last lot", 20000000000L, book.partsOfDay(39));
        book.setByBands(true);
        CHECK.due("its parts by bands", 800000000000L, book.partsByTotal(0));
        CHECK.due("parts of its last lot by bands", 20000000000L, book.partsOfDay(39));
    }

    private static void lotsThatEndOnABound() {
        NoticeBook book = new NoticeBook();
        book.setByBands(true);
        book.deposit(0, 100000);
        book.deposit(0, 900000);
        book.deposit(0, 1);
        CHECK.due("all the first band", 100000L * 100, book.partsOfDay(0));
        CHECK.due("all the second band", 900000L * 200, book.partsOfDay(1));
        CHECK.due("the first cent of the third", 300, book.partsOfDay(2));
        NoticeBook ahead = new NoticeBook();
        ahead.setByBands(true);
        ahead.deposit(0, 99999);
        ahead.deposit(0, 1);
        ahead.deposit(0, 1);
        ahead.deposit(0, 899998);
        ahead.deposit(0, 1);
        ahead.deposit(0, 1);
        CHECK.due("the last cent of the first band", 100, ahead.partsOfDay(1));
        CHECK.due("the first cent of the second", 200, ahead.partsOfDay(2));
        CHECK.due("the last cent of the second", 200, ahead.partsOfDay(4));
        CHECK.due("the first cent of the third", 300, ahead.partsOfDay(5));
    }

    private static void rateBounds() {
        for (int band = 0; band < 3; band++) {
            int[] totals = {100000, 1000000, 10000000};
            NoticeBook book = new NoticeBook();
            book.deposit(0, totals[band]);
            book.setRate(band, 0);
            CHECK.due("nothing at the least rate", 0, book.partsOfDay(0));
            CHECK.due("nothing together", 0, book.partsByTotal(0));
            book.pass(1);
            CHECK.due("nothing is earned", 0, book.earned(0));
            book.setRate(band, 2000);
            CHECK.due("at the greatest rate", totals[band] * 2000L, book.partsOfDay(0));
            CHECK.due("together", totals[band] * 2000L, book.partsByTotal(0));
            book.pass(1);
            CHECK.due("is earned", totals[band] * 2000L, book.earned(0));
        }
    }

    private static void backBelowABound() {
        NoticeBook book = new NoticeBook();
        book.deposit(0, 600000);
        book.deposit(0, 400001);
        CHECK.due("above the second bound", 600000L * 300, book.partsOfDay(0));
        book.give(1, 1);
        book.pass(32);
        CHECK.due("frozen cents count still", 600000L * 300, book.partsOfDay(0));
        book.take(1);
        CHECK.due("a cent less, below it", 600000L * 200, book.partsOfDay(0));
        book.early(0, 900000);
        CHECK.due("below the first bound", 100000L * 100, book.partsByTotal(0));
        book.deposit(0, 1);
        CHECK.due("and above it again", 100001L * 200, book.partsByTotal(0));
    }

    private static void lotsTogetherAreTheTotal() {
        for (int lastCents : new int[] {1, 30000, 99999, 900000, 999999, 5000000}) {
            NoticeBook book = new NoticeBook();
            book.setRate(0, 701);
            book.setRate(1, 17);
            book.setRate(2, 1999);
            int[] cents = {33333, 66667, 1, 123457, lastCents};
            for (int part : cents) {
                book.deposit(2, part);
                book.deposit(1, 54321);
            }
            for (boolean byBands : new boolean[] {true, false}) {
                book.setByBands(byBands);
                long principals = 0;
                long parts = 0;
                for (int lot = 0; lot < 2 * cents.length; lot += 2) {
                    principals += book.principal(lot);
                    parts += book.partsOfDay(lot);
                }
                CHECK.due("total with " + lastCents, principals, book.total(2));
                CHECK.due("parts with " + lastCents + ", by bands: " + byBands, parts, book.partsByTotal(2));
            }
        }
    }

    private static void bandsLeaveTermsAlone() {
        NoticeBook book = new NoticeBook();
        book.depositTerm(0, 1000, 2, NoticeBook.SPLIT);
        CHECK.due("no total by terms alone", 0, book.total(0));
        CHECK.due("no parts by total", 0, book.partsByTotal(0));
        for (int band = 0; band < 3; band++) {
            book.setRate(band, 2000);
        }
        CHECK.due("a running term", 250000, book.partsOfDay(0));
        book.pass(1);
        CHECK.due("earned by the rate of terms", 250000, book.earned(0));
        book.setByBands(true);
        book.pass(1);
        CHECK.due("by bands, too", 500000, book.earned(0));
        CHECK.due("a new term", 250000, book.partsOfDay(0));
        CHECK.due("no parts by total by bands", 0, book.partsByTotal(0));
    }
}
