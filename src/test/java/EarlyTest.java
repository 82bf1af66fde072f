/** Promises 10 and 25: early money, and what it loses. */
public final class EarlyTest {
    private static final Check CHECK = new Check("EarlyTest");

    public static void main(String[] args) {
        equalHarmGoesByHighestNumber();
        leastHarmFirst();
        comparedExactly();
        thirtyDaysAreLost();
        roundedDown();
        noMoreThanEarned();
        asThingsAreAheadOfTheCall();
        frozenPartsStay();
        whatIsLeftOverIsLost();
        otherLotsAreLeftAlone();
        largest();
        refused();
        aCent();
        losesBeforeItPays();
        thirtyDaysExactly();
        equalHarmOfNothing();
        orderIsThatAheadOfTheCall();
        noLotIsAskedInVain();
        paidAloneWhenGone();
        CHECK.end();
    }

    private static void equalHarmGoesByHighestNumber() {
        NoticeBook book = new NoticeBook();
        book.deposit(0, 100);
        book.deposit(0, 200);
        book.deposit(0, 300);
        CHECK.due("early", 350, book.early(0, 350));
        CHECK.due("the last lot is gone", 2, book.lots());
        CHECK.due("the one before gave the rest", 150, book.principal(1));
        CHECK.due("the first gave nothing", 100, book.principal(0));
        CHECK.due("paid", 350, book.paid(0));
        CHECK.due("exactly one lot", 150, book.early(0, 150));
        CHECK.due("the first one still has all", 100, book.principal(0));
        CHECK.due("all", 100, book.early(0, 100));
        CHECK.due("none left", 0, book.lots());
    }

    private static void leastHarmFirst() {
        NoticeBook book = new NoticeBook();
        book.setByBands(true);
        book.setRate(0, 300);
        book.setRate(1, 100);
        book.setRate(2, 200);
        book.deposit(0, 100000);
        book.deposit(0, 900000);
        book.deposit(0, 50000);
        CHECK.due("first the middle lot, then the last", 910000, book.early(0, 910000));
        CHECK.due("the middle one is gone", 2, book.lots());
        CHECK.due("the first stays", 100000, book.principal(0));
        CHECK.due("the last gave 10000", 40000, book.principal(2));
    }

    private static void comparedExactly() {
        NoticeBook book = new NoticeBook();
        book.setByBands(true);
        book.setRate(1, 101);
        book.deposit(0, 50000);
        book.deposit(0, 60000);
        book.early(0, 1);
        CHECK.due("100 is less than 100 and a sixth", 49999, book.principal(0));
        // 2000 - 10001/15446 is less than 2000 - 889999/1374555, by 1/(15446 * 1374555).
        NoticeBook close = new NoticeBook();
        close.setByBands(true);
        close.setRate(0, 2000);
        close.setRate(1, 1999);
        close.setRate(2, 2000);
        close.deposit(0, 94555);
        close.deposit(0, 15446);
        close.deposit(0, 1374555);
        close.early(0, 1);
        CHECK.due("a lot less by next to nothing", 15445, close.principal(1));
        // Less by 1/(968068 * 9379239), which a double does not tell.
        NoticeBook closest = new NoticeBook();
        closest.setByBands(true);
        closest.setRate(0, 2000);
        closest.setRate(1, 1197);
        closest.setRate(2, 1273);
        closest.deposit(0, 8605);
        closest.deposit(0, 968068);
        closest.deposit(0, 9379239);
        closest.early(0, 1);
        CHECK.due("a lot less by what no double tells", 968067, closest.principal(1));
    }

    private static void thirtyDaysAreLost() {
        NoticeBook book = new NoticeBook();
        book.deposit(0, 1000);
        book.pass(45);
        CHECK.due("early", 100, book.early(0, 100));
        CHECK.due("lost 30 days of the part", 30 * 100 * 100, book.lost(0));
        CHECK.due("the rest stays earned", 45 * 100000 - 300000, book.earned(0));
        CHECK.due("principal", 900, book.principal(0));
    }

    private static void roundedDown() {
        NoticeBook book = new NoticeBook();
        book.setByBands(true);
        book.deposit(0, 99996);
        book.deposit(0, 7);
        book.pass(10);
        book.give(0, 99996);
        CHECK.due("parts of four low cents and three middle ones", 1000, book.partsOfDay(1));
        CHECK.due("early", 1, book.early(0, 1));
        CHECK.due("30000 / 7, rounded down", 4285, book.lost(0));
        CHECK.due("earned", 10000 - 4285, book.earned(1));
        NoticeBook once = new NoticeBook();
        once.setByBands(true);
        once.deposit(0, 99996);
        once.deposit(0, 7);
        once.pass(20);
        once.give(0, 99996);
        CHECK.due("early", 3, once.early(0, 3));
        CHECK.due("90000 / 7, rounded down once for all cents", 12857, once.lost(0));
    }

    private static void noMoreThanEarned() {
        NoticeBook book = new NoticeBook();
        book.deposit(0, 1000);
        CHECK.due("nothing earned", 10, book.early(0, 10));
        CHECK.due("nothing lost", 0, book.lost(0));
        book.pass(3);
        CHECK.due("early", 300, book.early(0, 300));
        CHECK.due("lost what was earned", 3 * 99000, book.lost(0));
        CHECK.due("nothing left", 0, book.earned(0));
        NoticeBook exact = new NoticeBook();
        exact.deposit(0, 1000);
        exact.pass(30);
        exact.early(0, 999);
        CHECK.due("30 days of 999 cents", 30 * 99900, exact.lost(0));
        CHECK.due("30 days of a cent", 3000, exact.earned(0));
    }

    private static void asThingsAreAheadOfTheCall() {
        NoticeBook book = new NoticeBook();
        book.deposit(0, 60000);
        book.deposit(0, 60000);
        book.pass(60);
        CHECK.due("early from both", 60000 + 60000 * 200L * 30 / 3650000 + 30000, book.early(0, 90000));
        CHECK.due("the first lost by the rate of the old total",
                30L * 200 * 90000 + (30L * 200 * 60000) % 3650000, book.lost(0));
        CHECK.due("parts then by the new total", 30000 * 100, book.partsOfDay(0));
        NoticeBook bands = new NoticeBook();
        bands.setByBands(true);
        bands.setRate(0, 500);
        bands.deposit(0, 100000);
        bands.deposit(0, 900000);
        bands.deposit(0, 100000);
        bands.pass(100);
        // 900000 at 200, then the lot that was at 300 ahead of the call: it loses by 300.
        bands.early(0, 950000);
        CHECK.due("by bands, by the old numbers of cents",
                30L * 200 * 900000 + (70L * 200 * 900000) % 3650000 + 30L * 300 * 50000, bands.lost(0));
        CHECK.due("the last one gave the rest", 50000, bands.principal(2));
    }

    private static NoticeBook twoFrozen() {
        NoticeBook book = new NoticeBook();
        book.deposit(0, 100);
        book.deposit(0, 200);
        book.deposit(0, 300);
        book.give(2, 300);
        book.give(1, 150);
        return book;
    }

    private static void frozenPartsStay() {
        NoticeBook book = twoFrozen();
        book.pass(40 - 2);
        CHECK.due("early passes frozen parts over", 120, book.early(0, 120));
        CHECK.due("all frozen", 300, book.principal(2));
        CHECK.due("some frozen", 150, book.principal(1));
        CHECK.due("not frozen", 30, book.principal(0));
        CHECK.due("frozen as before", 150, book.frozen(1));
        CHECK.due("lost by the two that gave", 30 * 100 * 120, book.lost(0));
        CHECK.due("the frozen lot lost nothing", 38 * 30000, book.earned(2));
        CHECK.due("the rest that is not frozen", 30, book.early(0, 30));
        CHECK.due("gone", 2, book.lots());
    }

    private static void whatIsLeftOverIsLost() {
        NoticeBook book = new NoticeBook();
        book.setRate(0, 2000);
        book.deposit(1, 1000);
        book.pass(100);
        // It earned 200 million parts, loses 60 million, and pays 38 cents of 140 million.
        CHECK.due("principal and interest", 1038, book.early(1, 1000));
        CHECK.due("paid", 1038, book.paid(1));
        CHECK.due("lost", 60000000 + 140000000 - 38 * 3650000, book.lost(1));
        CHECK.due("gone", 0, book.lots());
        CHECK.due("nobody else lost", 0, book.lost(0));
    }

    private static void otherLotsAreLeftAlone() {
        NoticeBook book = new NoticeBook();
        book.deposit(0, 50);
        book.deposit(1, 60);
        book.depositTerm(0, 70, 9, NoticeBook.PAY);
        CHECK.due("early", 50, book.early(0, 50));
        CHECK.due("another customer's", 60, book.principal(1));
        CHECK.due("a term", 70, book.principal(2));
        CHECK.due("another customer is paid nothing", 0, book.paid(1));
    }

    private static void largest() {
        NoticeBook book = new NoticeBook();
        for (int band = 0; band < 3; band++) {
            book.setRate(band, 2000);
        }
        for (int lot = 0; lot < 11; lot++) {
            book.deposit(3, 10000000);
        }
        for (int k = 0; k < 30; k++) {
            book.pass(100);
        }
        long parts = 10000000L * 2000;
        long interest = 2970 * parts / 3650000;
        CHECK.due("the most early money", 100000000 + 10 * interest, book.early(3, 100000000));
        CHECK.due("lost", 10 * (30 * parts + 2970 * parts % 3650000), book.lost(3));
        CHECK.due("one lot is left", 10000000, book.total(3));
        CHECK.due("the first one", 10000000, book.principal(0));
    }

    private static NoticeBook some() {
        NoticeBook book = twoFrozen();
        book.depositTerm(0, 5000, 50, NoticeBook.ROLL);
        book.deposit(1, 5000);
        book.pass(2);
        return book;
    }

    private static void refused() {
        for (int customer : new int[] {-1, 4, Integer.MIN_VALUE, Integer.MAX_VALUE}) {
            CHECK.refused("early(" + customer + ", 1)", Check.INDEX, EarlyTest::some,
                    b -> b.early(customer, 1));
            CHECK.refused("early(" + customer + ", 0)", Check.INDEX, EarlyTest::some,
                    b -> b.early(customer, 0));
        }
        for (int cents : new int[] {0, -1, 100000001, Integer.MIN_VALUE, Integer.MAX_VALUE}) {
            CHECK.refused("early(0, " + cents + ")", Check.ARGUMENT, EarlyTest::some,
                    b -> b.early(0, cents));
        }
        CHECK.refused("more than is not frozen", Check.STATE, EarlyTest::some, b -> b.early(0, 151));
        CHECK.refused("the most, of less", Check.STATE, EarlyTest::some, b -> b.early(1, 100000000));
        CHECK.refused("of no lots", Check.STATE, EarlyTest::some, b -> b.early(2, 1));
        CHECK.due("all that is not frozen", 150, some().early(0, 150));
    }

    private static void aCent() {
        NoticeBook book = new NoticeBook();
        book.deposit(0, 1);
        book.pass(40);
        CHECK.due("a cent of a cent", 1, book.early(0, 1));
        CHECK.due("lost 30 days and the rest", 40 * 100, book.lost(0));
        CHECK.due("gone", 0, book.lots());
        NoticeBook free = new NoticeBook();
        free.deposit(0, 1000);
        free.give(0, 999);
        free.pass(31);
        CHECK.due("the one cent that is not frozen", 1, free.early(0, 1));
        CHECK.due("lost 30 days of it", 3000, free.lost(0));
        CHECK.due("all that is left is frozen", 999, free.principal(0));
    }

    private static void losesBeforeItPays() {
        for (int days = 1854; days <= 1855; days++) {
            NoticeBook book = new NoticeBook();
            book.setRate(0, 2000);
            book.deposit(0, 1);
            Check.passTo(book, days);
            // Of more than a cent in both, 60000 parts are lost: 3648000, or just a cent, is left.
            long left = days * 2000 - 60000;
            CHECK.due("early after " + days, days == 1855 ? 2 : 1, book.early(0, 1));
            CHECK.due("lost after " + days, 60000 + (days == 1855 ? 0 : left), book.lost(0));
        }
    }

    private static void thirtyDaysExactly() {
        for (int days = 29; days <= 31; days++) {
            NoticeBook book = new NoticeBook();
            book.setRate(0, 1000);
            book.deposit(0, 3650);
            book.pass(days);
            // Each day earns a cent exactly.
            CHECK.due("after " + days, days > 30 ? 3651 : 3650, book.early(0, 3650));
            CHECK.due("lost after " + days, Math.min(30, days) * 3650000, book.lost(0));
        }
    }

    private static void equalHarmOfNothing() {
        NoticeBook book = new NoticeBook();
        book.setRate(0, 0);
        book.deposit(0, 300);
        book.deposit(0, 100);
        book.deposit(0, 200);
        book.pass(50);
        CHECK.due("of several that earn nothing", 250, book.early(0, 250));
        CHECK.due("the last is gone, the next gave the rest", 50, book.principal(1));
        CHECK.due("the first gave nothing", 300, book.principal(0));
        CHECK.due("nothing is lost", 0, book.lost(0));
    }

    private static void orderIsThatAheadOfTheCall() {
        NoticeBook book = new NoticeBook();
        book.setByBands(true);
        book.setRate(0, 300);
        book.setRate(1, 100);
        book.setRate(2, 200);
        book.deposit(0, 100000);
        book.deposit(0, 900000);
        book.deposit(0, 900000);
        book.deposit(0, 100000);
        // Lot 1 is gone first; then lot 2 would be at 100, but ahead of the call both were at 200.
        CHECK.due("early", 950000, book.early(0, 950000));
        CHECK.due("the last one gave the rest", 50000, book.principal(3));
        CHECK.due("not the one that moved down", 900000, book.principal(2));
        CHECK.due("now that one is at 100", 900000L * 100, book.partsOfDay(2));
        CHECK.due("and gives first", 899999, afterEarly(book, 1).principal(2));
    }

    private static NoticeBook afterEarly(NoticeBook book, int cents) {
        book.early(0, cents);
        return book;
    }

    private static void noLotIsAskedInVain() {
        NoticeBook book = new NoticeBook();
        book.deposit(0, 1000);
        book.deposit(0, 500);
        book.pass(10);
        CHECK.due("all of the last one, exactly", 500, book.early(0, 500));
        CHECK.due("the other keeps its principal", 1000, book.principal(0));
        CHECK.due("and what it has earned", 10 * 100000, book.earned(0));
        CHECK.due("the last one lost", 10 * 50000, book.lost(0));
        NoticeBook more = new NoticeBook();
        more.deposit(0, 1000);
        more.deposit(0, 500);
        more.pass(40);
        CHECK.due("a cent more", 501, more.early(0, 501));
        CHECK.due("the other gave a cent", 999, more.principal(0));
        CHECK.due("and lost 30 days of it", 40 * 100000 - 3000, more.earned(0));
    }

    private static void paidAloneWhenGone() {
        NoticeBook book = new NoticeBook();
        book.setRate(0, 2000);
        book.deposit(0, 1000);
        book.deposit(0, 1000);
        book.pass(100);
        // Each earned 200 million parts; all of one loses 60 million of them.
        CHECK.due("interest of the one that is gone", 1999 + 38, book.early(0, 1999));
        CHECK.due("the other keeps its interest", 200000000 - 30 * 2000 * 999, book.earned(0));
        CHECK.due("paid", 1999 + 38, book.paid(0));
    }
}
