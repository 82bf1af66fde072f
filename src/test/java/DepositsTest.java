/** Promises 5, 6 and 16 to 25 as far as deposits and wrong numbers go. */
public final class DepositsTest {
    private static final Check CHECK = new Check("DepositsTest");
    private static final int[] NO_CUSTOMERS = {-1, 4, 40, Integer.MIN_VALUE, Integer.MAX_VALUE};
    private static final int[] NO_LOTS = {-1, 2, 3, 4, 39, 40, 41, Integer.MIN_VALUE, Integer.MAX_VALUE};

    public static void main(String[] args) {
        deposits();
        depositRefused();
        terms();
        depositTermRefused();
        fortyLots();
        numbersAreNotUsedAgain();
        noSuchLot();
        noSuchCustomer();
        fourCustomers();
        lastNumberOfAll();
        CHECK.end();
    }

    private static void deposits() {
        NoticeBook book = new NoticeBook();
        CHECK.due("first lot", 0, book.deposit(0, 1));
        CHECK.due("second lot", 1, book.deposit(3, 10000000));
        CHECK.due("third lot", 2, book.depositTerm(0, 1, 1, NoticeBook.PAY));
        CHECK.due("fourth lot", 3, book.deposit(0, 77));
        CHECK.due("lots", 4, book.lots());
        CHECK.due("least principal", 1, book.principal(0));
        CHECK.due("most principal", 10000000, book.principal(1));
        CHECK.due("earned at first", 0, book.earned(1));
        CHECK.due("frozen at first", 0, book.frozen(1));
        CHECK.due("no end by NOTICE", NoticeBook.NONE, book.endOf(1));
        CHECK.due("total", 78, book.total(0));
        CHECK.due("nothing is paid", 0, book.paid(0));
        book.pass(4);
        CHECK.due("earned", 4 * 7700, book.earned(3));
        CHECK.due("no end later on", NoticeBook.NONE, book.endOf(3));
        CHECK.due("a deposit on a later day", 4, book.deposit(2, 10));
        CHECK.due("has earned nothing", 0, book.earned(4));
    }

    private static void depositRefused() {
        for (int customer : NO_CUSTOMERS) {
            CHECK.refused("deposit(" + customer + ", 5)", Check.INDEX, DepositsTest::twoLots,
                    b -> b.deposit(customer, 5));
            CHECK.refused("deposit(" + customer + ", 0)", Check.INDEX, DepositsTest::twoLots,
                    b -> b.deposit(customer, 0));
        }
        for (int cents : new int[] {0, -1, 10000001, Integer.MIN_VALUE, Integer.MAX_VALUE}) {
            CHECK.refused("deposit(0, " + cents + ")", Check.ARGUMENT, DepositsTest::twoLots,
                    b -> b.deposit(0, cents));
        }
    }

    private static void terms() {
        NoticeBook book = new NoticeBook();
        book.pass(10);
        CHECK.due("shortest term", 0, book.depositTerm(1, 10000000, 1, NoticeBook.ROLL));
        CHECK.due("longest term", 1, book.depositTerm(1, 1, 400, NoticeBook.PAY));
        CHECK.due("end of the shortest", 11, book.endOf(0));
        CHECK.due("end of the longest", 410, book.endOf(1));
        CHECK.due("principal", 10000000, book.principal(0));
        CHECK.due("parts of a day", 2500000000L, book.partsOfDay(0));
        CHECK.due("parts of a day of a cent", 250, book.partsOfDay(1));
        CHECK.due("earned at first", 0, book.earned(0));
        CHECK.due("frozen by TERM", 0, book.frozen(0));
        CHECK.due("lots", 2, book.lots());
        CHECK.due("total without terms", 0, book.total(1));
        CHECK.due("instruction ROLL", NoticeBook.ROLL, book.instruct(0, NoticeBook.SPLIT));
        CHECK.due("instruction PAY", NoticeBook.PAY, book.instruct(1, NoticeBook.SPLIT));
        CHECK.due("a third", 2, book.depositTerm(0, 5, 5, NoticeBook.SPLIT));
        CHECK.due("instruction SPLIT", NoticeBook.SPLIT, book.instruct(2, NoticeBook.PAY));
    }

    private static void depositTermRefused() {
        for (int customer : NO_CUSTOMERS) {
            CHECK.refused("depositTerm(" + customer + ", 5, 5, 0)", Check.INDEX,
                    DepositsTest::twoLots, b -> b.depositTerm(customer, 5, 5, 0));
            CHECK.refused("depositTerm(" + customer + ", 0, 0, 9)", Check.INDEX,
                    DepositsTest::twoLots, b -> b.depositTerm(customer, 0, 0, 9));
        }
        int[][] wrong = {{0, 5, 0}, {-1, 5, 0}, {10000001, 5, 0}, {5, 0, 0}, {5, -1, 0}, {5, 401, 0},
            {5, 5, -1}, {5, 5, 3}, {5, 5, Integer.MAX_VALUE}, {5, Integer.MIN_VALUE, 0},
            {Integer.MIN_VALUE, 5, 0}, {5, Integer.MAX_VALUE, 1}};
        for (int[] w : wrong) {
            CHECK.refused("depositTerm(0, " + w[0] + ", " + w[1] + ", " + w[2] + ")", Check.ARGUMENT,
                    DepositsTest::twoLots, b -> b.depositTerm(0, w[0], w[1], w[2]));
        }
    }

    private static NoticeBook full() {
        NoticeBook book = new NoticeBook();
        for (int lot = 0; lot < 40; lot++) {
            book.deposit(lot % 4, 100);
        }
        return book;
    }

    private static NoticeBook fullAndOneGone() {
        NoticeBook book = full();
        book.early(3, 100);
        return book;
    }

    private static void fortyLots() {
        NoticeBook book = full();
        CHECK.due("40 lots", 40, book.lots());
        CHECK.due("the last one", 100, book.principal(39));
        CHECK.refused("the 41st", Check.STATE, DepositsTest::full, b -> b.deposit(0, 5));
        CHECK.refused("the 41st by TERM", Check.STATE, DepositsTest::full,
                b -> b.depositTerm(0, 5, 5, NoticeBook.PAY));
        CHECK.refused("the 41st, cents wrong", Check.ARGUMENT, DepositsTest::full, b -> b.deposit(0, 0));
        CHECK.refused("the 41st, customer wrong", Check.INDEX, DepositsTest::full, b -> b.deposit(4, 5));
        CHECK.refused("the 41st by TERM, days wrong", Check.ARGUMENT, DepositsTest::full,
                b -> b.depositTerm(0, 5, 0, NoticeBook.PAY));
        CHECK.refused("the 41st by TERM, customer wrong", Check.INDEX, DepositsTest::full,
                b -> b.depositTerm(-1, 5, 5, NoticeBook.PAY));
        CHECK.due("one is gone", 39, fullAndOneGone().lots());
        CHECK.refused("the 41st ever", Check.STATE, DepositsTest::fullAndOneGone, b -> b.deposit(0, 5));
        CHECK.refused("the 41st ever by TERM", Check.STATE, DepositsTest::fullAndOneGone,
                b -> b.depositTerm(0, 5, 5, NoticeBook.PAY));
        NoticeBook nearly = new NoticeBook();
        for (int lot = 0; lot < 39; lot++) {
            nearly.deposit(0, 1);
        }
        CHECK.due("the 40th by TERM", 39, nearly.depositTerm(0, 5, 5, NoticeBook.PAY));
    }

    private static void numbersAreNotUsedAgain() {
        NoticeBook book = new NoticeBook();
        book.deposit(0, 100);
        book.early(0, 100);
        CHECK.due("no lots", 0, book.lots());
        CHECK.due("the next number", 1, book.deposit(0, 100));
        CHECK.due("one lot", 1, book.lots());
        CHECK.refused("the old number", Check.INDEX, () -> {
            NoticeBook b = new NoticeBook();
            b.deposit(0, 100);
            b.early(0, 100);
            b.deposit(0, 100);
            return b;
        }, b -> b.principal(0));
    }

    /** Lots 0 and 1 are there, 2 and 3 are gone, 4 was never made. */
    private static NoticeBook twoLots() {
        NoticeBook book = new NoticeBook();
        book.deposit(0, 1000);
        book.depositTerm(0, 1000, 30, NoticeBook.SPLIT);
        book.deposit(1, 1000);
        book.depositTerm(1, 1000, 1, NoticeBook.PAY);
        book.early(1, 1000);
        book.pass(1);
        return book;
    }

    private static void noSuchLot() {
        CHECK.due("two lots", 2, twoLots().lots());
        for (int lot : NO_LOTS) {
            String call = "(" + lot + ")";
            CHECK.refused("principal" + call, Check.INDEX, DepositsTest::twoLots, b -> b.principal(lot));
            CHECK.refused("earned" + call, Check.INDEX, DepositsTest::twoLots, b -> b.earned(lot));
            CHECK.refused("partsOfDay" + call, Check.INDEX, DepositsTest::twoLots, b -> b.partsOfDay(lot));
            CHECK.refused("frozen" + call, Check.INDEX, DepositsTest::twoLots, b -> b.frozen(lot));
            CHECK.refused("endOf" + call, Check.INDEX, DepositsTest::twoLots, b -> b.endOf(lot));
            CHECK.refused("give" + call, Check.INDEX, DepositsTest::twoLots, b -> b.give(lot, 1));
            CHECK.refused("give, 0 cents" + call, Check.INDEX, DepositsTest::twoLots, b -> b.give(lot, 0));
            CHECK.refused("withdraw" + call, Check.INDEX, DepositsTest::twoLots, b -> b.withdraw(lot));
            CHECK.refused("take" + call, Check.INDEX, DepositsTest::twoLots, b -> b.take(lot));
            CHECK.refused("instruct" + call, Check.INDEX, DepositsTest::twoLots,
                    b -> b.instruct(lot, NoticeBook.PAY));
            CHECK.refused("instruct, wrong" + call, Check.INDEX, DepositsTest::twoLots,
                    b -> b.instruct(lot, 3));
            CHECK.refused("letGo" + call, Check.INDEX, DepositsTest::twoLots, b -> b.letGo(lot));
            CHECK.refused("join to" + call, Check.INDEX, DepositsTest::twoLots, b -> b.join(1, lot));
            CHECK.refused("join from" + call, Check.INDEX, DepositsTest::twoLots, b -> b.join(lot, 1));
            CHECK.refused("join both" + call, Check.INDEX, DepositsTest::twoLots, b -> b.join(lot, lot));
        }
    }

    private static void noSuchCustomer() {
        for (int customer : NO_CUSTOMERS) {
            String call = "(" + customer + ")";
            CHECK.refused("total" + call, Check.INDEX, DepositsTest::twoLots, b -> b.total(customer));
            CHECK.refused("partsByTotal" + call, Check.INDEX, DepositsTest::twoLots,
                    b -> b.partsByTotal(customer));
            CHECK.refused("paid" + call, Check.INDEX, DepositsTest::twoLots, b -> b.paid(customer));
            CHECK.refused("lost" + call, Check.INDEX, DepositsTest::twoLots, b -> b.lost(customer));
        }
    }

    /** Each customer from 0 to 3 in each call by customer, and no other is touched. */
    private static void fourCustomers() {
        for (int customer = 0; customer < 4; customer++) {
            NoticeBook book = new NoticeBook();
            CHECK.due("deposit of customer " + customer, 0, book.deposit(customer, 1000));
            CHECK.due("depositTerm of customer " + customer, 1, book.depositTerm(customer, 7, 1, NoticeBook.PAY));
            book.pass(1);
            CHECK.due("early of customer " + customer, 400, book.early(customer, 400));
            for (int other = 0; other < 4; other++) {
                boolean own = other == customer;
                CHECK.due("total", own ? 600 : 0, book.total(other));
                CHECK.due("partsByTotal", own ? 60000 : 0, book.partsByTotal(other));
                CHECK.due("paid", own ? 407 : 0, book.paid(other));
                CHECK.due("lost", own ? 100000 + 7 * 250 : 0, book.lost(other));
            }
        }
    }

    /** 40 lots: 38 is by TERM, and so is 39, or it is by NOTICE. */
    private static NoticeBook upToTheLast(boolean byTerm) {
        NoticeBook book = new NoticeBook();
        for (int lot = 0; lot < 38; lot++) {
            book.deposit(1, 3);
        }
        book.depositTerm(0, 1000, 40, NoticeBook.SPLIT);
        if (byTerm) {
            book.depositTerm(0, 1000, 40, NoticeBook.SPLIT);
        } else {
            book.deposit(0, 1000);
        }
        return book;
    }

    private static void lastNumberOfAll() {
        NoticeBook notice = upToTheLast(false);
        CHECK.due("principal of lot 39", 1000, notice.principal(39));
        CHECK.due("partsOfDay of lot 39", 100000, notice.partsOfDay(39));
        CHECK.due("endOf lot 39", NoticeBook.NONE, notice.endOf(39));
        CHECK.due("give of lot 39", 32, notice.give(39, 10));
        CHECK.due("withdraw of lot 39", 10, notice.withdraw(39));
        CHECK.due("give of lot 39", 32, notice.give(39, 20));
        CHECK.due("frozen of lot 39", 20, notice.frozen(39));
        notice.pass(32);
        CHECK.due("earned of lot 39", 3200000, notice.earned(39));
        CHECK.due("take of lot 39", 20, notice.take(39));
        CHECK.due("early of lot 39", 5, notice.early(0, 5));
        CHECK.due("principal then", 975, notice.principal(39));
        notice.give(39, 30);
        notice.pass(39);
        CHECK.due("the notice of lot 39 lapses", 0, notice.frozen(39));
        NoticeBook term = upToTheLast(true);
        CHECK.due("endOf lot 39", 40, term.endOf(39));
        CHECK.due("instruct of lot 39", NoticeBook.SPLIT, term.instruct(39, NoticeBook.ROLL));
        CHECK.due("the last two end", 2, term.pass(40));
        CHECK.due("join to lot 39", 2000 + 2, term.join(39, 38));
        CHECK.due("39 lots then", 39, term.lots());
        NoticeBook let = upToTheLast(true);
        let.pass(40);
        CHECK.due("letGo of lot 39", 1000, let.letGo(39));
        CHECK.due("39 lots", 39, let.lots());
        CHECK.refused("lot 40 of 40", Check.INDEX, () -> upToTheLast(true), b -> b.principal(40));
        CHECK.refused("lot 40 of 40", Check.INDEX, () -> upToTheLast(true), b -> b.join(39, 40));
    }
}
