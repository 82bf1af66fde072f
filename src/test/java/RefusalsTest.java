import java.util.function.Consumer;
import java.util.function.Supplier;

/**
 * "If several exceptions of a throws clause apply, the one that is listed first is thrown. A call
 * that throws an exception changes nothing": each two, and all three, that can apply at once; and
 * what each call answers when there is nothing yet, and when there is all that can be.
 */
public final class RefusalsTest {
    private static final int MIN = Integer.MIN_VALUE;
    private static final int MAX = Integer.MAX_VALUE;
    private static final Check CHECK = new Check("RefusalsTest");

    public static void main(String[] args) {
        nothingYet();
        rates();
        deposits();
        termDeposits();
        notices();
        earlyMoney();
        instructions();
        joins();
        days();
        graceOutlivesRefusals();
        CHECK.end();
    }

    private static void index(String what, Supplier<NoticeBook> maker, Consumer<NoticeBook> call) {
        CHECK.refused(what, Check.INDEX, maker, call);
    }

    private static void argument(String what, Supplier<NoticeBook> maker, Consumer<NoticeBook> call) {
        CHECK.refused(what, Check.ARGUMENT, maker, call);
    }

    private static void state(String what, Supplier<NoticeBook> maker, Consumer<NoticeBook> call) {
        CHECK.refused(what, Check.STATE, maker, call);
    }

    private static void nothingYet() {
        Supplier<NoticeBook> empty = NoticeBook::new;
        for (int lot : new int[] {0, 1, 39}) {
            index("principal, no lots", empty, b -> b.principal(lot));
            index("earned, no lots", empty, b -> b.earned(lot));
            index("partsOfDay, no lots", empty, b -> b.partsOfDay(lot));
            index("frozen, no lots", empty, b -> b.frozen(lot));
            index("endOf, no lots", empty, b -> b.endOf(lot));
            index("give, no lots", empty, b -> b.give(lot, 1));
            index("withdraw, no lots", empty, b -> b.withdraw(lot));
            index("take, no lots", empty, b -> b.take(lot));
            index("instruct, no lots", empty, b -> b.instruct(lot, NoticeBook.PAY));
            index("letGo, no lots", empty, b -> b.letGo(lot));
            index("join, no lots", empty, b -> b.join(lot, lot + 1));
            index("join of one, no lots", empty, b -> b.join(lot, lot));
        }
        for (int customer = 0; customer < 4; customer++) {
            int number = customer;
            state("early, no lots", empty, b -> b.early(number, 1));
            argument("early, no lots and no cents", empty, b -> b.early(number, 0));
            argument("early, no lots and too many cents", empty, b -> b.early(number, 100000001));
        }
        NoticeBook book = new NoticeBook();
        CHECK.due("no lots end", 0, book.pass(100));
        CHECK.due("no lots", 0, book.lots());
    }

    private static NoticeBook someLots() {
        NoticeBook book = new NoticeBook();
        book.deposit(0, 700000);
        book.depositTerm(0, 700000, 90, NoticeBook.ROLL);
        book.deposit(1, 50);
        book.give(2, 20);
        book.pass(3);
        return book;
    }

    private static void rates() {
        for (int band : new int[] {-1, 3, MIN, MAX}) {
            for (int rate : new int[] {-1, 2001, MIN, MAX}) {
                index("no band, no rate", RefusalsTest::someLots, b -> b.setRate(band, rate));
            }
        }
    }

    /** 40 lots: by NOTICE 0, by TERM 1, then as many as fit; of customer 0 all but the last. */
    private static NoticeBook full() {
        NoticeBook book = new NoticeBook();
        book.deposit(0, 1000);
        book.depositTerm(0, 1000, 50, NoticeBook.SPLIT);
        for (int lot = 2; lot < 39; lot++) {
            book.deposit(0, lot);
        }
        book.depositTerm(1, 1000, 60, NoticeBook.PAY);
        book.pass(1);
        return book;
    }

    private static void deposits() {
        for (int customer : new int[] {-1, 4}) {
            for (int cents : new int[] {0, 10000001}) {
                index("no customer, no cents", RefusalsTest::someLots, b -> b.deposit(customer, cents));
                index("no customer, no cents, full", RefusalsTest::full, b -> b.deposit(customer, cents));
            }
            index("no customer, full", RefusalsTest::full, b -> b.deposit(customer, 1));
        }
        for (int cents : new int[] {0, -1, 10000001, MIN, MAX}) {
            argument("no cents, full", RefusalsTest::full, b -> b.deposit(0, cents));
        }
        state("full, the fewest cents", RefusalsTest::full, b -> b.deposit(0, 1));
        state("full, the most cents", RefusalsTest::full, b -> b.deposit(3, 10000000));
    }

    private static void termDeposits() {
        int[][] wrong = {{0, 5, 0}, {10000001, 5, 0}, {MIN, 5, 0}, {MAX, 5, 0}, {5, 0, 0}, {5, 401, 0},
            {5, MIN, 0}, {5, MAX, 0}, {5, 5, -1}, {5, 5, 3}, {5, 5, MIN}, {5, 5, MAX}, {0, 0, 3}};
        for (int[] w : wrong) {
            for (int customer : new int[] {-1, 4}) {
                index("no customer and more", RefusalsTest::someLots,
                        b -> b.depositTerm(customer, w[0], w[1], w[2]));
                index("no customer and more, full", RefusalsTest::full,
                        b -> b.depositTerm(customer, w[0], w[1], w[2]));
            }
            argument("out of range", RefusalsTest::someLots, b -> b.depositTerm(3, w[0], w[1], w[2]));
            argument("out of range, full", RefusalsTest::full, b -> b.depositTerm(3, w[0], w[1], w[2]));
        }
        index("no customer, full", RefusalsTest::full, b -> b.depositTerm(4, 5, 5, NoticeBook.PAY));
        state("full, the least", RefusalsTest::full, b -> b.depositTerm(0, 1, 1, NoticeBook.PAY));
        state("full, the most", RefusalsTest::full,
                b -> b.depositTerm(3, 10000000, 400, NoticeBook.ROLL));
    }

    private static void notices() {
        for (int cents : new int[] {0, -1, MIN, MAX}) {
            index("no lot, no cents", RefusalsTest::someLots, b -> b.give(3, cents));
            argument("by TERM, no cents", RefusalsTest::someLots, b -> b.give(1, cents));
            argument("with a notice, no cents", RefusalsTest::someLots, b -> b.give(2, cents));
        }
        argument("by TERM, a cent too many", RefusalsTest::someLots, b -> b.give(1, 700001));
        argument("with a notice, a cent too many", RefusalsTest::someLots, b -> b.give(2, 51));
        state("by TERM, a cent", RefusalsTest::someLots, b -> b.give(1, 1));
        state("by TERM, all", RefusalsTest::someLots, b -> b.give(1, 700000));
        state("with a notice, a cent", RefusalsTest::someLots, b -> b.give(2, 1));
        state("with a notice, as much again", RefusalsTest::someLots, b -> b.give(2, 20));
        state("with a notice, what is not frozen", RefusalsTest::someLots, b -> b.give(2, 30));
        state("with a notice, all", RefusalsTest::someLots, b -> b.give(2, 50));
    }

    private static NoticeBook rich() {
        NoticeBook book = new NoticeBook();
        for (int lot = 0; lot < 11; lot++) {
            book.deposit(0, 10000000);
        }
        book.pass(1);
        return book;
    }

    private static void earlyMoney() {
        for (int customer : new int[] {-1, 4}) {
            for (int cents : new int[] {0, 100000001, MIN, MAX}) {
                index("no customer, no cents", RefusalsTest::someLots, b -> b.early(customer, cents));
            }
            index("no customer, and so less", RefusalsTest::someLots, b -> b.early(customer, 100000000));
        }
        for (int cents : new int[] {0, -1, 100000001, MIN, MAX}) {
            argument("no cents, of less", RefusalsTest::someLots, b -> b.early(1, cents));
            argument("no cents, of none", RefusalsTest::someLots, b -> b.early(3, cents));
            argument("no cents, of more", RefusalsTest::rich, b -> b.early(0, cents));
        }
        state("a cent more than is not frozen", RefusalsTest::someLots, b -> b.early(1, 31));
        state("all, with the frozen cents", RefusalsTest::someLots, b -> b.early(1, 50));
        state("terms do not help", RefusalsTest::someLots, b -> b.early(0, 700001));
        state("others do not help", RefusalsTest::rich, b -> b.early(1, 1));
        CHECK.due("all that is not frozen", 30, someLots().early(1, 30));
    }

    private static void instructions() {
        for (int instruction : new int[] {-1, 3, MIN, MAX}) {
            index("no lot, no instruction", RefusalsTest::someLots, b -> b.instruct(3, instruction));
            argument("by NOTICE, no instruction", RefusalsTest::someLots, b -> b.instruct(0, instruction));
            argument("by TERM, no instruction", RefusalsTest::someLots, b -> b.instruct(1, instruction));
        }
    }

    private static void joins() {
        for (int none : new int[] {-1, 3, 40, MIN, MAX}) {
            index("no lot with itself", RefusalsTest::someLots, b -> b.join(none, none));
            index("by NOTICE, with no lot", RefusalsTest::someLots, b -> b.join(0, none));
            index("no lot, with one by NOTICE", RefusalsTest::someLots, b -> b.join(none, 0));
            index("by TERM, with no lot", RefusalsTest::someLots, b -> b.join(1, none));
            index("no lot, with one by TERM", RefusalsTest::someLots, b -> b.join(none, 1));
        }
        argument("by NOTICE with itself", RefusalsTest::someLots, b -> b.join(0, 0));
        argument("by TERM with itself", RefusalsTest::someLots, b -> b.join(1, 1));
        argument("with itself, twice too much", () -> {
            NoticeBook book = new NoticeBook();
            for (int lot = 0; lot < 6; lot++) {
                book.depositTerm(0, 10000000, 90, NoticeBook.SPLIT);
            }
            for (int lot = 1; lot < 6; lot++) {
                book.join(0, lot);
            }
            return book;
        }, b -> b.join(0, 0));
    }

    private static NoticeBook at(int day) {
        NoticeBook book = someLots();
        Check.passTo(book, day);
        return book;
    }

    private static void days() {
        for (int days : new int[] {0, -1, 101, MIN, MAX}) {
            argument("no days, on the last day", () -> at(3000), b -> b.pass(days));
            argument("no days, shortly before it", () -> at(2999), b -> b.pass(days));
        }
        state("the most days, on the last day", () -> at(3000), b -> b.pass(100));
    }

    /** Both lots by TERM are in their days of grace; 1 by NOTICE, 2 ends later, 3 is another customer's. */
    private static NoticeBook inGrace() {
        NoticeBook book = new NoticeBook();
        book.depositTerm(0, 5000, 40, NoticeBook.SPLIT);
        book.deposit(0, 600);
        book.depositTerm(0, 5000, 41, NoticeBook.SPLIT);
        book.depositTerm(1, 5000, 40, NoticeBook.SPLIT);
        book.pass(42);
        return book;
    }

    /** Check.refused lets all lots go that can go, before and after: a grace that was lost is seen. */
    private static void graceOutlivesRefusals() {
        CHECK.due("lot 0 is in its days of grace", 5000, inGrace().letGo(0));
        CHECK.due("lot 2, too", 5000, inGrace().letGo(2));
        CHECK.due("lot 3, too", 5000, inGrace().letGo(3));
        state("other ends", RefusalsTest::inGrace, b -> b.join(0, 2));
        state("other ends", RefusalsTest::inGrace, b -> b.join(2, 0));
        state("other customers", RefusalsTest::inGrace, b -> b.join(0, 3));
        state("other customers", RefusalsTest::inGrace, b -> b.join(3, 0));
        state("by NOTICE", RefusalsTest::inGrace, b -> b.join(0, 1));
        state("by NOTICE", RefusalsTest::inGrace, b -> b.join(1, 0));
        argument("with itself", RefusalsTest::inGrace, b -> b.join(0, 0));
        index("with none", RefusalsTest::inGrace, b -> b.join(0, 4));
        argument("no instruction", RefusalsTest::inGrace, b -> b.instruct(0, 3));
        state("letGo by NOTICE", RefusalsTest::inGrace, b -> b.letGo(1));
    }
}
