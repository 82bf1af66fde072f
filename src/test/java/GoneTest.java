import java.util.function.Supplier;

/** "A lot of which the principal becomes 0 is gone; it is no lot any more": each way to go. */
public final class GoneTest {
    private static final Check CHECK = new Check("GoneTest");

    public static void main(String[] args) {
        gone("taken", GoneTest::taken);
        gone("early", GoneTest::early);
        gone("paid at its end", GoneTest::paidAtItsEnd);
        gone("let go", GoneTest::letGo);
        gone("joined", GoneTest::joined);
        noPartOfTheTotal();
        noPartOfTheBands();
        givesNoEarlyMoney();
        endsNoMore();
        leavesNothingToItsNumber();
        aCentLeftIsALot();
        goneBetweenOthers();
        CHECK.end();
    }

    /** In each book lot 0 is gone, and lot 1 is a lot by TERM of the same customer that ends on day 90. */
    private static NoticeBook taken() {
        NoticeBook book = new NoticeBook();
        book.deposit(0, 1000);
        book.depositTerm(0, 500, 90, NoticeBook.PAY);
        book.give(0, 1000);
        book.pass(32);
        book.take(0);
        return book;
    }

    private static NoticeBook early() {
        NoticeBook book = new NoticeBook();
        book.deposit(0, 1000);
        book.depositTerm(0, 500, 90, NoticeBook.PAY);
        book.pass(40);
        book.early(0, 1000);
        return book;
    }

    private static NoticeBook paidAtItsEnd() {
        NoticeBook book = new NoticeBook();
        book.depositTerm(0, 1000, 30, NoticeBook.PAY);
        book.depositTerm(0, 500, 90, NoticeBook.PAY);
        book.pass(30);
        return book;
    }

    private static NoticeBook letGo() {
        NoticeBook book = new NoticeBook();
        book.depositTerm(0, 1000, 45, NoticeBook.SPLIT);
        book.depositTerm(0, 500, 90, NoticeBook.PAY);
        book.pass(45);
        book.letGo(0);
        return book;
    }

    /** Lot 0 would be in its days of grace, and would end on the day on which lot 1 ends. */
    private static NoticeBook joined() {
        NoticeBook book = new NoticeBook();
        book.depositTerm(0, 1000, 45, NoticeBook.SPLIT);
        book.depositTerm(0, 500, 90, NoticeBook.PAY);
        book.pass(45);
        book.join(1, 0);
        return book;
    }

    private static void gone(String how, Supplier<NoticeBook> maker) {
        CHECK.due(how + ": lots", 1, maker.get().lots());
        CHECK.refused(how + ": principal", Check.INDEX, maker, b -> b.principal(0));
        CHECK.refused(how + ": earned", Check.INDEX, maker, b -> b.earned(0));
        CHECK.refused(how + ": partsOfDay", Check.INDEX, maker, b -> b.partsOfDay(0));
        CHECK.refused(how + ": frozen", Check.INDEX, maker, b -> b.frozen(0));
        CHECK.refused(how + ": endOf", Check.INDEX, maker, b -> b.endOf(0));
        CHECK.refused(how + ": give", Check.INDEX, maker, b -> b.give(0, 1));
        CHECK.refused(how + ": give nothing", Check.INDEX, maker, b -> b.give(0, 0));
        CHECK.refused(how + ": withdraw", Check.INDEX, maker, b -> b.withdraw(0));
        CHECK.refused(how + ": take", Check.INDEX, maker, b -> b.take(0));
        CHECK.refused(how + ": instruct", Check.INDEX, maker, b -> b.instruct(0, NoticeBook.PAY));
        CHECK.refused(how + ": letGo", Check.INDEX, maker, b -> b.letGo(0));
        CHECK.refused(how + ": join to it", Check.INDEX, maker, b -> b.join(0, 1));
        CHECK.refused(how + ": join it", Check.INDEX, maker, b -> b.join(1, 0));
        CHECK.refused(how + ": join it with itself", Check.INDEX, maker, b -> b.join(0, 0));
        CHECK.refused(how + ": no early money", Check.STATE, maker, b -> b.early(0, 1));
    }

    private static void noPartOfTheTotal() {
        CHECK.due("total without the lot that was taken", 0, taken().total(0));
        CHECK.due("parts without it", 0, taken().partsByTotal(0));
        CHECK.due("total without the lot that gave all", 0, early().total(0));
        CHECK.due("parts without it", 0, early().partsByTotal(0));
    }

    private static void noPartOfTheBands() {
        NoticeBook book = new NoticeBook();
        book.setByBands(true);
        book.deposit(0, 100000);
        book.deposit(0, 1000);
        CHECK.due("in the second band", 1000 * 200, book.partsOfDay(1));
        book.give(0, 100000);
        book.pass(32);
        book.take(0);
        CHECK.due("in the first band, the lot ahead is gone", 1000 * 100, book.partsOfDay(1));
    }

    private static void givesNoEarlyMoney() {
        Supplier<NoticeBook> maker = () -> {
            NoticeBook book = early();
            book.deposit(0, 200);
            return book;
        };
        CHECK.refused("more than the new lot has", Check.STATE, maker, b -> b.early(0, 201));
        CHECK.due("all that the new lot has", 200, maker.get().early(0, 200));
    }

    private static void endsNoMore() {
        NoticeBook paid = paidAtItsEnd();
        CHECK.due("only the other one ends", 1, paid.pass(60));
        NoticeBook let = letGo();
        CHECK.due("only the other one ends", 1, let.pass(45));
        NoticeBook joined = joined();
        CHECK.due("only the one that was kept ends", 1, joined.pass(45));
        NoticeBook taken = taken();
        long paidSoFar = taken.paid(0);
        long lostSoFar = taken.lost(0);
        CHECK.due("nothing ends", 0, taken.pass(57));
        CHECK.due("a lot that is gone is paid nothing more", paidSoFar, taken.paid(0));
        CHECK.due("and loses nothing more", lostSoFar, taken.lost(0));
    }

    private static void leavesNothingToItsNumber() {
        CHECK.due("the next number after one is taken", 2, taken().deposit(0, 5));
        CHECK.due("after early money", 2, early().deposit(0, 5));
        CHECK.due("after an end", 2, paidAtItsEnd().deposit(0, 5));
        CHECK.due("after one is let go", 2, letGo().deposit(0, 5));
        CHECK.due("after one is joined", 2, joined().depositTerm(0, 5, 5, NoticeBook.ROLL));
    }

    private static void aCentLeftIsALot() {
        NoticeBook book = new NoticeBook();
        book.deposit(0, 1000);
        book.give(0, 999);
        book.pass(32);
        CHECK.due("all but a cent, without interest", 999, book.take(0));
        CHECK.due("a lot", 1, book.lots());
        CHECK.due("of a cent", 1, book.principal(0));
        CHECK.due("that has earned", 32 * 100000, book.earned(0));
        NoticeBook early = new NoticeBook();
        early.deposit(0, 1000);
        early.pass(80);
        CHECK.due("all but a cent, without interest", 999, early.early(0, 999));
        CHECK.due("a lot", 1, early.lots());
        CHECK.due("of a cent", 1, early.principal(0));
        CHECK.due("that keeps what is left", 80 * 100000 - 30 * 99900, early.earned(0));
    }

    private static void goneBetweenOthers() {
        NoticeBook book = new NoticeBook();
        for (int lot = 0; lot < 40; lot++) {
            book.depositTerm(0, 10 + lot, lot == 20 ? 1 : 5, NoticeBook.PAY);
        }
        CHECK.due("one of 40 ends", 1, book.pass(1));
        CHECK.due("39 are left", 39, book.lots());
        CHECK.due("the one ahead", 29, book.principal(19));
        CHECK.due("the one behind", 31, book.principal(21));
        CHECK.due("the others end", 39, book.pass(4));
        CHECK.due("none is left", 0, book.lots());
    }
}
