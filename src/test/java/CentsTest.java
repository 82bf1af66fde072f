/**
 * "Interest is counted in parts, of which 3650000 are a cent": a part less than a cent, a cent
 * exactly, and a part more, for each way in which interest is paid or added.
 */
public final class CentsTest {
    private static final int[] PARTS = {3649999, 3650000, 3650001};
    /** 1824 cents at 2000 and these cents at these rates earn so many parts in a day. */
    private static final int[] MORE_CENTS = {1, 1, 3};
    private static final int[] RATE_OF_MORE = {1999, 2000, 667};
    private static final int[] WHOLE_CENTS = {0, 1, 1};
    private static final int[] LEFT_OVER = {3649999, 0, 1};

    private static final Check CHECK = new Check("CentsTest");

    public static void main(String[] args) {
        for (int k = 0; k < PARTS.length; k++) {
            taken(k);
            early(k);
            paidAtItsEnd(k);
            split(k);
            roll(k);
        }
        letGoWithACent();
        joinedWithACent();
        leftOverPartsMakeACentLater();
        CHECK.end();
    }

    private static int cents(int k) {
        return 1824 + MORE_CENTS[k];
    }

    /** Lot 1 is by NOTICE and has earned PARTS[k]; from then on all rates are 0. */
    private static NoticeBook notice(int k) {
        NoticeBook book = new NoticeBook();
        book.setByBands(true);
        book.setRate(0, 2000);
        book.setRate(1, RATE_OF_MORE[k]);
        book.deposit(0, 100000 - 1824);
        book.deposit(0, cents(k));
        book.pass(1);
        book.setRate(0, 0);
        book.setRate(1, 0);
        CHECK.due("earned by NOTICE", PARTS[k], book.earned(1));
        return book;
    }

    /** Lot 0 is by TERM and earns PARTS[k] until its end, which is the next day. */
    private static NoticeBook term(int k, int instruction) {
        NoticeBook book = new NoticeBook();
        book.setTermRate(2000);
        book.depositTerm(0, 1824, 1, instruction);
        book.setTermRate(RATE_OF_MORE[k]);
        book.depositTerm(0, MORE_CENTS[k], 1, instruction);
        book.join(0, 1);
        book.setTermRate(0);
        CHECK.due("parts by TERM", PARTS[k], book.partsOfDay(0));
        return book;
    }

    private static void taken(int k) {
        NoticeBook book = notice(k);
        book.give(1, cents(k));
        book.pass(32);
        CHECK.due("take pays whole cents", cents(k) + WHOLE_CENTS[k], book.take(1));
        CHECK.due("paid", cents(k) + WHOLE_CENTS[k], book.paid(0));
        CHECK.due("the rest is lost", LEFT_OVER[k], book.lost(0));
    }

    private static void early(int k) {
        NoticeBook book = notice(k);
        CHECK.due("early pays whole cents", cents(k) + WHOLE_CENTS[k], book.early(0, cents(k)));
        CHECK.due("paid", cents(k) + WHOLE_CENTS[k], book.paid(0));
        CHECK.due("the rest is lost", LEFT_OVER[k], book.lost(0));
    }

    private static void paidAtItsEnd(int k) {
        NoticeBook book = term(k, NoticeBook.PAY);
        CHECK.due("PAY", 1, book.pass(1));
        CHECK.due("PAY pays whole cents", cents(k) + WHOLE_CENTS[k], book.paid(0));
        CHECK.due("the rest is lost", LEFT_OVER[k], book.lost(0));
    }

    private static void split(int k) {
        NoticeBook book = term(k, NoticeBook.SPLIT);
        CHECK.due("SPLIT", 1, book.pass(1));
        CHECK.due("SPLIT pays whole cents", WHOLE_CENTS[k], book.paid(0));
        CHECK.due("the rest stays", LEFT_OVER[k], book.earned(0));
        CHECK.due("the principal, too", cents(k), book.principal(0));
        CHECK.due("nothing is lost", 0, book.lost(0));
    }

    private static void roll(int k) {
        NoticeBook book = term(k, NoticeBook.ROLL);
        CHECK.due("ROLL", 1, book.pass(1));
        CHECK.due("ROLL adds whole cents", cents(k) + WHOLE_CENTS[k], book.principal(0));
        CHECK.due("the rest stays", LEFT_OVER[k], book.earned(0));
        CHECK.due("nothing is paid", 0, book.paid(0));
        CHECK.due("nothing is lost", 0, book.lost(0));
    }

    private static void letGoWithACent() {
        NoticeBook book = new NoticeBook();
        book.setTermRate(0);
        book.depositTerm(0, 1825, 2, NoticeBook.SPLIT);
        book.setTermRate(2000);
        book.pass(3);
        CHECK.due("earned a cent", 3650000, book.earned(0));
        CHECK.due("let go without the cent", 1825, book.letGo(0));
        CHECK.due("paid", 1825, book.paid(0));
        CHECK.due("lost the cent", 3650000, book.lost(0));
    }

    private static void joinedWithACent() {
        NoticeBook book = new NoticeBook();
        book.setTermRate(2000);
        book.depositTerm(0, 1825, 5, NoticeBook.SPLIT);
        book.depositTerm(0, 1825, 5, NoticeBook.SPLIT);
        book.pass(1);
        CHECK.due("joined", 3650, book.join(0, 1));
        CHECK.due("a cent of each stays in parts", 7300000, book.earned(0));
        CHECK.due("nothing is paid", 0, book.paid(0));
        CHECK.due("nothing is lost", 0, book.lost(0));
    }

    private static void leftOverPartsMakeACentLater() {
        for (int instruction : new int[] {NoticeBook.SPLIT, NoticeBook.ROLL}) {
            NoticeBook book = new NoticeBook();
            book.setTermRate(1000);
            book.depositTerm(0, 1825, 1, instruction);
            book.pass(1);
            CHECK.due("half a cent stays", 1825000, book.earned(0));
            CHECK.due("and adds nothing", 1825, book.principal(0) + book.paid(0));
            book.pass(1);
            CHECK.due("two halves are none left over", 0, book.earned(0));
            CHECK.due("but a cent", 1826, book.principal(0) + book.paid(0));
            CHECK.due("nothing is lost", 0, book.lost(0));
        }
    }
}
