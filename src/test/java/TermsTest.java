/** Promises 6, 11, 12, 13 and 21: terms, their ends, days of grace, and lots that are joined. */
public final class TermsTest {
    private static final int PAY = NoticeBook.PAY;
    private static final int SPLIT = NoticeBook.SPLIT;
    private static final int ROLL = NoticeBook.ROLL;
    private static final Check CHECK = new Check("TermsTest");

    public static void main(String[] args) {
        pay();
        split();
        roll();
        endsAgainAndAgain();
        instruct();
        instructRefused();
        grace();
        noGrace();
        letGoRefused();
        join();
        joinedLotsEarnTheSame();
        joinEndsGrace();
        joinRefused();
        joinLimit();
        instructOnTheLastDay();
        rangesOfDays();
        graceOfShortestAndLongest();
        graceOnTheLastDay();
        joinedKeepsWhatIsItsOwn();
        joinedBeginsANewTerm();
        joinOnTheEdges();
        rateOfTermsBounds();
        CHECK.end();
    }

    /** 1460000 cents at 250 earn 365000000 parts a day: 100 cents. */
    private static NoticeBook term(int days, int instruction) {
        NoticeBook book = new NoticeBook();
        book.depositTerm(0, 1460000, days, instruction);
        return book;
    }

    private static NoticeBook passed(NoticeBook book, int days) {
        book.pass(days);
        return book;
    }

    private static void pay() {
        NoticeBook book = term(10, PAY);
        CHECK.due("nothing ends yet", 0, book.pass(9));
        CHECK.due("earned", 9 * 365000000L, book.earned(0));
        CHECK.due("nothing is paid yet", 0, book.paid(0));
        CHECK.due("it ends", 1, book.pass(1));
        CHECK.due("all is paid", 1461000, book.paid(0));
        CHECK.due("gone", 0, book.lots());
        CHECK.due("nothing lost", 0, book.lost(0));
        NoticeBook rest = new NoticeBook();
        rest.depositTerm(2, 20000, 1, PAY);
        rest.pass(1);
        CHECK.due("whole cents are paid", 20001, rest.paid(2));
        CHECK.due("parts left over are lost", 5000000 - 3650000, rest.lost(2));
    }

    private static void split() {
        NoticeBook book = new NoticeBook();
        book.pass(3);
        book.depositTerm(1, 20000, 2, SPLIT);
        book.setTermRate(300);
        CHECK.due("it ends", 1, book.pass(2));
        CHECK.due("interest is paid", 2, book.paid(1));
        CHECK.due("parts left over stay", 10000000 - 2 * 3650000, book.earned(0));
        CHECK.due("nothing is lost", 0, book.lost(1));
        CHECK.due("principal stays", 20000, book.principal(0));
        CHECK.due("a new term of the same length", 7, book.endOf(0));
        CHECK.due("by the rate of that day", 6000000, book.partsOfDay(0));
        CHECK.due("the lot stays", 1, book.lots());
        CHECK.due("it ends again", 1, book.pass(2));
        CHECK.due("interest with what was left over", 2 + 4, book.paid(1));
        CHECK.due("parts left over again", 2700000 + 12000000 - 4 * 3650000, book.earned(0));
    }

    private static void roll() {
        NoticeBook book = term(10, ROLL);
        book.pass(10);
        CHECK.due("interest is added", 1461000, book.principal(0));
        CHECK.due("nothing is paid", 0, book.paid(0));
        CHECK.due("nothing left over", 0, book.earned(0));
        CHECK.due("a new term", 20, book.endOf(0));
        CHECK.due("parts by the new principal", 1461000L * 250, book.partsOfDay(0));
        NoticeBook rest = new NoticeBook();
        rest.depositTerm(0, 20000, 2, ROLL);
        rest.setTermRate(2000);
        rest.pass(2);
        CHECK.due("whole cents are added", 20002, rest.principal(0));
        CHECK.due("parts left over stay", 2700000, rest.earned(0));
        CHECK.due("by the rate of that day", 20002L * 2000, rest.partsOfDay(0));
        CHECK.due("nothing lost", 0, rest.lost(0));
        CHECK.due("no total by NOTICE", 0, rest.total(0));
    }

    private static void endsAgainAndAgain() {
        NoticeBook book = new NoticeBook();
        book.depositTerm(0, 100, 1, SPLIT);
        book.depositTerm(1, 100, 3, ROLL);
        book.depositTerm(2, 100, 7, PAY);
        CHECK.due("each end counts", 7 + 2 + 1, book.pass(7));
        CHECK.due("end of the daily one", 8, book.endOf(0));
        CHECK.due("end of the other", 9, book.endOf(1));
        CHECK.due("two are left", 2, book.lots());
    }

    private static void instruct() {
        NoticeBook book = term(5, PAY);
        CHECK.due("PAY before", PAY, book.instruct(0, ROLL));
        CHECK.due("ROLL before", ROLL, book.instruct(0, SPLIT));
        CHECK.due("SPLIT before", SPLIT, book.instruct(0, SPLIT));
        CHECK.due("end stays", 5, book.endOf(0));
        book.pass(5);
        CHECK.due("the last one is done", 500, book.paid(0));
        CHECK.due("it stays for the next end", SPLIT, book.instruct(0, PAY));
        book.pass(5);
        CHECK.due("PAY is done", 1461000, book.paid(0));
    }

    private static NoticeBook noticeAndTerm() {
        NoticeBook book = new NoticeBook();
        book.deposit(0, 500);
        book.depositTerm(0, 500, 10, SPLIT);
        book.pass(3);
        return book;
    }

    private static void instructRefused() {
        for (int instruction : new int[] {-1, 3, Integer.MIN_VALUE, Integer.MAX_VALUE}) {
            CHECK.refused("instruct(1, " + instruction + ")", Check.ARGUMENT, TermsTest::noticeAndTerm,
                    b -> b.instruct(1, instruction));
            CHECK.refused("instruct(0, " + instruction + ")", Check.ARGUMENT, TermsTest::noticeAndTerm,
                    b -> b.instruct(0, instruction));
        }
        for (int instruction = PAY; instruction <= ROLL; instruction++) {
            int given = instruction;
            CHECK.refused("instruct by NOTICE", Check.STATE, TermsTest::noticeAndTerm,
                    b -> b.instruct(0, given));
        }
    }

    private static void grace() {
        for (int after = 0; after <= 6; after++) {
            NoticeBook book = term(10, ROLL);
            book.setTermRate(100);
            book.pass(10);
            if (after > 0) {
                book.pass(after);
            }
            CHECK.due("let go after " + after, 1461000, book.letGo(0));
            CHECK.due("gone", 0, book.lots());
            CHECK.due("paid the principal alone", 1461000, book.paid(0));
            CHECK.due("all earned is lost", after * 146100000L, book.lost(0));
        }
        NoticeBook split = term(10, SPLIT);
        split.pass(16);
        CHECK.due("let go after SPLIT", 1460000, split.letGo(0));
        CHECK.due("paid both", 1461000, split.paid(0));
        CHECK.due("lost six days", 6 * 365000000L, split.lost(0));
        NoticeBook rest = new NoticeBook();
        rest.depositTerm(0, 20000, 2, SPLIT);
        rest.pass(2);
        rest.letGo(0);
        CHECK.due("what was left over is lost, too", 2700000, rest.lost(0));
        NoticeBook shortTerm = term(3, ROLL);
        shortTerm.pass(100);
        CHECK.due("a short term always has days of grace", shortTerm.principal(0), shortTerm.letGo(0));
        NoticeBook changed = term(10, ROLL);
        changed.pass(10);
        changed.instruct(0, PAY);
        CHECK.due("the instruction may change meanwhile", 1461000, changed.letGo(0));
    }

    private static void noGrace() {
        CHECK.refused("a first term", Check.STATE, () -> term(10, ROLL), b -> b.letGo(0));
        CHECK.refused("a first term, later", Check.STATE, () -> passed(term(10, ROLL), 9), b -> b.letGo(0));
        CHECK.refused("seven days after ROLL", Check.STATE, () -> passed(term(10, ROLL), 17),
                b -> b.letGo(0));
        CHECK.refused("seven days after SPLIT", Check.STATE, () -> passed(term(10, SPLIT), 17),
                b -> b.letGo(0));
        CHECK.refused("the day before the next end", Check.STATE, () -> passed(term(10, SPLIT), 19),
                b -> b.letGo(0));
        NoticeBook again = passed(term(10, SPLIT), 20);
        CHECK.due("grace anew with the next term", 1460000, again.letGo(0));
    }

    private static void letGoRefused() {
        CHECK.refused("letGo by NOTICE", Check.STATE, TermsTest::noticeAndTerm, b -> b.letGo(0));
        CHECK.refused("letGo of a lot that was paid", Check.INDEX, () -> passed(term(5, PAY), 5),
                b -> b.letGo(0));
        CHECK.refused("letGo twice", Check.INDEX, () -> {
            NoticeBook b = passed(term(5, SPLIT), 5);
            b.letGo(0);
            return b;
        }, b -> b.letGo(0));
    }

    private static void join() {
        NoticeBook book = new NoticeBook();
        book.depositTerm(0, 1000, 10, ROLL);
        book.pass(4);
        book.setTermRate(500);
        book.depositTerm(0, 3000, 6, PAY);
        book.pass(2);
        CHECK.due("join", 4000, book.join(0, 1));
        CHECK.due("principal", 4000, book.principal(0));
        CHECK.due("earned", 6 * 250000 + 2 * 1500000, book.earned(0));
        CHECK.due("parts of a day", 250000 + 1500000, book.partsOfDay(0));
        CHECK.due("end", 10, book.endOf(0));
        CHECK.due("one lot", 1, book.lots());
        CHECK.due("nothing paid", 0, book.paid(0));
        CHECK.due("nothing lost", 0, book.lost(0));
        CHECK.due("instruction of the first", ROLL, book.instruct(0, ROLL));
        CHECK.due("one end", 1, book.pass(4));
        CHECK.due("length of the first", 20, book.endOf(0));
        CHECK.due("rolled together", 4003, book.principal(0));
        CHECK.due("rest of both", 4500000 + 4 * 1750000 - 3 * 3650000, book.earned(0));
        CHECK.due("a new term by one rate", 4003L * 500, book.partsOfDay(0));
        CHECK.refused("the other is gone", Check.INDEX, () -> {
            NoticeBook b = new NoticeBook();
            b.depositTerm(0, 10, 5, PAY);
            b.depositTerm(0, 10, 5, PAY);
            b.join(1, 0);
            return b;
        }, b -> b.principal(0));
        NoticeBook back = new NoticeBook();
        back.depositTerm(0, 1000, 10, ROLL);
        back.pass(4);
        back.depositTerm(0, 3000, 6, SPLIT);
        CHECK.due("the higher number can be the first", 4000, back.join(1, 0));
        CHECK.due("its instruction", SPLIT, back.instruct(1, SPLIT));
        back.pass(6);
        CHECK.due("its length", 16, back.endOf(1));
    }

    private static void joinedLotsEarnTheSame() {
        NoticeBook apart = new NoticeBook();
        NoticeBook joined = new NoticeBook();
        for (NoticeBook book : new NoticeBook[] {apart, joined}) {
            book.depositTerm(0, 12345, 30, PAY);
            book.setTermRate(777);
            book.depositTerm(0, 67890, 30, PAY);
            book.pass(11);
        }
        joined.join(0, 1);
        apart.pass(18);
        joined.pass(18);
        CHECK.due("earned the same", apart.earned(0) + apart.earned(1), joined.earned(0));
    }

    private static void joinEndsGrace() {
        CHECK.refused("no grace for the first one", Check.STATE, () -> {
            NoticeBook b = new NoticeBook();
            b.depositTerm(0, 100, 5, ROLL);
            b.depositTerm(0, 200, 5, ROLL);
            b.pass(5);
            b.join(0, 1);
            return b;
        }, b -> b.letGo(0));
        CHECK.refused("nor by the other one's grace", Check.STATE, () -> {
            NoticeBook b = new NoticeBook();
            b.depositTerm(0, 100, 5, ROLL);
            b.pass(5);
            b.depositTerm(0, 200, 5, ROLL);
            b.join(1, 0);
            return b;
        }, b -> b.letGo(1));
        NoticeBook later = new NoticeBook();
        later.depositTerm(0, 100, 5, ROLL);
        later.depositTerm(0, 200, 5, ROLL);
        later.pass(5);
        later.join(0, 1);
        later.pass(5);
        CHECK.due("grace by a later term", 300, later.letGo(0));
    }

    /** 0 and 1 can be joined; 2 ends on another day, 3 is another customer's, 4 is by NOTICE. */
    private static NoticeBook several() {
        NoticeBook book = new NoticeBook();
        book.depositTerm(0, 100, 10, PAY);
        book.depositTerm(0, 100, 10, ROLL);
        book.depositTerm(0, 100, 11, PAY);
        book.depositTerm(1, 100, 10, PAY);
        book.deposit(0, 100);
        book.deposit(0, 100);
        return book;
    }

    private static void joinRefused() {
        CHECK.refused("a lot with itself", Check.ARGUMENT, TermsTest::several, b -> b.join(0, 0));
        CHECK.refused("a lot by NOTICE with itself", Check.ARGUMENT, TermsTest::several, b -> b.join(4, 4));
        CHECK.refused("no lot with itself", Check.INDEX, TermsTest::several, b -> b.join(6, 6));
        CHECK.refused("ends on other days", Check.STATE, TermsTest::several, b -> b.join(0, 2));
        CHECK.refused("ends on other days", Check.STATE, TermsTest::several, b -> b.join(2, 0));
        CHECK.refused("other customers", Check.STATE, TermsTest::several, b -> b.join(0, 3));
        CHECK.refused("other customers", Check.STATE, TermsTest::several, b -> b.join(3, 0));
        CHECK.refused("by NOTICE to a term", Check.STATE, TermsTest::several, b -> b.join(0, 4));
        CHECK.refused("a term to a lot by NOTICE", Check.STATE, TermsTest::several, b -> b.join(4, 0));
        CHECK.refused("two lots by NOTICE", Check.STATE, TermsTest::several, b -> b.join(4, 5));
        CHECK.due("two that can be joined", 200, several().join(1, 0));
    }

    private static NoticeBook joinedUpTo(int lots, int lastCents) {
        NoticeBook book = new NoticeBook();
        for (int lot = 0; lot < lots; lot++) {
            book.depositTerm(0, 10000000, 10, ROLL);
        }
        book.depositTerm(0, lastCents, 10, ROLL);
        for (int lot = 1; lot < lots; lot++) {
            book.join(0, lot);
        }
        return book;
    }

    private static void joinLimit() {
        NoticeBook book = joinedUpTo(9, 10000000);
        CHECK.due("up to the limit", 100000000, book.join(0, 9));
        CHECK.due("parts", 25000000000L, book.partsOfDay(0));
        CHECK.refused("a cent above the limit", Check.STATE, () -> joinedUpTo(10, 1), b -> b.join(0, 10));
        CHECK.refused("the other way round", Check.STATE, () -> joinedUpTo(10, 1), b -> b.join(10, 0));
        book.setTermRate(2000);
        book.pass(10);
        long principal = 100000000 + 250000000000L / 3650000;
        CHECK.due("it may grow beyond", principal, book.principal(0));
        CHECK.due("and earn so", principal * 2000, book.partsOfDay(0));
    }

    private static void instructOnTheLastDay() {
        NoticeBook book = term(5, PAY);
        book.pass(4);
        CHECK.due("the day before the end", PAY, book.instruct(0, ROLL));
        book.pass(1);
        CHECK.due("is soon enough", 1460500, book.principal(0));
        CHECK.due("the day of the end is for the next one", ROLL, book.instruct(0, PAY));
        CHECK.due("and changes nothing yet", 0, book.paid(0));
        CHECK.due("it ends", 1, book.pass(5));
        CHECK.due("by the new instruction", 0, book.lots());
    }

    private static void rangesOfDays() {
        for (int instruction : new int[] {SPLIT, ROLL}) {
            NoticeBook shortest = term(1, instruction);
            CHECK.due("it ends each day", 3, shortest.pass(3));
            CHECK.due("the next end", 4, shortest.endOf(0));
            NoticeBook longest = term(400, instruction);
            CHECK.due("no end", 0, longest.pass(100) + longest.pass(100) + longest.pass(100) + longest.pass(99));
            CHECK.due("end of the longest", 400, longest.endOf(0));
            CHECK.due("nothing is paid a day ahead", 0, longest.paid(0));
            CHECK.due("an end", 1, longest.pass(1));
            CHECK.due("the next end", 800, longest.endOf(0));
            CHECK.due("400 days of interest", 40000,
                    instruction == SPLIT ? longest.paid(0) : longest.principal(0) - 1460000);
        }
        NoticeBook paid = passed(term(1, PAY), 1);
        CHECK.due("PAY after a day", 1460100, paid.paid(0));
    }

    private static void graceOfShortestAndLongest() {
        NoticeBook shortest = term(1, SPLIT);
        CHECK.refused("the first day", Check.STATE, () -> term(1, SPLIT), b -> b.letGo(0));
        shortest.pass(1);
        CHECK.due("the second day", 1460000, shortest.letGo(0));
        for (int length = 6; length <= 8; length++) {
            NoticeBook book = term(length, ROLL);
            book.setTermRate(0);
            book.pass(2 * length - 1);
            int days = length;
            if (length <= 7) {
                CHECK.due("all days of grace, of " + length, 1460000 + 100 * length, book.letGo(0));
            } else {
                CHECK.refused("a day without grace, of " + length, Check.STATE,
                        () -> passed(term(days, ROLL), 2 * days - 1), b -> b.letGo(0));
            }
        }
    }

    /** A lot of terms of ten days, on the day 3000; a term began as many days ago. */
    private static NoticeBook onTheLastDay(int daysAgo) {
        NoticeBook book = new NoticeBook();
        if (daysAgo > 0) {
            book.pass(10 - daysAgo);
        }
        book.depositTerm(0, 1460000, 10, SPLIT);
        Check.passTo(book, 3000);
        return book;
    }

    private static void graceOnTheLastDay() {
        CHECK.due("a term that began on that day", 1460000, onTheLastDay(0).letGo(0));
        CHECK.due("one that began six days ago", 1460000, onTheLastDay(6).letGo(0));
        CHECK.refused("one that began seven days ago", Check.STATE, () -> onTheLastDay(7), b -> b.letGo(0));
    }

    private static void joinedKeepsWhatIsItsOwn() {
        for (int kept = 0; kept < 2; kept++) {
            NoticeBook book = new NoticeBook();
            book.depositTerm(2, 1000, 10, SPLIT);
            book.pass(7);
            book.depositTerm(2, 2000, 3, ROLL);
            book.depositTerm(2, 4000, 3, PAY);
            CHECK.due("joined", 3000, book.join(kept, 1 - kept));
            CHECK.due("joined with a third", 7000, book.join(kept, 2));
            CHECK.due("one lot", 1, book.lots());
            CHECK.due("nothing is paid", 0, book.paid(2));
            CHECK.due("nothing is lost", 0, book.lost(2));
            CHECK.due("one end", 1, book.pass(3));
            CHECK.due("the length is the first one's", kept == 0 ? 20 : 13, book.endOf(kept));
            CHECK.due("the instruction is, too", kept == 0 ? SPLIT : ROLL, book.instruct(kept, PAY));
        }
    }

    /** 100 cents at 250 and 300 at 500 are joined; the terms that follow are by 1000, then by 1. */
    private static void joinedBeginsANewTerm() {
        for (int instruction : new int[] {SPLIT, ROLL}) {
            NoticeBook book = new NoticeBook();
            book.depositTerm(0, 100, 4, instruction);
            book.setTermRate(500);
            book.depositTerm(0, 300, 4, PAY);
            book.join(0, 1);
            CHECK.due("the parts of both, as they were", 25000 + 150000, book.partsOfDay(0));
            book.setTermRate(1000);
            CHECK.due("until the term ends", 175000, book.partsOfDay(0));
            CHECK.due("one end", 1, book.pass(4));
            CHECK.due("then all by one rate", 400 * 1000, book.partsOfDay(0));
            CHECK.due("what both earned stays", 4 * 175000, book.earned(0));
            book.setTermRate(1);
            book.pass(4);
            CHECK.due("and then by the next", 400, book.partsOfDay(0));
            CHECK.due("earned", 4 * 175000 + 4 * 400000, book.earned(0));
        }
    }

    private static NoticeBook joinedWithNext(int cents) {
        NoticeBook book = joinedUpTo(9, 9999999);
        book.depositTerm(0, cents, 10, ROLL);
        book.join(0, 9);
        return book;
    }

    private static void joinOnTheEdges() {
        CHECK.due("a cent below the limit", 99999999, joinedWithNext(1).principal(0));
        CHECK.due("the limit", 100000000, joinedWithNext(1).join(0, 10));
        CHECK.due("the limit, the other way round", 100000000, joinedWithNext(1).join(10, 0));
        CHECK.refused("a cent above", Check.STATE, () -> joinedWithNext(2), b -> b.join(0, 10));
        CHECK.refused("a cent above, the other way round", Check.STATE, () -> joinedWithNext(2),
                b -> b.join(10, 0));
        NoticeBook least = new NoticeBook();
        least.depositTerm(3, 1, 1, PAY);
        least.depositTerm(3, 1, 1, PAY);
        CHECK.due("the least two", 2, least.join(0, 1));
        NoticeBook lastDay = passed(several(), 9);
        CHECK.due("the day before the end", 200, lastDay.join(0, 1));
        CHECK.refused("ends a day apart", Check.STATE, () -> passed(several(), 9), b -> b.join(1, 2));
    }

    private static void rateOfTermsBounds() {
        NoticeBook book = new NoticeBook();
        book.setTermRate(0);
        book.depositTerm(0, 10000000, 10, SPLIT);
        CHECK.due("nothing at the least rate", 0, book.partsOfDay(0));
        book.setTermRate(2000);
        book.depositTerm(0, 10000000, 10, SPLIT);
        CHECK.due("at the greatest", 20000000000L, book.partsOfDay(1));
        CHECK.due("the first stays at its own", 0, book.partsOfDay(0));
        book.pass(10);
        CHECK.due("both at the rate of the new terms", 20000000000L, book.partsOfDay(0));
        CHECK.due("interest of the second alone", 200000000000L / 3650000, book.paid(0));
    }
}
