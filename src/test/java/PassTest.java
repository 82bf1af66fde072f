/** Promises 14, 15 and 18: days that pass. */
public final class PassTest {
    private static final Check CHECK = new Check("PassTest");

    public static void main(String[] args) {
        days();
        oneAfterTheOther();
        earnsBeforeItEnds();
        lastDay();
        refused();
        longest();
        allThatCanEnd();
        upToTheLastDay();
        manyCalls();
        noticesLapseAndLotsEndInOneDay();
        CHECK.end();
    }

    private static void days() {
        NoticeBook book = new NoticeBook();
        CHECK.due("no lots end", 0, book.pass(1));
        CHECK.due("today", 1, book.today());
        CHECK.due("the most at once", 0, book.pass(100));
        CHECK.due("today", 101, book.today());
        CHECK.due("looking changes nothing", 101, book.today());
    }

    private static void oneAfterTheOther() {
        NoticeBook atOnce = made();
        NoticeBook byDay = made();
        int ends = 0;
        for (int day = 0; day < 45; day++) {
            ends += byDay.pass(1);
        }
        CHECK.due("ends", 22 + 15 + 1, ends);
        CHECK.due("ends at once", ends, atOnce.pass(45));
        CHECK.due("today", 45, atOnce.today());
        for (int lot = 0; lot < 3; lot++) {
            CHECK.due("principal", byDay.principal(lot), atOnce.principal(lot));
            CHECK.due("earned", byDay.earned(lot), atOnce.earned(lot));
            CHECK.due("parts", byDay.partsOfDay(lot), atOnce.partsOfDay(lot));
            CHECK.due("frozen", byDay.frozen(lot), atOnce.frozen(lot));
            CHECK.due("end", byDay.endOf(lot), atOnce.endOf(lot));
        }
        CHECK.due("paid", byDay.paid(0), atOnce.paid(0));
        CHECK.due("lost", byDay.lost(0), atOnce.lost(0));
        CHECK.due("notice lots earn daily", 45L * 300000 * 200, atOnce.earned(2));
    }

    private static NoticeBook made() {
        NoticeBook book = new NoticeBook();
        book.depositTerm(0, 9876543, 2, NoticeBook.ROLL);
        book.depositTerm(0, 9876543, 3, NoticeBook.SPLIT);
        book.deposit(0, 300000);
        book.depositTerm(0, 9876543, 20, NoticeBook.PAY);
        book.give(2, 5);
        return book;
    }

    private static void earnsBeforeItEnds() {
        NoticeBook book = new NoticeBook();
        book.depositTerm(0, 14600, 1, NoticeBook.SPLIT);
        book.setTermRate(0);
        book.pass(1);
        CHECK.due("the last day is earned by the old parts", 1, book.paid(0));
        book.pass(1);
        CHECK.due("the next by the new ones", 1, book.paid(0));
        CHECK.due("earned", 0, book.earned(0));
    }

    private static NoticeBook at(int day) {
        NoticeBook book = new NoticeBook();
        book.deposit(0, 10);
        book.depositTerm(0, 10, 50, NoticeBook.ROLL);
        Check.passTo(book, day);
        return book;
    }

    private static void lastDay() {
        NoticeBook book = at(2999);
        CHECK.due("one more day", 1, book.pass(1));
        CHECK.due("the last day", 3000, book.today());
        CHECK.due("earned all the days", 3000 * 1000, book.earned(0));
        CHECK.due("100 days up to the last", 2, at(2900).pass(100));
        CHECK.due("an end beyond the last day", 3400, book.endOf(book.depositTerm(0, 1, 400, 0)));
    }

    private static void refused() {
        for (int days : new int[] {0, -1, 101, Integer.MIN_VALUE, Integer.MAX_VALUE}) {
            CHECK.refused("pass(" + days + ")", Check.ARGUMENT, () -> at(3), b -> b.pass(days));
            CHECK.refused("pass(" + days + ") at the end", Check.ARGUMENT, () -> at(3000),
                    b -> b.pass(days));
        }
        CHECK.refused("beyond the last day", Check.STATE, () -> at(3000), b -> b.pass(1));
        CHECK.refused("beyond the last day", Check.STATE, () -> at(2999), b -> b.pass(2));
        CHECK.refused("beyond the last day", Check.STATE, () -> at(2901), b -> b.pass(100));
        CHECK.refused("beyond the last day", Check.STATE, () -> at(2925), b -> b.pass(76));
    }

    private static void longest() {
        NoticeBook book = new NoticeBook();
        book.setTermRate(2000);
        for (int lot = 0; lot < 10; lot++) {
            book.depositTerm(0, 10000000, 1, NoticeBook.ROLL);
        }
        for (int lot = 1; lot < 10; lot++) {
            book.join(0, lot);
        }
        long principal = 100000000;
        long left = 0;
        for (int block = 0; block < 30; block++) {
            CHECK.due("an end a day", 100, book.pass(100));
            for (int day = 0; day < 100; day++) {
                left += principal * 2000;
                principal += left / 3650000;
                left %= 3650000;
            }
        }
        CHECK.due("principal after 3000 days", principal, book.principal(0));
        CHECK.due("left over after 3000 days", left, book.earned(0));
        CHECK.due("parts after 3000 days", principal * 2000, book.partsOfDay(0));
    }

    private static void allThatCanEnd() {
        NoticeBook book = new NoticeBook();
        for (int lot = 0; lot < 40; lot++) {
            book.depositTerm(lot % 4, 1, 1, NoticeBook.ROLL);
        }
        CHECK.due("40 lots a day", 40 * 100, book.pass(100));
        CHECK.due("40 lots", 40, book.lots());
        for (int lot = 0; lot < 40; lot++) {
            book.instruct(lot, NoticeBook.PAY);
        }
        CHECK.due("40 lots once", 40, book.pass(100));
        CHECK.due("no lots", 0, book.lots());
        CHECK.due("none is left to end", 0, book.pass(100));
    }

    private static void upToTheLastDay() {
        for (int days = 1; days <= 100; days += 33) {
            NoticeBook book = at(3000 - days);
            book.pass(days);
            CHECK.due("the last day by " + days, 3000, book.today());
            int oneMore = days;
            if (days > 1) {
                CHECK.refused("the day behind it by " + days, Check.STATE, () -> at(3001 - oneMore),
                        b -> b.pass(oneMore));
            }
        }
        NoticeBook book = at(3000);
        CHECK.due("a deposit on the last day", 2, book.deposit(1, 5));
        CHECK.due("early money on the last day", 5, book.early(1, 5));
    }

    /** "An object is used for at most 512 calls": the last of them answers as the first. */
    private static void manyCalls() {
        NoticeBook book = new NoticeBook();
        book.deposit(0, 1000);
        for (int k = 0; k < 255; k++) {
            book.give(0, 1 + k);
            CHECK.due("withdrawn", 1 + k, book.withdraw(0));
        }
        CHECK.due("the 512th call", 1, book.deposit(0, 5));
    }

    private static void noticesLapseAndLotsEndInOneDay() {
        NoticeBook book = new NoticeBook();
        book.depositTerm(0, 14600, 39, NoticeBook.SPLIT);
        book.deposit(0, 1000);
        book.depositTerm(0, 14600, 39, NoticeBook.PAY);
        book.give(1, 1000);
        CHECK.due("none ends", 0, book.pass(38));
        CHECK.due("frozen", 1000, book.frozen(1));
        CHECK.due("nothing paid", 0, book.paid(0));
        CHECK.due("two end", 2, book.pass(1));
        CHECK.due("not frozen", 0, book.frozen(1));
        CHECK.due("paid both", 39 + 14600 + 39, book.paid(0));
        CHECK.due("the frozen one earned this day, too", 39 * 100000, book.earned(1));
    }
}
