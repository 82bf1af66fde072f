/** Promises 7, 8, 9 and 20: notices. */
public final class NoticesTest {
    private static final Check CHECK = new Check("NoticesTest");

    public static void main(String[] args) {
        firstDayToTake();
        lastDayToTake();
        lapses();
        aPartIsTaken();
        allIsTaken();
        whatEarlyMoneyLeft();
        withdrawn();
        severalLots();
        giveRefused();
        withdrawRefused();
        takeRefused();
        nearTheLastDay();
        eachDayToTake();
        fewestAndMostCents();
        noMoreThanIsLeft();
        frozenUntilItLapses();
        lapsesOnTheLastDay();
        CHECK.end();
    }

    /** Lot 0 with a notice of 400 of 1000 cents since day 5; lot 1 by TERM; lot 2 without a notice. */
    private static NoticeBook noticed() {
        NoticeBook book = new NoticeBook();
        book.deposit(0, 1000);
        book.depositTerm(0, 1000, 90, NoticeBook.PAY);
        book.deposit(1, 10);
        book.pass(5);
        book.give(0, 400);
        return book;
    }

    private static NoticeBook noticedFor(int days) {
        NoticeBook book = noticed();
        book.pass(days);
        return book;
    }

    private static void firstDayToTake() {
        NoticeBook book = new NoticeBook();
        book.deposit(0, 1000);
        book.pass(5);
        CHECK.due("give", 37, book.give(0, 400));
        CHECK.due("frozen", 400, book.frozen(0));
        CHECK.due("principal stays", 1000, book.principal(0));
        book.pass(31);
        CHECK.refused("take a day too soon", Check.STATE, () -> noticedFor(31), b -> b.take(0));
        CHECK.refused("take at once", Check.STATE, NoticesTest::noticed, b -> b.take(0));
        book.pass(1);
        CHECK.due("take on the first day", 400, book.take(0));
        CHECK.due("principal then", 600, book.principal(0));
        CHECK.due("not frozen then", 0, book.frozen(0));
    }

    private static void lastDayToTake() {
        NoticeBook book = noticedFor(38);
        CHECK.due("frozen on the last day", 400, book.frozen(0));
        CHECK.due("take on the last day", 400, book.take(0));
        CHECK.due("paid", 400, book.paid(0));
    }

    private static void lapses() {
        NoticeBook book = noticedFor(39);
        CHECK.due("lapsed", 0, book.frozen(0));
        CHECK.due("principal after it lapsed", 1000, book.principal(0));
        CHECK.refused("take when it has lapsed", Check.STATE, () -> noticedFor(39), b -> b.take(0));
        CHECK.refused("withdraw when it has lapsed", Check.STATE, () -> noticedFor(39), b -> b.withdraw(0));
        CHECK.due("all can be taken early again", 1000, book.early(0, 1000));
        NoticeBook again = noticedFor(39);
        CHECK.due("a notice anew", 5 + 39 + 32, again.give(0, 1));
        again.pass(38);
        CHECK.due("is frozen as long", 1, again.frozen(0));
        again.pass(1);
        CHECK.due("and lapses", 0, again.frozen(0));
        NoticeBook atOnce = noticedFor(100);
        CHECK.due("lapsed in the midst of days", 0, atOnce.frozen(0));
    }

    private static void aPartIsTaken() {
        NoticeBook book = noticedFor(32);
        CHECK.due("take", 400, book.take(0));
        CHECK.due("interest stays", 37 * 100000, book.earned(0));
        CHECK.due("paid the part alone", 400, book.paid(0));
        CHECK.due("nothing lost", 0, book.lost(0));
        CHECK.due("parts of a day then", 60000, book.partsOfDay(0));
        CHECK.due("total then", 600, book.total(0));
        CHECK.due("lots", 3, book.lots());
        CHECK.due("another notice", 69, book.give(0, 600));
    }

    private static void allIsTaken() {
        NoticeBook book = new NoticeBook();
        book.deposit(2, 1000);
        CHECK.due("give all", 32, book.give(0, 1000));
        book.pass(37);
        CHECK.due("frozen parts earn, too", 3700000, book.earned(0));
        CHECK.due("take all", 1001, book.take(0));
        CHECK.due("gone", 0, book.lots());
        CHECK.due("paid", 1001, book.paid(2));
        CHECK.due("lost what was left over", 50000, book.lost(2));
        CHECK.due("no total", 0, book.total(2));
        CHECK.due("nobody else paid", 0, book.paid(0));
        NoticeBook exact = new NoticeBook();
        exact.setRate(0, 2000);
        exact.deposit(0, 73);
        exact.pass(25);
        exact.give(0, 73);
        exact.setRate(0, 0);
        exact.pass(32);
        CHECK.due("a whole cent exactly", 74, exact.take(0));
        CHECK.due("loses nothing", 0, exact.lost(0));
    }

    private static void whatEarlyMoneyLeft() {
        NoticeBook book = noticed();
        CHECK.due("early takes what is not frozen", 600, book.early(0, 600));
        CHECK.due("the frozen part stays", 400, book.principal(0));
        CHECK.due("frozen", 400, book.frozen(0));
        book.pass(32);
        CHECK.due("take the rest", 400, book.take(0));
        CHECK.due("gone", 2, book.lots());
        CHECK.due("paid both", 1000, book.paid(0));
    }

    private static void withdrawn() {
        NoticeBook book = noticed();
        CHECK.due("withdraw", 400, book.withdraw(0));
        CHECK.due("not frozen", 0, book.frozen(0));
        CHECK.due("principal stays", 1000, book.principal(0));
        CHECK.due("nothing paid", 0, book.paid(0));
        CHECK.due("a notice again", 37, book.give(0, 1000));
        NoticeBook last = noticedFor(38);
        CHECK.due("withdraw on the last day", 400, last.withdraw(0));
        NoticeBook later = noticedFor(20);
        later.withdraw(0);
        CHECK.due("a later notice", 57, later.give(0, 5));
        later.pass(19);
        CHECK.due("does not lapse with the first", 5, later.frozen(0));
        CHECK.refused("take of a withdrawn notice", Check.STATE, () -> {
            NoticeBook b = noticedFor(32);
            b.withdraw(0);
            return b;
        }, b -> b.take(0));
    }

    private static void severalLots() {
        NoticeBook book = new NoticeBook();
        book.deposit(0, 100);
        book.deposit(0, 200);
        book.give(1, 200);
        book.pass(1);
        CHECK.due("each lot its notice", 33, book.give(0, 50));
        book.pass(31);
        CHECK.due("the first given", 200, book.take(1));
        book.pass(7);
        CHECK.due("the other on its last day", 50, book.take(0));
        CHECK.due("rest", 50, book.principal(0));
    }

    private static void giveRefused() {
        for (int cents : new int[] {0, -1, 11, Integer.MIN_VALUE, Integer.MAX_VALUE}) {
            CHECK.refused("give(2, " + cents + ")", Check.ARGUMENT, NoticesTest::noticed,
                    b -> b.give(2, cents));
        }
        CHECK.refused("give more than a lot by TERM has", Check.ARGUMENT, NoticesTest::noticed,
                b -> b.give(1, 1001));
        CHECK.refused("give a second notice, cents wrong", Check.ARGUMENT, NoticesTest::noticed,
                b -> b.give(0, 1001));
        CHECK.refused("give by TERM", Check.STATE, NoticesTest::noticed, b -> b.give(1, 1000));
        CHECK.refused("give a second notice", Check.STATE, NoticesTest::noticed, b -> b.give(0, 1));
        CHECK.refused("give when it can be taken", Check.STATE, () -> noticedFor(38), b -> b.give(0, 1));
        NoticeBook book = noticed();
        CHECK.due("give all of a lot", 37, book.give(2, 10));
        CHECK.due("frozen", 10, book.frozen(2));
    }

    private static void withdrawRefused() {
        CHECK.refused("withdraw without a notice", Check.STATE, NoticesTest::noticed, b -> b.withdraw(2));
        CHECK.refused("withdraw by TERM", Check.STATE, NoticesTest::noticed, b -> b.withdraw(1));
        CHECK.refused("withdraw twice", Check.STATE, () -> {
            NoticeBook b = noticed();
            b.withdraw(0);
            return b;
        }, b -> b.withdraw(0));
    }

    private static void takeRefused() {
        CHECK.refused("take without a notice", Check.STATE, () -> noticedFor(50), b -> b.take(2));
        CHECK.refused("take by TERM", Check.STATE, () -> noticedFor(50), b -> b.take(1));
        CHECK.refused("take twice", Check.STATE, () -> {
            NoticeBook b = noticedFor(32);
            b.take(0);
            return b;
        }, b -> b.take(0));
        CHECK.refused("take of a lot that is gone", Check.INDEX, () -> {
            NoticeBook b = new NoticeBook();
            b.deposit(0, 5);
            b.give(0, 5);
            b.pass(33);
            b.take(0);
            return b;
        }, b -> b.take(0));
    }

    private static void nearTheLastDay() {
        NoticeBook book = new NoticeBook();
        book.deposit(0, 5);
        for (int k = 0; k < 30; k++) {
            book.pass(100);
        }
        CHECK.due("a notice on the last day", 3032, book.give(0, 5));
        CHECK.due("withdrawn again", 5, book.withdraw(0));
    }

    private static void eachDayToTake() {
        for (int days = 1; days <= 40; days++) {
            int later = days;
            if (days < 32 || days > 38) {
                CHECK.refused("take after " + days, Check.STATE, () -> noticedFor(later), b -> b.take(0));
            } else {
                CHECK.due("take after " + days, 400, noticedFor(days).take(0));
            }
            if (days <= 38) {
                CHECK.due("withdraw after " + days, 400, noticedFor(days).withdraw(0));
                CHECK.refused("give after " + days, Check.STATE, () -> noticedFor(later), b -> b.give(0, 1));
            } else {
                CHECK.refused("withdraw after " + days, Check.STATE, () -> noticedFor(later),
                        b -> b.withdraw(0));
                CHECK.due("give after " + days, 5 + days + 32, noticedFor(days).give(0, 1));
            }
        }
    }

    private static NoticeBook oneCentNoticed() {
        NoticeBook book = new NoticeBook();
        book.deposit(0, 10000000);
        book.give(0, 1);
        book.pass(32);
        return book;
    }

    private static void fewestAndMostCents() {
        CHECK.due("a cent is frozen", 1, oneCentNoticed().frozen(0));
        CHECK.refused("a notice of a cent is one", Check.STATE, NoticesTest::oneCentNoticed, b -> b.give(0, 1));
        CHECK.due("it can be withdrawn", 1, oneCentNoticed().withdraw(0));
        CHECK.due("it can be taken", 1, oneCentNoticed().take(0));
        CHECK.due("all but a cent is not frozen", 9999999, oneCentNoticed().early(0, 9999999));
        CHECK.refused("the cent is", Check.STATE, NoticesTest::oneCentNoticed, b -> b.early(0, 10000000));
        NoticeBook most = new NoticeBook();
        most.setRate(2, 0);
        most.deposit(0, 10000000);
        CHECK.refused("a cent more than there is", Check.ARGUMENT, () -> {
            NoticeBook b = new NoticeBook();
            b.deposit(0, 10000000);
            return b;
        }, b -> b.give(0, 10000001));
        CHECK.due("all of the largest lot", 32, most.give(0, 10000000));
        CHECK.due("is frozen", 10000000, most.frozen(0));
        most.pass(32);
        CHECK.due("and taken", 10000000, most.take(0));
    }

    /** Of 1000 cents 100 were taken early, and 200 by a notice. */
    private static NoticeBook sevenHundredLeft() {
        NoticeBook book = new NoticeBook();
        book.deposit(0, 1000);
        book.early(0, 100);
        book.give(0, 200);
        book.pass(32);
        book.take(0);
        return book;
    }

    private static void noMoreThanIsLeft() {
        CHECK.refused("more than is left", Check.ARGUMENT, NoticesTest::sevenHundredLeft, b -> b.give(0, 701));
        CHECK.due("all that is left", 64, sevenHundredLeft().give(0, 700));
    }

    private static void frozenUntilItLapses() {
        CHECK.refused("frozen on the last day to take", Check.STATE, () -> noticedFor(38),
                b -> b.early(0, 601));
        CHECK.due("what is not frozen on that day", 600, noticedFor(38).early(0, 600));
        CHECK.due("not frozen a day later", 601, noticedFor(39).early(0, 601));
        CHECK.refused("frozen on the first day, too", Check.STATE, NoticesTest::noticed, b -> b.early(0, 601));
        NoticeBook withdrawn = noticed();
        withdrawn.withdraw(0);
        CHECK.due("not frozen once it is withdrawn", 601, withdrawn.early(0, 601));
    }

    private static NoticeBook noticedOnDay(int day, int passTo) {
        NoticeBook book = new NoticeBook();
        book.deposit(0, 5);
        Check.passTo(book, day);
        book.give(0, 2);
        book.pass(passTo - day);
        return book;
    }

    private static void lapsesOnTheLastDay() {
        CHECK.due("it lapses when the last day begins", 0, noticedOnDay(2961, 3000).frozen(0));
        CHECK.due("it does not when it can be taken still", 2, noticedOnDay(2962, 3000).frozen(0));
        CHECK.due("it can", 2, noticedOnDay(2962, 3000).take(0));
        CHECK.due("the last that can be taken at all", 2, noticedOnDay(2968, 3000).take(0));
        CHECK.refused("the first that cannot", Check.STATE, () -> noticedOnDay(2969, 3000), b -> b.take(0));
    }
}
