import java.util.ArrayList;
import java.util.List;
import java.util.function.Consumer;
import java.util.function.Supplier;

/** Counts the answers that are not as due; each test class makes one and ends with end(). */
final class Check {
    static final Class<? extends RuntimeException> INDEX = IndexOutOfBoundsException.class;
    static final Class<? extends RuntimeException> ARGUMENT = IllegalArgumentException.class;
    static final Class<? extends RuntimeException> STATE = IllegalStateException.class;

    private static final int CUSTOMERS = 4;
    private static final int LOTS_LOOKED_AT = 8;

    private final String name;
    private int asked = 0;
    private int wrong = 0;

    Check(String name) {
        this.name = name;
    }

    void due(String what, long want, long got) {
        asked++;
        if (want != got) {
            wrong(what + " answered " + got + ", due is " + want);
        }
    }

    void due(String what, boolean want, boolean got) {
        due(what, want ? 1 : 0, got ? 1 : 0);
    }

    /** The call throws exactly that exception, and the book goes on like one that had no such call. */
    void refused(String what, Class<? extends RuntimeException> due,
            Supplier<NoticeBook> maker, Consumer<NoticeBook> call) {
        asked++;
        NoticeBook book = maker.get();
        Class<?> thrown = null;
        try {
            call.accept(book);
        } catch (RuntimeException e) {
            thrown = e.getClass();
        }
        if (thrown != due) {
            wrong(what + " threw " + thrown + ", due is " + due);
            return;
        }
        List<Long> untouched = goOn(maker.get());
        List<Long> refused = goOn(book);
        if (!untouched.equals(refused)) {
            wrong(what + " threw, but changed the book: " + refused + " instead of " + untouched);
        }
    }

    /** Lets days pass until today is that day. */
    static void passTo(NoticeBook book, int day) {
        // Bounded, so that a book whose days do not pass fails its test instead of holding it up.
        for (int k = 0; k < 40 && book.today() < day; k++) {
            book.pass(Math.min(100, day - book.today()));
        }
    }

    void end() {
        System.out.println(name + ": " + asked + " checks, " + wrong + " wrong");
        if (wrong != 0) {
            System.exit(1);
        }
    }

    private void wrong(String text) {
        wrong++;
        System.out.println(name + ": " + text);
    }

    /** All that can be seen of a book now, and by what it then does what cannot be seen. */
    private static List<Long> goOn(NoticeBook book) {
        List<Long> seen = new ArrayList<>();
        look(book, seen);
        seen.add((long) book.setTermRate(1));
        for (int band = 0; band < 3; band++) {
            seen.add((long) book.setRate(band, 17));
        }
        seen.add(book.setByBands(true) ? 1L : 0L);
        for (int lot = 0; lot < LOTS_LOOKED_AT; lot++) {
            int number = lot;
            seen.add(answer(() -> (long) book.instruct(number, NoticeBook.ROLL)));
            seen.add(answer(() -> (long) book.letGo(number)));
            seen.add(answer(() -> (long) book.take(number)));
        }
        for (int days : new int[] {1, 6, 25, 40}) {
            seen.add(answer(() -> (long) book.pass(days)));
            look(book, seen);
        }
        seen.add(answer(() -> (long) book.deposit(0, 1)));
        return seen;
    }

    private static void look(NoticeBook book, List<Long> seen) {
        seen.add((long) book.today());
        seen.add((long) book.lots());
        for (int customer = 0; customer < CUSTOMERS; customer++) {
            seen.add((long) book.total(customer));
            seen.add(book.partsByTotal(customer));
            seen.add(book.paid(customer));
            seen.add(book.lost(customer));
        }
        for (int lot = 0; lot < LOTS_LOOKED_AT; lot++) {
            int number = lot;
            if (answer(() -> (long) book.principal(number)) != THREW) {
                seen.add((long) lot);
                seen.add((long) book.principal(lot));
                seen.add(book.earned(lot));
                seen.add(book.partsOfDay(lot));
                seen.add((long) book.frozen(lot));
                seen.add((long) book.endOf(lot));
            }
        }
    }

    private static final long THREW = Long.MIN_VALUE;

    private static long answer(Supplier<Long> call) {
        try {
            return call.get();
        } catch (IndexOutOfBoundsException | IllegalArgumentException | IllegalStateException e) {
            return THREW;
        }
    }
}
