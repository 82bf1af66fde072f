/** The example of README.md answers what it says there. */
public final class ExampleTest {
    private static final Check CHECK = new Check("ExampleTest");

    public static void main(String[] args) {
        NoticeBook book = new NoticeBook();
        int savings = book.deposit(0, 250000);
        int term = book.depositTerm(0, 146000, 30, NoticeBook.ROLL);
        CHECK.due("the first lot", 0, savings);
        CHECK.due("the second lot", 1, term);
        CHECK.due("give", 32, book.give(savings, 50000));
        CHECK.due("pass", 1, book.pass(32));
        CHECK.due("take", 50000, book.take(savings));
        CHECK.due("early", 1000, book.early(0, 1000));
        CHECK.due("lost", 6000000, book.lost(0));
        CHECK.due("rolled", 146300, book.principal(term));
        CHECK.end();
    }
}
