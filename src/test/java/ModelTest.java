import java.math.BigInteger;
import java.util.ArrayList;
import java.util.List;

/**
 * All promises together: long runs of calls, each answer compared with that of a plain model which
 * counts in BigInteger and finds everything anew from the lots. The runs are the same each time.
 */
public final class ModelTest {
    private static final Check CHECK = new Check("ModelTest");
    private static final int RUNS = 3000;
    /** With a look after each call and at all in the end, a run stays below the 512 calls promised. */
    private static final int CALLS = 140;
    private static final long INDEX = Long.MIN_VALUE;
    private static final long ARGUMENT = Long.MIN_VALUE + 1;
    private static final long STATE = Long.MIN_VALUE + 2;
    private static final BigInteger CENT = BigInteger.valueOf(3650000);

    private static long seed = 20261119;

    public static void main(String[] args) {
        int[] answered = new int[13];
        int[] refused = new int[13];
        for (int run = 0; run < RUNS; run++) {
            NoticeBook book = new NoticeBook();
            Model model = new Model();
            for (int k = 0; k < CALLS; k++) {
                int kind = kind();
                int[] a = arguments(kind, model, run);
                long due = model.call(kind, a);
                long got = call(book, kind, a);
                String what = "run " + run + ", call " + k + ", kind " + kind + "("
                        + a[0] + ", " + a[1] + ", " + a[2] + ", " + a[3] + ")";
                CHECK.due(what, due, got);
                if (k == CALLS - 1) {
                    lookAtAll(what, book, model);
                } else {
                    lookAtOne(what, book, model);
                }
                int[] counts = due < Long.MIN_VALUE + 3 ? refused : answered;
                counts[kind]++;
            }
        }
        for (int kind = 0; kind < 13; kind++) {
            CHECK.due("kind " + kind + " is answered often", true, answered[kind] > 100);
            CHECK.due("kind " + kind + " is refused often", true, refused[kind] > 100 || kind == 1);
        }
        CHECK.end();
    }

    // ---- calls

    private static int below(int bound) {
        seed = seed * 6364136223846793005L + 1442695040888963407L;
        return (int) ((seed >>> 33) % bound);
    }

    private static int pick(int... values) {
        return values[below(values.length)];
    }

    private static int kind() {
        return pick(0, 1, 2, 3, 3, 3, 4, 4, 4, 4, 5, 5, 5, 6, 7, 7, 7, 8, 8, 8, 9, 10, 10, 11, 11, 12, 12, 12, 12);
    }

    private static int cents() {
        switch (below(6)) {
            case 0: return 1 + below(9);
            case 1: return 99995 + below(10);
            case 2: return 899995 + below(10);
            case 3: return 1 + below(300000);
            case 4: return 1 + below(10000000);
            default: return pick(1, 1000, 60000, 100000, 900000, 10000000, 0, -1, 10000001);
        }
    }

    private static int lot(Model model, boolean byTerm) {
        List<Integer> fit = new ArrayList<>();
        for (MLot l : model.lots) {
            if (l.days > 0 == byTerm && l.principal > 0) {
                fit.add(l.number);
            }
        }
        return fit.isEmpty() || below(12) == 0
                ? pick(-1, 0, model.lots.size(), model.lots.size() - 1, 39, 40, below(40))
                : fit.get(below(fit.size()));
    }

    private static int[] arguments(int kind, Model model, int run) {
        int customer = below(25) == 0 ? pick(-1, 4) : run % 3 == 0 ? 1 : below(4);
        int instruction = below(25) == 0 ? pick(-1, 3) : pick(0, 1, 1, 2, 2);
        switch (kind) {
            case 0: return new int[] {below(20) == 0 ? pick(-1, 3) : below(3), rate(), 0, 0};
            case 1: return new int[] {below(2), 0, 0, 0};
            case 2: return new int[] {rate(), 0, 0, 0};
            case 3: return new int[] {customer, cents(), 0, 0};
            case 4: return new int[] {customer, cents(), pick(0, 1, 2, 5, 5, 10, 10, 10, 20, 30, 400, 401), instruction};
            case 5: {
                int given = lot(model, false);
                MLot l = model.at(given);
                int most = l == null ? 5 : (int) l.principal;
                return new int[] {given, pick(1, most, most, most + 1, 0, 1 + below(most), 1 + below(most)), 0, 0};
            }
            case 6: case 7: return new int[] {lot(model, below(12) == 0), 0, 0, 0};
            case 8: {
                long most = customer < 0 || customer > 3 ? 5 : model.unfrozen(customer);
                int some = (int) Math.max(1, Math.min(most, 100000000));
                return new int[] {customer, pick(1, some, some + 1, 0, 1 + below(some), 1 + below(some),
                        1 + below(some), 100000001), 0, 0};
            }
            case 9: return new int[] {lot(model, below(12) != 0), instruction, 0, 0};
            case 10: return new int[] {lot(model, below(12) != 0), 0, 0, 0};
            case 11: return joinArguments(model);
            default: return new int[] {pick(1, 1, 2, 3, 5, 7, 9, 10, 20, 31, 32, 33, 38, 39, 100, 0, 101), 0, 0, 0};
        }
    }

    private static int[] joinArguments(Model model) {
        int one = lot(model, below(12) != 0);
        int other = lot(model, true);
        MLot first = model.at(one);
        for (int k = 0; k < 5 && first != null && below(6) != 0; k++) {
            MLot second = model.at(other);
            if (second != null && one != other && second.end == first.end) {
                break;
            }
            other = lot(model, true);
        }
        return new int[] {one, other, 0, 0};
    }

    private static int rate() {
        return pick(0, 1, 100, 101, 200, 300, 1999, 2000, 2000, below(2001), below(2001), -1, 2001);
    }

    private static long call(NoticeBook book, int kind, int[] a) {
        try {
            switch (kind) {
                case 0: return book.setRate(a[0], a[1]);
                case 1: return book.setByBands(a[0] == 1) ? 1 : 0;
                case 2: return book.setTermRate(a[0]);
                case 3: return book.deposit(a[0], a[1]);
                case 4: return book.depositTerm(a[0], a[1], a[2], a[3]);
                case 5: return book.give(a[0], a[1]);
                case 6: return book.withdraw(a[0]);
                case 7: return book.take(a[0]);
                case 8: return book.early(a[0], a[1]);
                case 9: return book.instruct(a[0], a[1]);
                case 10: return book.letGo(a[0]);
                case 11: return book.join(a[0], a[1]);
                default: return book.pass(a[0]);
            }
        } catch (RuntimeException e) {
            return e.getClass() == Check.INDEX ? INDEX : e.getClass() == Check.ARGUMENT ? ARGUMENT
                    : e.getClass() == Check.STATE ? STATE : Long.MIN_VALUE + 99;
        }
    }

    private static void lookAtOne(String what, NoticeBook book, Model model) {
        if (below(4) == 0) {
            lookAtCustomer(what, book, model, below(4), below(4));
        } else if (!model.lots.isEmpty()) {
            lookAtLot(what, book, model, below(model.lots.size()), below(5));
        }
    }

    private static void lookAtAll(String what, NoticeBook book, Model model) {
        CHECK.due(what + ": today", model.today, book.today());
        int there = 0;
        for (int number = 0; number < model.lots.size(); number++) {
            there += model.at(number) == null ? 0 : 1;
            for (int look = 0; look < 5; look++) {
                lookAtLot(what, book, model, number, look);
            }
        }
        CHECK.due(what + ": lots", there, book.lots());
        for (int customer = 0; customer < 4; customer++) {
            for (int look = 0; look < 4; look++) {
                lookAtCustomer(what, book, model, customer, look);
            }
        }
    }

    private static void lookAtLot(String what, NoticeBook book, Model model, int number, int look) {
        MLot l = model.at(number);
        long due = INDEX;
        if (l != null) {
            switch (look) {
                case 0: due = l.principal; break;
                case 1: due = l.earned.longValueExact(); break;
                case 2: due = model.parts(l); break;
                case 3: due = l.frozen; break;
                default: due = l.days > 0 ? l.end : NoticeBook.NONE;
            }
        }
        CHECK.due(what + ": look " + look + " at lot " + number, due, seen(book, number, look));
    }

    private static long seen(NoticeBook book, int number, int look) {
        try {
            switch (look) {
                case 0: return book.principal(number);
                case 1: return book.earned(number);
                case 2: return book.partsOfDay(number);
                case 3: return book.frozen(number);
                default: return book.endOf(number);
            }
        } catch (IndexOutOfBoundsException e) {
            return INDEX;
        }
    }

    private static void lookAtCustomer(String what, NoticeBook book, Model model, int customer, int look) {
        String of = what + ": customer " + customer + ": ";
        switch (look) {
            case 0:
                CHECK.due(of + "total", model.total(customer), book.total(customer));
                break;
            case 1: {
                long parts = 0;
                for (MLot l : model.notice(customer)) {
                    parts += model.parts(l);
                }
                CHECK.due(of + "parts by total", parts, book.partsByTotal(customer));
                break;
            }
            case 2:
                CHECK.due(of + "paid", model.paid[customer], book.paid(customer));
                break;
            default:
                CHECK.due(of + "lost", model.lost[customer].longValueExact(), book.lost(customer));
        }
    }

    // ---- the model

    private static final class MLot {
        int number;
        int customer;
        long principal;
        int days;
        BigInteger earned = BigInteger.ZERO;
        long termParts;
        long frozen;
        int noticeDay;
        int end;
        int instruction;
        List<Integer> renewals = new ArrayList<>();
    }

    private static final class Model {
        final List<MLot> lots = new ArrayList<>();
        final long[] paid = new long[4];
        final BigInteger[] lost = {BigInteger.ZERO, BigInteger.ZERO, BigInteger.ZERO, BigInteger.ZERO};
        final int[] rates = {100, 200, 300};
        boolean bands = false;
        int termRate = 250;
        int today = 0;

        MLot at(int number) {
            return number < 0 || number >= lots.size() || lots.get(number).principal == 0
                    ? null : lots.get(number);
        }

        List<MLot> notice(int customer) {
            List<MLot> found = new ArrayList<>();
            for (MLot l : lots) {
                if (l.customer == customer && l.days == 0 && l.principal > 0) {
                    found.add(l);
                }
            }
            return found;
        }

        long total(int customer) {
            long sum = 0;
            for (MLot l : notice(customer)) {
                sum += l.principal;
            }
            return sum;
        }

        long unfrozen(int customer) {
            long sum = 0;
            for (MLot l : notice(customer)) {
                sum += l.principal - l.frozen;
            }
            return sum;
        }

        private int band(long cent) {
            return cent < 100000 ? 0 : cent < 1000000 ? 1 : 2;
        }

        /** How many of the cents from one number to ahead of another lie in a band. */
        private long inBand(int band, long from, long to) {
            long[] bounds = {0, 100000, 1000000, Long.MAX_VALUE};
            return Math.max(0, Math.min(to, bounds[band + 1]) - Math.max(from, bounds[band]));
        }

        long parts(MLot asked) {
            if (asked.days > 0) {
                return asked.termParts;
            }
            if (!bands) {
                return asked.principal * rates[band(total(asked.customer) - 1)];
            }
            long from = 0;
            for (MLot l : notice(asked.customer)) {
                if (l.number < asked.number) {
                    from += l.principal;
                }
            }
            long sum = 0;
            for (int band = 0; band < 3; band++) {
                sum += inBand(band, from, from + asked.principal) * rates[band];
            }
            return sum;
        }

        long call(int kind, int[] a) {
            switch (kind) {
                case 0: return setRate(a[0], a[1]);
                case 1: { boolean was = bands; bands = a[0] == 1; return was ? 1 : 0; }
                case 2: {
                    if (a[0] < 0 || a[0] > 2000) {
                        return ARGUMENT;
                    }
                    int was = termRate;
                    termRate = a[0];
                    return was;
                }
                case 3: return open(a[0], a[1], 0, 0);
                case 4: return a[2] < 1 || a[2] > 400 || a[3] < 0 || a[3] > 2
                        ? (a[0] < 0 || a[0] > 3 ? INDEX : ARGUMENT) : open(a[0], a[1], a[2], a[3]);
                case 8: return early(a[0], a[1]);
                case 11: return join(a[0], a[1]);
                case 12: return pass(a[0]);
                default: return at(a[0]) == null ? INDEX : callLot(kind, at(a[0]), a[1]);
            }
        }

        private long setRate(int band, int rate) {
            if (band < 0 || band > 2) {
                return INDEX;
            }
            if (rate < 0 || rate > 2000) {
                return ARGUMENT;
            }
            int was = rates[band];
            rates[band] = rate;
            return was;
        }

        private long open(int customer, int cents, int days, int instruction) {
            if (customer < 0 || customer > 3) {
                return INDEX;
            }
            if (cents < 1 || cents > 10000000) {
                return ARGUMENT;
            }
            if (lots.size() == 40) {
                return STATE;
            }
            MLot l = new MLot();
            l.number = lots.size();
            l.customer = customer;
            l.principal = cents;
            l.days = days;
            l.end = today + days;
            l.instruction = instruction;
            l.termParts = (long) cents * termRate;
            lots.add(l);
            return l.number;
        }

        private long callLot(int kind, MLot l, int argument) {
            switch (kind) {
                case 5:
                    if (argument < 1 || argument > l.principal) {
                        return ARGUMENT;
                    }
                    if (l.days > 0 || l.frozen > 0) {
                        return STATE;
                    }
                    l.frozen = argument;
                    l.noticeDay = today;
                    return today + 32;
                case 6: {
                    long was = l.frozen;
                    l.frozen = 0;
                    return was == 0 ? STATE : was;
                }
                case 7: {
                    if (l.frozen == 0 || today < l.noticeDay + 32) {
                        return STATE;
                    }
                    long cents = l.frozen;
                    l.frozen = 0;
                    return payPrincipal(l, cents) + (l.principal == 0 ? finish(l) : 0);
                }
                case 9: {
                    if (argument < 0 || argument > 2) {
                        return ARGUMENT;
                    }
                    int was = l.instruction;
                    l.instruction = l.days > 0 ? argument : was;
                    return l.days > 0 ? was : STATE;
                }
                default: {
                    boolean grace = false;
                    for (int day = today - 6; day <= today; day++) {
                        grace |= l.renewals.contains(day);
                    }
                    if (l.days == 0 || !grace) {
                        return STATE;
                    }
                    lose(l, l.earned);
                    return payPrincipal(l, l.principal);
                }
            }
        }

        private long payPrincipal(MLot l, long cents) {
            l.principal -= cents;
            paid[l.customer] += cents;
            return cents;
        }

        private long takeInterest(MLot l) {
            BigInteger[] split = l.earned.divideAndRemainder(CENT);
            l.earned = split[1];
            return split[0].longValueExact();
        }

        private void lose(MLot l, BigInteger parts) {
            l.earned = l.earned.subtract(parts);
            lost[l.customer] = lost[l.customer].add(parts);
        }

        private long finish(MLot l) {
            long interest = takeInterest(l);
            paid[l.customer] += interest;
            lose(l, l.earned);
            return interest;
        }

        private long early(int customer, int cents) {
            if (customer < 0 || customer > 3) {
                return INDEX;
            }
            if (cents < 1 || cents > 100000000) {
                return ARGUMENT;
            }
            if (unfrozen(customer) < cents) {
                return STATE;
            }
            List<MLot> order = notice(customer);
            List<BigInteger> parts = new ArrayList<>();
            for (MLot l : lots) {
                parts.add(BigInteger.valueOf(parts(l)));
            }
            order.sort((x, y) -> {
                int c = parts.get(x.number).multiply(BigInteger.valueOf(y.principal))
                        .compareTo(parts.get(y.number).multiply(BigInteger.valueOf(x.principal)));
                return c != 0 ? c : y.number - x.number;
            });
            long missing = cents;
            long answer = 0;
            for (MLot l : order) {
                long part = Math.min(missing, l.principal - l.frozen);
                if (part == 0) {
                    continue;
                }
                BigInteger loss = parts.get(l.number).multiply(BigInteger.valueOf(30 * part))
                        .divide(BigInteger.valueOf(l.principal)).min(l.earned);
                lose(l, loss);
                answer += payPrincipal(l, part);
                missing -= part;
                answer += l.principal == 0 ? finish(l) : 0;
            }
            return answer;
        }

        private long join(int one, int other) {
            MLot x = at(one);
            MLot y = at(other);
            if (x == null || y == null) {
                return INDEX;
            }
            if (one == other) {
                return ARGUMENT;
            }
            if (x.days == 0 || y.days == 0 || x.customer != y.customer || x.end != y.end
                    || x.principal + y.principal > 100000000) {
                return STATE;
            }
            x.principal += y.principal;
            x.earned = x.earned.add(y.earned);
            x.termParts += y.termParts;
            x.renewals.clear();
            y.principal = 0;
            return x.principal;
        }

        private long pass(int days) {
            if (days < 1 || days > 100) {
                return ARGUMENT;
            }
            if (today + days > 3000) {
                return STATE;
            }
            long ends = 0;
            for (int k = 0; k < days; k++) {
                for (MLot l : lots) {
                    if (l.principal > 0) {
                        l.earned = l.earned.add(BigInteger.valueOf(parts(l)));
                    }
                }
                today++;
                for (MLot l : lots) {
                    if (l.frozen > 0 && today == l.noticeDay + 39) {
                        l.frozen = 0;
                    }
                    if (l.principal > 0 && l.days > 0 && l.end == today) {
                        ends++;
                        end(l);
                    }
                }
            }
            return ends;
        }

        private void end(MLot l) {
            if (l.instruction == NoticeBook.PAY) {
                payPrincipal(l, l.principal);
                finish(l);
                return;
            }
            long interest = takeInterest(l);
            if (l.instruction == NoticeBook.SPLIT) {
                paid[l.customer] += interest;
            } else {
                l.principal += interest;
            }
            l.termParts = l.principal * termRate;
            l.end = today + l.days;
            l.renewals.add(today);
        }
    }
}
