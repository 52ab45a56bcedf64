import java.util.Random;

/** Holds JuneVote against the Model: the same calls on both, by rows of numbers that are always the same. */
public final class ModelTest {
    private static final int CALLS = 512;

    private final Random random;
    private final Writer writer;
    private JuneVote x;
    private Model y;
    private int calls;
    private int wrong;
    private final StringBuilder log = new StringBuilder();

    private ModelTest(long seed) {
        random = new Random(seed);
        writer = new Writer(random);
    }

    public static void main(String[] args) {
        int runs = args.length > 0 ? Integer.parseInt(args[0]) : 1500;
        int firstSeed = args.length > 1 ? Integer.parseInt(args[1]) : 1;
        int wrong = 0;
        for (int seed = firstSeed; seed < firstSeed + runs && wrong < 5; seed++) {
            ModelTest test = new ModelTest(seed);
            if (!test.passes()) {
                wrong++;
                System.out.println("seed " + seed + ":\n" + test.log);
            }
        }
        System.out.println(wrong == 0 ? runs + " runs are as the model's" : wrong + " runs differ from the model's");
        if (wrong > 0) {
            System.exit(1);
        }
    }

    private boolean passes() {
        x = new JuneVote();
        y = new Model();
        while (calls < CALLS && wrong == 0) {
            tell();
            int asks = 20 + random.nextInt(200);
            for (int i = 0; i < asks && calls < CALLS && wrong == 0; i++) {
                ask();
            }
        }
        return wrong == 0;
    }

    private void same(String call, int got, int due) {
        calls++;
        log.append(call).append(" = ").append(got).append('\n');
        if (got != due) {
            wrong++;
            log.append("  but the model says ").append(due).append('\n');
        }
    }

    private void tell() {
        int sort = random.nextInt(10);
        String text = sort < 6 ? writer.republic() : sort < 8 ? writer.spoilt(writer.republic())
            : sort == 8 ? writer.soup() : writer.bounds();
        log.append(text).append('\n');
        for (int from = 0; from < text.length() && calls < CALLS; from += 20) {
            int[] f = new int[5];
            for (int i = 0; i < 20; i++) {
                int sign = from + i < text.length() ? text.charAt(from + i) & 255 : 32;
                f[i / 4] = f[i / 4] << 8 | sign;
            }
            same("feed", x.feed(f[0], f[1], f[2], f[3], f[4]), y.feed(f[0], f[1], f[2], f[3], f[4]));
        }
        same("end", x.end(text.length()), y.end(text.length()));
        same("republic", x.republic(), y.republic());
        same("fault 0", x.fault(0), y.fault(0));
        same("fault 1", x.fault(1), y.fault(1));
        same("about 12", x.about(12), y.about(12));
    }

    /** Mostly from 0 to most, sometimes beside it, seldom far off. */
    private int some(int most) {
        int sort = random.nextInt(40);
        if (sort == 0) {
            return random.nextInt();
        }
        if (sort == 1) {
            return new int[] {Integer.MIN_VALUE, Integer.MAX_VALUE, -1, -2}[random.nextInt(4)];
        }
        return sort < 4 ? most + 1 : random.nextInt(most + 1);
    }

    private int person() {
        return some(Math.max(0, y.people() - 1));
    }

    private int due() {
        return some(Math.max(0, y.dues() - 1));
    }

    private int aLength() {
        if (y.months() == 0 || random.nextInt(4) == 0) {
            return some(31);
        }
        Model.Month month = y.rep.months.get(y.monthOf(y.st));
        return month.from() + random.nextInt(month.to() - month.from() + 1);
    }

    private boolean coin() {
        return random.nextBoolean();
    }

    private static int bit(boolean b) {
        return b ? 1 : 0;
    }

    private void ask() {
        int sort = random.nextInt(12);
        if (sort < 3) {
            act();
        } else if (sort < 6) {
            askOfNow();
        } else if (sort < 9) {
            askOfWhatComes();
        } else if (sort < 11) {
            askLedgers();
        } else {
            askRest();
        }
    }

    private void act() {
        switch (random.nextInt(11)) {
            case 0: {
                int n = random.nextInt(6) == 0 ? some(60) : some(3);
                same("run " + n, x.run(n), y.run(n));
                break;
            }
            case 1:
            case 2:
            case 3: {
                int l = aLength();
                same("decree " + l, x.decree(l), y.decree(l));
                break;
            }
            case 4: {
                int d = due();
                same("forgive " + d, x.forgive(d), y.forgive(d));
                break;
            }
            case 5: {
                int p = person();
                int votes = some(9);
                same("endow " + p + " " + votes, x.endow(p, votes), y.endow(p, votes));
                break;
            }
            case 6:
            case 7:
                same("undo", bit(x.undo()), bit(y.undo()));
                break;
            case 8:
                same("redo", bit(x.redo()), bit(y.redo()));
                break;
            case 9: {
                int box = some(2);
                same("image " + box, x.image(box), y.image(box));
                break;
            }
            default:
                if (random.nextInt(3) == 0) {
                    int box = some(2);
                    same("back " + box, x.back(box), y.back(box));
                }
                break;
        }
    }

    private void askOfNow() {
        int what = some(3);
        switch (random.nextInt(12)) {
            case 0: {
                int p = person();
                same("person " + p + " " + what, x.person(p, what), y.person(p, what));
                break;
            }
            case 1: {
                int d = due();
                same("due " + d + " " + what, x.due(d, what), y.due(d, what));
                break;
            }
            case 2: {
                int i = some(y.st.months.size());
                same("length " + i, x.length(i), y.length(i));
                break;
            }
            case 3: {
                int n = some(y.days(y.st));
                same("date " + n + " " + what, x.date(n, what), y.date(n, what));
                break;
            }
            case 4: {
                int year = some(y.months() == 0 ? 0 : y.yearOf(y.st));
                int month = some(Math.max(0, y.months() - 1));
                int day = some(8);
                same("number " + year + " " + month + " " + day, x.number(year, month, day),
                    y.number(year, month, day));
                break;
            }
            case 5:
                same("drift " + what, x.drift(what), y.drift(what));
                break;
            case 6: {
                int l = aLength();
                same("may " + l, x.may(l), y.may(l));
                break;
            }
            case 7: {
                int p = person();
                int l = aLength();
                same("worth " + p + " " + l, x.worth(p, l), y.worth(p, l));
                break;
            }
            case 8: {
                int p = person();
                same("votes " + p, x.votes(p), y.votes(p));
                break;
            }
            case 9:
                same("counted", x.counted(), y.counted());
                break;
            default: {
                int of = some(13);
                same("about " + of, x.about(of), y.about(of));
                break;
            }
        }
    }

    private void askOfWhatComes() {
        int l = aLength();
        int what = some(2);
        switch (random.nextInt(9)) {
            case 0: {
                int set = some((1 << y.people()) - 1);
                same("turned " + set + " " + l, x.turned(set, l), y.turned(set, l));
                break;
            }
            case 1:
                same("least " + l, x.least(l), y.least(l));
                break;
            case 2:
                same("bribe " + l + " " + what, x.bribe(l, what), y.bribe(l, what));
                break;
            case 3: {
                int p = person();
                int n = random.nextInt(3) == 0 ? some(4) : some(2);
                same("plan " + p + " " + n, x.plan(p, n), y.plan(p, n));
                break;
            }
            case 4: {
                int d = due();
                same("span " + d + " " + what, x.span(d, what), y.span(d, what));
                break;
            }
            case 5: {
                int n = random.nextInt(3) == 0 ? some(120) : some(20);
                int w = some(99);
                boolean repair = coin();
                same("skew " + n + " " + w + " " + repair, x.skew(n, w, repair), y.skew(n, w, repair));
                break;
            }
            case 6:
                if (random.nextInt(3) == 0) {
                    same("again " + what, x.again(what), y.again(what));
                }
                break;
            case 7: {
                int n = random.nextInt(3) == 0 ? some(60) : some(12);
                int p = person();
                same("ahead " + n + " " + what + " " + p, x.ahead(n, what, p), y.ahead(n, what, p));
                break;
            }
            default: {
                int p = person();
                int set = some((1 << y.dues()) - 1);
                same("net " + p + " " + set, x.net(p, set), y.net(p, set));
                break;
            }
        }
    }

    private void askRest() {
        int what = some(1);
        same("rest " + what, x.rest(what), y.rest(what));
        for (int i = -1; i < 6; i++) {
            same("lies " + i, x.lies(i), y.lies(i));
        }
    }

    private void askLedgers() {
        int m = some(5);
        int k = random.nextInt(3) == 0 ? some(1000) : some(y.time + 1);
        switch (random.nextInt(7)) {
            case 0:
            case 1: {
                int n = random.nextInt(4) == 0 ? some(400) : some(20);
                int month = some(Math.max(0, y.months() - 1));
                int day = random.nextInt(4) == 0 ? some(31) : some(6);
                if (coin() && y.months() > 0 && y.days(y.st) > 0) {
                    // What truly was, so that some rows are left.
                    n = random.nextInt(Math.min(401, y.days(y.st)));
                    month = y.date(n, 1);
                    day = y.date(n, 2);
                }
                same("ledger " + n + " " + month + " " + day, x.ledger(n, month, day), y.ledger(n, month, day));
                break;
            }
            case 2: {
                int i = some(Math.max(0, y.ledgers.size() - 1));
                same("untell " + i, bit(x.untell(i)), bit(y.untell(i)));
                break;
            }
            case 3: {
                int by = random.nextInt(3) == 0 ? some(1000) : some(3);
                same("later " + by, x.later(by), y.later(by));
                break;
            }
            case 4:
                same("lengths " + m + " " + k, x.lengths(m, k), y.lengths(m, k));
                break;
            default: {
                int i = some(Math.max(0, Math.min(4, m - 1)));
                boolean most = coin();
                same("known " + m + " " + i + " " + most + " " + k, x.known(m, i, most, k), y.known(m, i, most, k));
                break;
            }
        }
    }
}
