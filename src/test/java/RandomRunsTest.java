import java.util.Random;

/** Random runs of calls, each answer held against Model's: right and wrong texts, right and wrong arguments. */
public final class RandomRunsTest {
    private static final int RUNS = 1200;
    private static final int MOST_CALLS = 512;
    private static final int[] ODD = {-1, -2, 7, 10, 25, 61, 101, Integer.MIN_VALUE, Integer.MAX_VALUE};

    private final Random random;
    private final RandomTexts texts;
    private final int run;
    private final SaintTheft real = new SaintTheft();
    private final Model model = new Model();
    private final StringBuilder log = new StringBuilder();

    private RandomRunsTest(int run) {
        this.run = run;
        this.random = new Random(run * 7919L + 1);
        this.texts = new RandomTexts(random);
    }

    public static void main(String[] args) {
        int wrong = 0;
        for (int run = 0; run < RUNS && wrong < 3; run++) {
            wrong += new RandomRunsTest(run).agrees() ? 0 : 1;
        }
        System.out.println(wrong == 0 ? RUNS + " random runs agree" : wrong + " random runs do not agree");
        if (wrong != 0) {
            System.exit(1);
        }
    }

    private boolean agrees() {
        int calls = 0;
        while (calls < MOST_CALLS) {
            if (calls == 0 || random.nextInt(90) == 0) {
                String text = random.nextInt(4) == 0 ? texts.spoilt(texts.right()) : texts.right();
                // Its feeds, two calls of back, read and place; what is answered behind the last call is free.
                int more = (text.length() + 19) / 20 + 4;
                if (calls + more < MOST_CALLS) {
                    calls += more;
                    if (!feedAndRead(text)) {
                        return false;
                    }
                }
            }
            calls++;
            if (!oneCall()) {
                return false;
            }
        }
        return true;
    }

    private boolean same(String call, Object got, Object want) {
        log.append(call).append(" -> ").append(want).append('\n');
        if (got.equals(want)) {
            return true;
        }
        System.out.println("run " + run + ":\n" + log + "but it answered " + got);
        return false;
    }

    private boolean feedAndRead(String text) {
        log.append(text).append('\n');
        int[] w = Texts.words(text);
        // What an earlier call has left on the tape would stand ahead of the text.
        int left = model.count(10);
        if (!same("back", real.back(left), model.back(left))) {
            return false;
        }
        for (int i = 0; i < w.length; i += 5) {
            int fed = model.feed(w[i], w[i + 1], w[i + 2], w[i + 3], w[i + 4]);
            if (!same("feed", real.feed(w[i], w[i + 1], w[i + 2], w[i + 3], w[i + 4]), fed)) {
                return false;
            }
        }
        int blanks = w.length * 4 - text.length();
        return same("back", real.back(blanks), model.back(blanks))
                && same("read", real.read(), model.read()) && same("place", real.place(), model.place());
    }

    /** A number from 0 to one more than a bound; now and then one that is far off. */
    private int some(int most) {
        return random.nextInt(14) == 0 ? ODD[random.nextInt(ODD.length)] : random.nextInt(most + 2);
    }

    private boolean oneCall() {
        int c = some(5);
        int r = some(5);
        int r2 = some(5);
        int p = some(4);
        int n = some(9);
        int what = some(4);
        int two = some(1);
        int years = random.nextInt(6) == 0 ? some(60) : some(6);
        int hundred = some(100);
        boolean yes = random.nextBoolean();
        String with = " c=" + c + " r=" + r + " r2=" + r2 + " p=" + p + " n=" + n + " what=" + what + " two=" + two
                + " years=" + years + " hundred=" + hundred + " yes=" + yes;
        switch (random.nextInt(22)) {
            case 0: return same("feed" + with, real.feed(c, r, p, n, what), model.feed(c, r, p, n, what));
            case 1: return same("back" + with, real.back(n), model.back(n));
            case 2: return same("church" + with, real.church(c, what), model.church(c, what));
            case 3: return same("relic" + with, real.relic(r, what), model.relic(r, what));
            case 4: return same("pilgrim" + with, real.pilgrim(p, what), model.pilgrim(p, what));
            case 5: return same("tells" + with, real.tells(p, c, what), model.tells(p, c, what));
            case 6: return same("heals" + with, real.heals(r, p), model.heals(r, p));
            case 7: case 8: return same("steal" + with, real.steal(r, c, n), model.steal(r, c, n));
            case 9: return same("swap" + with, real.swap(r, r2), model.swap(r, r2));
            case 10: return same("watch" + with, real.watch(c, n), model.watch(c, n));
            case 11: return same("years" + with, real.years(years), model.years(years));
            case 12: return same("undo", real.undo(), model.undo());
            case 13: return same("hold" + with, real.hold(what), model.hold(what));
            case 14: return same("restore" + with, real.restore(what), model.restore(what));
            case 15: return same("count" + with, real.count(n + what), model.count(n + what));
            case 16: return told(p, n / 2, two, yes, with);
            default: return wouldBe(c, r, p, n, what, two, years, hundred, with);
        }
    }

    private boolean told(int p, int k, int two, boolean yes, String with) {
        switch (random.nextInt(9)) {
            case 0: return same("forget", real.forget(), model.forget());
            case 1: case 2: case 3: return same("tell" + with, real.tell(p, yes), model.tell(p, yes));
            case 4: case 5: case 6: return same("whose" + with, real.whose(k, two), model.whose(k, two));
            default: return same("ask" + with, real.ask(k), model.ask(k));
        }
    }

    private boolean wouldBe(int c, int r, int p, int n, int what, int two, int years, int hundred, String with) {
        boolean yes = random.nextBoolean();
        int k = random.nextInt(5);
        switch (random.nextInt(19)) {
            case 0: return same("goes" + with, real.goes(p), model.goes(p));
            case 1: return same("theft" + with, real.theft(r, n), model.theft(r, n));
            case 2: return same("nights" + with, real.nights(r), model.nights(r));
            case 3: return same("worth" + with, real.worth(r, years, two), model.worth(r, years, two));
            case 4: return same("guard" + with, real.guard(c, hundred, n), model.guard(c, hundred, n));
            case 5: return same("guards" + with, real.guards(hundred, n), model.guards(hundred, n));
            case 6: return same("weak" + with, real.weak(what), model.weak(what));
            case 7: return same("barter" + with, real.barter(years, two), model.barter(years, two));
            case 8: return same("took" + with, real.took(c, years), model.took(c, years));
            case 9: return same("wonders" + with, real.wonders(r, years), model.wonders(r, years));
            case 10: return same("goesIn" + with, real.goesIn(p, years), model.goesIn(p, years));
            case 11: return same("rich" + with, real.rich(years, two), model.rich(years, two));
            case 12: return same("hub", real.hub(), model.hub());
            case 13: return same("crowd" + with, real.crowd(c), model.crowd(c));
            case 14: return same("healed" + with, real.healed(p, years), model.healed(p, years));
            case 15: return same("famed" + with, real.famed(years), model.famed(years));
            case 16: return same("year" + with, real.year(r, what, n * 2), model.year(r, what, n * 2));
            case 17: return same("belief" + with + k + yes, real.belief(r, p, what, k, yes),
                    model.belief(r, p, what, k, yes));
            default: return same("certain" + with, real.certain(r, p, hundred), model.certain(r, p, hundred));
        }
    }
}
