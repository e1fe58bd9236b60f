import java.util.function.ToIntFunction;

/** Edges of what would be in some years, and of beliefs: promises 24 to 27 and 30 to 34. */
final class ForecastEdges {
    /** Each year p gives 7 at a and has one wonder there; q stays at c. */
    private static final String WORLD = "church a 3; church b 0; church c 9; road a b 5; relic r a true; relic s b copy; "
            + "relic t a copy; pilgrim p a 2 7; pilgrim q c 4 1; heals = truth * 100; ";

    private ForecastEdges() {
    }

    /** After three years: from none to sixty more, and nothing for fewer or more. */
    private static void dueInYears(int promise, int aYear, ToIntFunctionOfTwo question) {
        Edges.edge(promise, "IN n YEARS (0 .. 60)");
        SaintTheft x = Texts.of(WORLD);
        x.years(3);
        for (int n = 0; n <= 60; n++) {
            Edges.due("in " + n, question.of(x, n), aYear * n);
        }
        Edges.dueForOthers("in", 61, -1, n -> question.of(x, n));
    }

    /** A question with an object and a number. */
    private interface ToIntFunctionOfTwo {
        int of(SaintTheft x, int n);
    }

    private static void dueNoSuchOnes(int behindLast, ToIntFunction<Integer> question) {
        Edges.dueForOthers("of", behindLast, -1, question);
    }

    // ---- 24 took, 25 wonders, 26 goesIn

    static void promise24NothingHappens() {
        QuestionEdges.nothingHappens(24, x -> x.took(0, 60));
    }

    /** Each church in turn has the relic and the pilgrim, and other watchers than the text told. */
    static void promise24FromNowOn() {
        Edges.edge(24, "What would be");
        for (int church = 0; church < 6; church++) {
            String name = "" + (char) ('a' + church);
            SaintTheft x = Texts.of(TextEdges.many("church # 1; ", 6) + "relic r " + name + " true; pilgrim p " + name
                    + " 1 1; heals = 100; gives = watch * 10 + wonders + years;");
            x.watch(church, 4);
            Edges.due("by its watchers", x.took(church, 1), 41);
            x.years(1);
            Edges.due("by its wonders and years", x.took(church, 2), 43 + 45);
            x.undo();
            Edges.due("as ahead of it", x.took(church, 1), 41);
        }
    }

    static void promise24Years() {
        dueInYears(24, 7, (x, n) -> x.took(0, n));
    }

    static void promise24NoSuchOnes() {
        Edges.edge(24, "NONE: no such ones.");
        SaintTheft x = Texts.of(WORLD);
        Edges.due("the last church", x.took(2, 1), 0);
        dueNoSuchOnes(3, church -> x.took(church, 1));
        Edges.due("without churches", new SaintTheft().took(0, 0), -1);
    }

    static void promise25NothingHappens() {
        QuestionEdges.nothingHappens(25, x -> x.wonders(0, 60));
    }

    static void promise25Years() {
        dueInYears(25, 1, (x, n) -> x.wonders(0, n));
    }

    static void promise25NoSuchOnes() {
        Edges.edge(25, "NONE: no such ones.");
        SaintTheft x = Texts.of(WORLD);
        Edges.due("the last relic", x.wonders(2, 1), 0);
        dueNoSuchOnes(3, relic -> x.wonders(relic, 1));
        Edges.due("without relics", new SaintTheft().wonders(0, 0), -1);
    }

    static void promise26NothingHappens() {
        QuestionEdges.nothingHappens(26, x -> x.goesIn(0, 60) * 10 + x.goesIn(1, 60));
    }

    static void promise26Years() {
        dueInYears(26, 0, (x, n) -> x.goesIn(0, n));
        // In the YEAR that begins then: by how many went by ahead of it.
        SaintTheft x = Texts.of("church a 0; church b 0; road a b 1; relic r a true; relic s b true; pilgrim p a 1 1; "
                + "draws = if years < 60 then 0 - far else far;");
        Edges.due("in 0", x.goesIn(0, 0), 0);
        Edges.due("in 59", x.goesIn(0, 59), 0);
        Edges.due("in 60", x.goesIn(0, 60), 1);
    }

    static void promise26HeStays() {
        Edges.edge(26, "-2: he stays");
        SaintTheft x = Texts.of(WORLD);
        Edges.due("in 0", x.goesIn(1, 0), -2);
        Edges.due("in 60", x.goesIn(1, 60), -2);
        Edges.due("without relics", Texts.of("church a 0; pilgrim p a 1 1;").goesIn(0, 1), -2);
    }

    static void promise26NoSuchOnes() {
        Edges.edge(26, "NONE: no such ones.");
        SaintTheft x = Texts.of(WORLD);
        dueNoSuchOnes(2, pilgrim -> x.goesIn(pilgrim, 1));
        Edges.dueForOthers("who stays, in", 61, -1, n -> x.goesIn(1, n));
        Edges.due("without pilgrims", new SaintTheft().goesIn(0, 0), -1);
    }

    // ---- 27 rich, 31 famed

    private static final String FAIR = "church a 0; church b 0; church c 0; relic r a true; relic s b true; relic t c true; "
            + "pilgrim p a 1 2; pilgrim q b 1 2; pilgrim o c 1 2; ";

    static void promise27NothingHappens() {
        QuestionEdges.nothingHappens(27, x -> x.rich(60, 0) * 10000 + x.rich(60, 1));
    }

    static void promise27Years() {
        Edges.edge(27, "RICH (n 0 .. 60)");
        SaintTheft x = Texts.of(FAIR + "gives = if years < 60 then 0 else gift;");
        Edges.due("in 60, none yet", x.rich(60, 1), 0);
        x.years(1);
        Edges.due("in 60", x.rich(60, 1), 2);
        Edges.due("in 59", x.rich(59, 1), 0);
        Edges.due("in 0, which", x.rich(0, 0), 0);
        Edges.due("in 0, how much", x.rich(0, 1), 0);
        for (int what = 0; what <= 1; what++) {
            int each = what;
            Edges.dueForOthers("in", 61, -1, n -> x.rich(n, each));
        }
    }

    static void promise27AlikeOnes() {
        Edges.edge(27, "the CHURCH that took most more, of alike ones the first; how much.");
        Edges.due("all alike", Texts.of(FAIR).rich(5, 0), 0);
        Edges.due("none takes any", Texts.of(FAIR + "gives = 0;").rich(5, 0), 0);
        SaintTheft x = Texts.of("church a 0; church b 0; church c 0; relic r a true; relic s b true; relic t c true; "
                + "pilgrim p a 1 9; pilgrim q b 1 2; pilgrim o c 1 2; gives = if years < 1 then gift else 9 - gift;");
        Edges.due("in 1", x.rich(1, 0), 0);
        x.years(1);
        Edges.due("more, not so far: the last two alike", x.rich(1, 0), 1);
        Edges.due("how much", x.rich(1, 1), 7);
        Edges.due("the last one", Texts.of("church a 0; church b 0; relic r b true; pilgrim p b 1 1;").rich(1, 0), 1);
    }

    static void promise27NoChurches() {
        Edges.edge(27, "-2: there are no CHURCHES");
        for (int what = 0; what <= 1; what++) {
            Edges.due("in 0", new SaintTheft().rich(0, what), -2);
            Edges.due("in 60", new SaintTheft().rich(60, what), -2);
        }
    }

    static void promise27NoSuchOnes() {
        Edges.edge(27, "NONE: no such ones.");
        SaintTheft x = Texts.of(FAIR);
        Edges.dueForOthers("what", 2, -1, what -> x.rich(1, what));
        SaintTheft none = new SaintTheft();
        Edges.dueForOthers("what, without churches", 2, -1, what -> none.rich(1, what));
        Edges.dueForOthers("in, without churches", 61, -1, n -> none.rich(n, 0));
    }

    static void promise31NothingHappens() {
        QuestionEdges.nothingHappens(31, x -> x.famed(60));
    }

    static void promise31Years() {
        Edges.edge(31, "FAMED (n 0 .. 60)");
        SaintTheft x = Texts.of("church a 0; church b 0; relic r b true; pilgrim p b 1 1; heals = if years < 59 then 0 else 100;");
        Edges.due("in 0", x.famed(0), 0);
        Edges.due("in 59", x.famed(59), 0);
        Edges.due("in 60", x.famed(60), 1);
    }

    static void promise31AlikeOnes() {
        Edges.edge(31, "the CHURCH at which most wonders are written by then; of alike ones the first.");
        Edges.due("none anywhere", Texts.of(FAIR + "heals = 0;").famed(60), 0);
        Edges.due("all alike", Texts.of(FAIR + "heals = 100;").famed(60), 0);
        // Three wonders at b so far; from now on, one each year at a.
        SaintTheft x = Texts.of("church a 0; church b 0; relic r b true; relic s a copy; pilgrim p b 1 1; pilgrim q a 1 1; "
                + "heals = truth * 100;");
        x.years(3);
        x.swap(0, 1);
        Edges.due("by then, not more: 0 and 3", x.famed(0), 1);
        Edges.due("2 and 3", x.famed(2), 1);
        Edges.due("3 and 3", x.famed(3), 0);
        Edges.due("4 and 3", x.famed(4), 0);
    }

    static void promise31NoChurches() {
        Edges.edge(31, "-2: there are no CHURCHES");
        Edges.due("in 0", new SaintTheft().famed(0), -2);
        Edges.due("in 60", new SaintTheft().famed(60), -2);
    }

    static void promise31NoSuchYears() {
        Edges.edge(31, "NONE: no such n.");
        SaintTheft x = Texts.of(FAIR);
        Edges.dueForOthers("in", 61, -1, n -> x.famed(n));
        SaintTheft none = new SaintTheft();
        Edges.dueForOthers("in, without churches", 61, -1, n -> none.famed(n));
    }

    // ---- 30 healed

    static void promise30NothingHappens() {
        QuestionEdges.nothingHappens(30, x -> x.healed(0, 60));
    }

    static void promise30Years() {
        Edges.edge(30, "IN n YEARS (0 .. 60) wonders written for a PILGRIM more");
        dueInYears(30, 1, (x, n) -> x.healed(0, n));
    }

    static void promise30NoSuchOnes() {
        Edges.edge(30, "NONE: no such ones.");
        SaintTheft x = Texts.of(WORLD);
        Edges.due("the last pilgrim", x.healed(1, 60), 0);
        dueNoSuchOnes(2, pilgrim -> x.healed(pilgrim, 1));
        Edges.due("without pilgrims", new SaintTheft().healed(0, 0), -1);
    }

    // ---- 32 year

    private static final String ONE = "church a 0; relic r a true; pilgrim p a 1 1; ";

    static void promise32NothingHappens() {
        QuestionEdges.nothingHappens(32, x -> x.year(0, 60, 20));
    }

    static void promise32Seeds() {
        Edges.edge(32, "YEAR by s SEEDS (1 .. 20) from the text's SEED on");
        // LOTS of the seeds 0 to 19, and of 9999 to 10018, of which those below 50 make a wonder.
        int[] from0 = {91, 6, 86, 78, 52, 52, 84, 12, 19, 85, 42, 39, 4, 76, 35, 30, 57, 61, 47, 33};
        int[] from9999 = {20, 62, 27, 11, 19, 47, 56, 37, 44, 25, 72, 37, 26, 30, 59, 47, 24, 62, 55, 87};
        SaintTheft x = Texts.of(ONE + "heals = 50;");
        SaintTheft y = Texts.of(ONE + "heals = 50; seed 9999;");
        int wantX = 0;
        int wantY = 0;
        for (int s = 1; s <= 20; s++) {
            wantX += from0[s - 1] < 50 ? 1 : 0;
            wantY += from9999[s - 1] < 50 ? 1 : 0;
            Edges.due("by " + s + " from 0 on", x.year(0, 1, s), wantX);
            Edges.due("by " + s + " from 9999 on", y.year(0, 1, s), wantY);
        }
        Edges.due("by 0", x.year(0, 1, 0), -1);
        Edges.dueForOthers("by", 21, -1, s -> x.year(0, 1, s));
    }

    static void promise32Years() {
        Edges.edge(32, "in how many of them a wonder more is written at a RELIC in n YEARS (0 .. 60).");
        SaintTheft x = Texts.of(ONE + "heals = if years < 2 then 100 else if years < 61 then 0 else 100;");
        x.years(2);
        Edges.due("in 0: two so far are none more", x.year(0, 0, 20), 0);
        Edges.due("in 59", x.year(0, 59, 20), 0);
        Edges.due("in 60", x.year(0, 60, 20), 20);
        Edges.dueForOthers("in", 61, -1, n -> x.year(0, n, 1));
        Edges.due("many wonders of a seed count once", Texts.of(ONE + "heals = 100;").year(0, 60, 3), 3);
    }

    static void promise32NoSuchOnes() {
        Edges.edge(32, "YEAR; NONE: no such ones.");
        SaintTheft x = Texts.of(WORLD);
        Edges.due("the last relic", x.year(2, 60, 20), 0);
        dueNoSuchOnes(3, relic -> x.year(relic, 1, 1));
        Edges.due("without relics", new SaintTheft().year(0, 0, 1), -1);
    }

    // ---- 33 belief, 34 certain

    private static void dueBelief(SaintTheft x, int n, int k, int upper, int lower) {
        Edges.due("upper part, " + k + " of " + n, x.belief(0, 0, n, k, false), upper);
        Edges.due("lower part, " + k + " of " + n, x.belief(0, 0, n, k, true), lower);
    }

    static void promise33NothingHappens() {
        QuestionEdges.nothingHappens(33, x -> x.belief(0, 0, 4, 2, false) * 10 + x.belief(0, 0, 4, 2, true));
    }

    static void promise33Rows() {
        Edges.edge(33, "BELIEF (n 0 .. 4, k 0 .. n): its upper part, or the lower one");
        // By 80 of 100 if TRUE, 20 if not: 4 by 1 for each wonder, 1 by 4 for each that is none.
        SaintTheft x = Texts.of(ONE + "heals = 20 + truth * 60;");
        int[] powers = {1, 4, 16, 64, 256};
        for (int n = 0; n <= 4; n++) {
            for (int k = 0; k <= n; k++) {
                int apart = Math.abs(2 * k - n);
                dueBelief(x, n, k, 2 * k < n ? 1 : powers[apart], 1 + powers[apart]);
            }
            int row = n;
            for (boolean below : new boolean[] {false, true}) {
                Edges.dueForOthers("k of " + n, n + 1, -1, k -> x.belief(0, 0, row, k, below));
            }
        }
        Edges.dueForOthers("n", 5, -1, n -> x.belief(0, 0, n, 0, false));
        Edges.dueForOthers("n and k", 5, -1, n -> x.belief(0, 0, n, n, true));
    }

    static void promise33CannotBeLessened() {
        Edges.edge(33, "as a fraction that cannot be lessened");
        dueBelief(Texts.of(ONE + "heals = 100;"), 4, 4, 1, 2);
        dueBelief(Texts.of(ONE + "heals = 99 + truth;"), 4, 4, 100000000, 196059601);
        dueBelief(Texts.of(ONE + "heals = 100 - truth;"), 4, 4, 96059601, 196059601);
        dueBelief(Texts.of(ONE + "heals = truth;"), 4, 0, 96059601, 196059601);
        dueBelief(Texts.of(ONE + "heals = 50 + truth * 50;"), 2, 2, 4, 5);
        dueBelief(Texts.of(ONE + "heals = truth * 100;"), 4, 4, 1, 1);
        dueBelief(Texts.of(ONE + "heals = 100 - truth * 100;"), 4, 4, 0, 1);
        dueBelief(Texts.of(ONE + "heals = truth * 100;"), 1, 0, 0, 1);
    }

    static void promise33NeitherWay() {
        Edges.edge(33, "(1 by 2, if such a row can't be either way)");
        dueBelief(Texts.of(ONE + "heals = 0;"), 1, 1, 1, 2);
        dueBelief(Texts.of(ONE + "heals = 0;"), 4, 1, 1, 2);
        dueBelief(Texts.of(ONE + "heals = 100;"), 4, 3, 1, 2);
        dueBelief(Texts.of(ONE + "heals = truth * 100;"), 2, 1, 1, 2);
        dueBelief(Texts.of(ONE + "heals = 100 - truth * 100;"), 2, 1, 1, 2);
        // And where it can be either way alike.
        dueBelief(Texts.of(ONE + "heals = 0;"), 4, 0, 1, 2);
    }

    static void promise33NoSuchOnes() {
        Edges.edge(33, "or the lower one; NONE: no such ones.");
        SaintTheft x = Texts.of(WORLD);
        Edges.due("the last ones", x.belief(2, 1, 0, 0, true), 2);
        for (boolean below : new boolean[] {false, true}) {
            dueNoSuchOnes(3, relic -> x.belief(relic, 0, 1, 1, below));
            dueNoSuchOnes(2, pilgrim -> x.belief(0, pilgrim, 1, 1, below));
        }
        Edges.due("without any", new SaintTheft().belief(0, 0, 0, 0, true), -1);
    }

    static void promise33AtFirst() {
        Edges.edge(33, "it is the TRUE one, as likely as not at first");
        for (String heals : new String[] {"0", "100", "truth * 100", "100 - truth * 100", "33 + truth"}) {
            dueBelief(Texts.of(ONE + "heals = " + heals + ";"), 0, 0, 1, 2);
        }
    }

    static void promise33AsNow() {
        Edges.edge(33, "a row of 0 to 4 pilgrimages of a PILGRIM to it, now, of which the first k had a wonder, the others none");
        // 60 if TRUE, 20 if not, once a wonder was written; none changes it for the next one of the row.
        SaintTheft x = Texts.of(ONE + "heals = if years < 1 then 100 else 10 + wonders * 10 + truth * 40;");
        dueBelief(x, 4, 4, 1, 2);
        x.years(1);
        dueBelief(x, 1, 1, 3, 4);
        dueBelief(x, 4, 4, 81, 82);
        dueBelief(x, 4, 0, 1, 17);
        // A COPY is believed in as much as a TRUE one.
        SaintTheft y = Texts.of("church a 0; relic r a copy; pilgrim p a 1 1; heals = 20 + truth * 60;");
        dueBelief(y, 4, 4, 256, 257);
    }

    static void promise34NothingHappens() {
        QuestionEdges.nothingHappens(34, x -> x.certain(0, 0, 100));
    }

    static void promise34ZeroToHundred() {
        Edges.edge(34, "CERTAIN (p 0 .. 100)");
        // BELIEF is 1 by 2, 4 by 5, 16 by 17, 64 by 65, 256 by 257.
        SaintTheft x = Texts.of(ONE + "heals = 20 + truth * 60;");
        for (int p = 0; p <= 100; p++) {
            int want = p <= 50 ? 0 : p <= 80 ? 1 : p <= 94 ? 2 : p <= 98 ? 3 : p <= 99 ? 4 : -2;
            Edges.due("certain by " + p, x.certain(0, 0, p), want);
        }
        Edges.dueForOthers("certain by", 101, -1, p -> x.certain(0, 0, p));
    }

    static void promise34ShortestRow() {
        Edges.edge(34, "the shortest row (0 .. 4), each with a wonder, by which BELIEF is p of 100 or more.");
        Edges.due("none is wanted", Texts.of(ONE + "heals = 0;").certain(0, 0, 0), 0);
        Edges.due("just as likely as at first", Texts.of(ONE + "heals = 0;").certain(0, 0, 50), 0);
        Edges.due("by one that no COPY works", Texts.of(ONE + "heals = truth;").certain(0, 0, 100), 1);
        Edges.due("by four", Texts.of(ONE + "heals = 50 + truth * 50;").certain(0, 0, 94), 4);
        // 1 by 2 once more, though the row can't be.
        Edges.due("1 by 2 is 50", Texts.of(ONE + "heals = 100 - truth * 100;").certain(0, 0, 50), 0);
    }

    static void promise34NotByFour() {
        Edges.edge(34, "-2: not by four");
        Edges.due("16 by 17 is less than 95", Texts.of(ONE + "heals = 50 + truth * 50;").certain(0, 0, 95), -2);
        Edges.due("never quite 100", Texts.of(ONE + "heals = 1 + truth * 99;").certain(0, 0, 100), -2);
        Edges.due("no wonder can be", Texts.of(ONE + "heals = 0;").certain(0, 0, 51), -2);
        Edges.due("it tells nothing", Texts.of(ONE + "heals = 100;").certain(0, 0, 51), -2);
        Edges.due("a COPY works more", Texts.of(ONE + "heals = 90 - truth * 80;").certain(0, 0, 51), -2);
    }

    static void promise34NoSuchOnes() {
        Edges.edge(34, "NONE: no such ones.");
        SaintTheft x = Texts.of(WORLD);
        Edges.due("the last ones", x.certain(2, 1, 0), 0);
        dueNoSuchOnes(3, relic -> x.certain(relic, 0, 0));
        dueNoSuchOnes(2, pilgrim -> x.certain(0, pilgrim, 0));
        Edges.due("without any", new SaintTheft().certain(0, 0, 0), -1);
    }
}
