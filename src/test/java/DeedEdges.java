/** Edges of what is done by hand and of years: promises 11 to 15. */
final class DeedEdges {
    /** Nobody is caught, all is carried off; p goes to a, q can't reach any relic. */
    static final String WORLD = "church a 3; church b 0; church c 9; road a b 5; relic r a true; relic s b copy; "
            + "relic t a copy; pilgrim p a 2 7; pilgrim q c 4 1; heals = truth * 100; leave = 100; caught = 0; seed 5; ";
    private static final String TWO = "church a 8; church b 0; relic r a true; relic s b copy; ";

    private DeedEdges() {
    }

    /** An object of which each part has something in it, the tape too. */
    static SaintTheft gone() {
        SaintTheft x = Texts.of(WORLD);
        x.years(2);
        x.steal(1, 2, 3);
        x.hold(1);
        x.tell(0, true);
        x.tell(1, false);
        x.feed(1, 2, 3, 4, 5);
        return x;
    }

    // ---- 11 steal

    static void promise11Nights() {
        Edges.edge(11, "a RELIC is STOLEN for another CHURCH in n nights (1 .. 9)");
        for (int n = 1; n <= 9; n++) {
            Edges.due("steal in " + n, Texts.of(WORLD).steal(0, 1, n), 1);
        }
        SaintTheft x = gone();
        String before = Edges.seen(x);
        Edges.due("steal in 0", x.steal(0, 1, 0), -1);
        Edges.dueForOthers("steal in", 10, -1, n -> x.steal(0, 1, n));
        Edges.dueSame("steal in no such nights", x, before);
    }

    static void promise11ItIsThere() {
        Edges.edge(11, "-2, and nothing happens: it is there");
        SaintTheft x = gone();
        String before = Edges.seen(x);
        Edges.due("where it was told", x.steal(0, 0, 1), -2);
        Edges.due("where it was carried", x.steal(1, 2, 9), -2);
        Edges.dueSame("steal of what is there", x, before);
        Edges.due("to where it no more is", x.steal(1, 1, 9), 1);
        Edges.due("and is again", x.steal(1, 1, 9), -2);
        Edges.due("in nights that are none", x.steal(1, 1, 10), -1);
    }

    static void promise11NoSuchOnes() {
        Edges.edge(11, "NONE: no such ones.");
        SaintTheft x = gone();
        String before = Edges.seen(x);
        Edges.dueForOthers("relic", 3, -1, relic -> x.steal(relic, 0, 1));
        Edges.dueForOthers("church", 3, -1, church -> x.steal(0, church, 1));
        Edges.dueSame("steal of no such ones", x, before);
        Edges.due("steal of nothing", new SaintTheft().steal(0, 0, 1), -1);
        Edges.due("the last ones", x.steal(2, 2, 1), 1);
    }

    private static int first(int seed, String caught, String leave) {
        return Texts.of(TWO + "seed " + seed + "; caught = " + caught + "; leave = " + leave + ";").steal(0, 1, 1);
    }

    static void promise11LessThanCaught() {
        Edges.edge(11, "the thief is caught if LOT 100 of the SEED and 1,000,000 and how often it was tried ahead is less "
                + "than CAUGHT tells");
        // The first lots: 68 of seed 0, 0 of 78, 99 of 85.
        Edges.due("68 by 68", first(0, "68", "0"), 0);
        Edges.due("68 by 69", first(0, "69", "0"), 2);
        Edges.due("0 by 0", first(78, "0", "0"), 0);
        Edges.due("0 by 1", first(78, "1", "0"), 2);
        Edges.due("99 by 99", first(85, "99", "0"), 0);
        Edges.due("99 by 100", first(85, "100", "0"), 2);
        Edges.due("0 by less than 0", first(78, "0 - 1", "0"), 0);
        Edges.due("99 by more than 100", first(85, "9999", "0"), 2);
    }

    static void promise11LessThanLeave() {
        Edges.edge(11, "else it is carried off if LOT 100 of the SEED and 2,000,000 and as many is less than LEAVE tells.");
        // The first lots: 90 of seed 0, 0 of 48, 99 of 147.
        Edges.due("90 by 90", first(0, "0", "90"), 0);
        Edges.due("90 by 91", first(0, "0", "91"), 1);
        Edges.due("0 by 0", first(48, "0", "0"), 0);
        Edges.due("0 by 1", first(48, "0", "1"), 1);
        Edges.due("99 by 99", first(147, "0", "99"), 0);
        Edges.due("99 by 100", first(147, "0", "100"), 1);
        Edges.due("caught comes first", first(147, "100", "100"), 2);
    }

    static void promise11HowOftenTried() {
        Edges.edge(11, "how often it was tried ahead");
        // The lots of seed 0: 68 57 97 71 28 0 12 99 against CAUGHT, 90 11 54 97 43 22 58 30 against LEAVE.
        int[] dues = {0, 1, 0, 0, 2, 2, 2, 1};
        SaintTheft x = Texts.of(TWO + "caught = 50; leave = 50;");
        for (int i = 0; i < dues.length; i++) {
            int to = 1 - x.relic(0, 0);
            Edges.due("refused", x.steal(0, 1 - to, 1), -2);
            Edges.due("refused", x.steal(0, to, 10), -1);
            Edges.due("steal " + i, x.steal(0, to, 1), dues[i]);
            Edges.due("tried", x.count(7), i + 1);
            Edges.due("undo", x.undo(), true);
            Edges.due("tried", x.count(7), i);
            Edges.due("steal " + i + " again", x.steal(0, to, 1), dues[i]);
        }
    }

    static void promise11OneWatcherMore() {
        Edges.edge(11, "(then it stays, and the WATCHERS are 1 more, 9 at most)");
        SaintTheft x = Texts.of(TWO + "caught = 100;");
        for (int i = 1; i <= 4; i++) {
            Edges.due("caught", x.steal(0, 1, 9), 2);
            Edges.due("it stays", x.relic(0, 0), 0);
            Edges.due("watchers", x.church(0, 0), 9);
            Edges.due("thieves caught", x.count(8), i);
            Edges.due("watchers of all", x.count(14), 9);
            Edges.due("it was not carried off", x.relic(0, 3), 0);
        }
        Edges.due("caught", x.steal(1, 0, 9), 2);
        Edges.due("watchers where there were none", x.church(1, 0), 1);
        // By as many watchers as there are ahead of it: eight catch none here, nine would.
        SaintTheft y = Texts.of(TWO + "caught = if watch < 9 then 0 else 100; leave = 0;");
        Edges.due("eight", y.steal(0, 1, 1), 0);
        y.watch(0, 9);
        Edges.due("nine", y.steal(0, 1, 1), 2);
    }

    static void promise11Carried() {
        Edges.edge(11, "1 it is carried off, 0 it stays");
        SaintTheft x = Texts.of(WORLD);
        Edges.due("carried off", x.steal(0, 1, 1), 1);
        Edges.due("where it is", x.relic(0, 0), 1);
        Edges.due("how often", x.relic(0, 3), 1);
        Edges.due("no watcher more", x.church(0, 0), 3);
        Edges.due("the last of its relics goes", x.steal(2, 1, 1), 1);
        Edges.due("none are left there", x.church(0, 1), 0);
        Edges.due("all are here", x.church(1, 1), 7);
        SaintTheft y = Texts.of(TWO + "caught = 0; leave = 0;");
        Edges.due("stays", y.steal(0, 1, 9), 0);
        Edges.due("tried", y.count(7), 1);
        Edges.due("a thing done", y.count(11), 1);
        Edges.due("carried off", y.count(9), 0);
        Edges.due("where it is", y.relic(0, 0), 0);
        Edges.due("no watcher more", y.church(0, 0), 8);
    }

    // ---- 12 swap, 13 watch

    private static void dueNoSwap(String why, SaintTheft x, int relic, int other) {
        String before = Edges.seen(x);
        Edges.due(why, x.swap(relic, other), false);
        Edges.due(why, x.swap(other, relic), false);
        Edges.dueSame(why, x, before);
    }

    static void promise12BothAtOne() {
        Edges.edge(12, "false, and nothing happens: both at one CHURCH");
        dueNoSwap("both at a", gone(), 0, 2);
        SaintTheft x = gone();
        Edges.due("s is at c, r at a", x.swap(0, 1), true);
        Edges.due("r is at c, t at a", x.swap(2, 0), true);
        Edges.due("r is at a, s too", x.swap(0, 1), false);
        Edges.due("things done", x.count(11), 4);
    }

    static void promise12NoSuchOnes() {
        Edges.edge(12, "no such ones, one and the same");
        for (int other : new int[] {3, 6, -1, Integer.MIN_VALUE, Integer.MAX_VALUE}) {
            dueNoSwap("no such relic", gone(), 0, other);
            dueNoSwap("no such relics", gone(), other, other);
        }
        Edges.due("without relics", new SaintTheft().swap(0, 1), false);
    }

    static void promise12OneAndTheSame() {
        Edges.edge(12, "one and the same.");
        for (int relic = 0; relic < 3; relic++) {
            dueNoSwap("one and the same", gone(), relic, relic);
        }
    }

    static void promise12Swapped() {
        Edges.edge(12, "SWAPPED: true");
        SaintTheft x = Texts.of(WORLD);
        Edges.due("swap", x.swap(1, 2), true);
        Edges.due("s", x.relic(1, 0), 0);
        Edges.due("t", x.relic(2, 0), 1);
        Edges.due("relics at a", x.church(0, 1), 3);
        Edges.due("relics at b", x.church(1, 1), 4);
        Edges.due("a swap is no theft", x.count(7) + x.count(9) + x.relic(1, 3), 0);
    }

    static void promise13ItIsSo() {
        Edges.edge(13, "false, and nothing happens: it is so");
        SaintTheft x = gone();
        String before = Edges.seen(x);
        Edges.due("three there", x.watch(0, 3), false);
        Edges.due("none there", x.watch(1, 0), false);
        Edges.due("nine there", x.watch(2, 9), false);
        Edges.dueSame("it is so", x, before);
    }

    static void promise13NoSuchOnes() {
        Edges.edge(13, "it is so, no such ones.");
        SaintTheft x = gone();
        String before = Edges.seen(x);
        Edges.dueForOthers("church", 3, 0, church -> x.watch(church, 1) ? 1 : 0);
        Edges.dueSame("no such church", x, before);
        Edges.due("without churches", new SaintTheft().watch(0, 1), false);
    }

    static void promise13ZeroToNine() {
        Edges.edge(13, "WATCHERS of a CHURCH are SET (0 .. 9)");
        SaintTheft x = Texts.of(WORLD);
        for (int many : new int[] {0, 1, 2, 4, 5, 6, 7, 8, 9}) {
            Edges.due("watch(0, " + many + ")", x.watch(0, many), true);
            Edges.due("watchers", x.church(0, 0), many);
            Edges.due("watchers of all", x.count(14), many + 9);
        }
        Edges.dueForOthers("many", 10, 0, many -> x.watch(0, many) ? 1 : 0);
        Edges.due("watchers", x.church(0, 0), 9);
        Edges.due("things done", x.count(11), 9);
    }

    // ---- 14 years

    static void promise14NoThingDone() {
        Edges.edge(14, "n YEARS (0 .. 60; 0 is no thing done) go by: how many went by so far");
        SaintTheft x = gone();
        String before = Edges.seen(x);
        Edges.due("years(0)", x.years(0), 2);
        Edges.dueSame("years(0)", x, before);
        Edges.due("years(1)", x.years(1), 3);
        Edges.due("a thing done", x.count(11), 3);
        Edges.due("years(60)", x.years(60), 63);
        Edges.due("one thing done", x.count(11), 4);
        Edges.due("without churches", new SaintTheft().years(60), 60);
    }

    static void promise14NoSuchYears() {
        Edges.edge(14, "NONE, and nothing happens: no such n.");
        SaintTheft x = gone();
        String before = Edges.seen(x);
        Edges.dueForOthers("years", 61, -1, n -> x.years(n));
        Edges.dueSame("no such n", x, before);
    }

    static void promise14MostYears() {
        Edges.edge(14, "how many went by so far");
        SaintTheft x = new SaintTheft();
        for (int call = 1; call <= 512; call++) {
            Edges.due("call " + call, x.years(60), 60 * call);
        }
        SaintTheft y = Texts.of("church a 0; relic r a true; " + TextEdges.many("pilgrim p# a 1 1; ", 5) + "gives = 99;");
        for (int call = 1; call <= 500; call++) {
            y.years(60);
        }
        Edges.due("what was taken", y.count(5), 500 * 60 * 5 * 99);
        Edges.due("what one gave", y.pilgrim(4, 3), 500 * 60 * 99);
    }

    static void promise14WhereHeGoes() {
        Edges.edge(14, "goes to the CHURCH that can be reached from where he lives, with RELICS, for which DRAWS tells most");
        // c draws most and can't be reached, b draws more than a and has no relics.
        SaintTheft x = Texts.of("church a 1; church b 5; church c 9; road a b 1; relic r a copy; relic s c copy; "
                + "pilgrim p a 1 4; draws = watch;");
        x.years(1);
        Edges.due("taken by a", x.church(0, 3), 4);
        Edges.due("taken by b", x.church(1, 3), 0);
        Edges.due("taken by c", x.church(2, 3), 0);
        x.swap(0, 1);
        x.years(1);
        Edges.due("taken by a once more", x.church(0, 3), 8);
        Edges.due("stolen for b", Texts.of("church a 1; church b 5; road a b 1; relic r b copy; pilgrim p a 1 4; "
                + "draws = 0 - watch;").took(1, 1), 4);
    }

    static void promise14AsTheYearBegan() {
        Edges.edge(14, "(by how all was as the year began");
        SaintTheft x = Texts.of("church a 0; church b 0; road a b 1; relic r a true; relic s b true; pilgrim p a 1 1; "
                + "pilgrim q a 1 1; heals = 100; draws = 0 - wonders;");
        x.years(1);
        Edges.due("both at a, whose wonder for p comes ahead of q", x.church(0, 2), 2);
        x.years(1);
        Edges.due("both at b", x.church(1, 2), 2);
        x.years(1);
        Edges.due("both at a again", x.church(0, 2), 4);
    }

    static void promise14AlikeOnes() {
        Edges.edge(14, "of alike ones the first; none: he stays)");
        SaintTheft x = Texts.of("church a 0; church b 0; church c 0; road c b 1; road c a 2; relic r b true; relic s a true; "
                + "pilgrim p c 1 4; draws = 7;");
        x.years(1);
        Edges.due("the first church, not the first relic's, nor the nearest", x.church(0, 3), 4);
        // Even where DRAWS tells the least that can be, he goes.
        SaintTheft y = Texts.of("church a 0; church b 0; road a b 1; relic r b true; pilgrim p a 1 4; "
                + "draws = 2048 * 1024 * 1024;");
        y.years(1);
        Edges.due("the only one", y.church(1, 3), 4);
        SaintTheft z = Texts.of("church a 0; church b 0; relic r b true; pilgrim p a 1 4; heals = 100; gives = 9;");
        z.years(60);
        Edges.due("he stays and gives nothing", z.pilgrim(0, 3), 0);
        Edges.due("nor is a wonder written", z.pilgrim(0, 4), 0);
        Edges.due("nothing is taken", z.count(5), 0);
    }

    static void promise14LessThanHeals() {
        Edges.edge(14, "a wonder is written at it if LOT 100 of the SEED and 64 * the year and 8 * his number and its number "
                + "is less than HEALS (as it is then)");
        String one = "church a 0; relic r a true; pilgrim p a 1 1; ";
        // LOTS of year 0: 0 of seed 41, 91 of 0, 99 of 196.
        int[][] rows = {{41, 0, 0}, {41, 1, 1}, {0, 91, 0}, {0, 92, 1}, {196, 99, 0}, {196, 100, 1}};
        for (int[] row : rows) {
            SaintTheft x = Texts.of(one + "seed " + row[0] + "; heals = " + row[1] + ";");
            x.years(1);
            Edges.due("seed " + row[0] + ", HEALS " + row[1], x.relic(0, 2), row[2]);
        }
        // The last relic and the last pilgrim; by seed 0 its LOTS are 99, and 86 and 66 after 60 and 61 years.
        String full = "church a 0; " + TextEdges.many("relic r# a copy; ", 5) + "relic z a true; "
                + TextEdges.many("pilgrim p# a 1 1; ", 4) + "pilgrim q a 9 1; heals = if need < 9 then 0 else ";
        int[][] last = {{0, 99, 0}, {0, 100, 1}, {60, 86, 0}, {60, 87, 1}, {61, 66, 0}, {61, 67, 1}};
        for (int[] row : last) {
            SaintTheft x = Texts.of(full + "if years < " + row[0] + " then 0 else truth * " + row[1] + ";");
            x.years(row[0] / 2);
            x.years(row[0] - row[0] / 2);
            x.years(1);
            Edges.due("year " + row[0] + ", HEALS " + row[1], x.relic(5, 2), row[2]);
            Edges.due("for the last pilgrim", x.pilgrim(4, 4), row[2]);
            Edges.due("no other", x.count(6), row[2]);
        }
    }

    static void promise14HealsAsItIsThen() {
        Edges.edge(14, "is less than HEALS (as it is then)");
        String two = "church a 0; relic r a true; relic s a true; pilgrim p a 1 1; pilgrim q a 1 1; heals = ";
        SaintTheft x = Texts.of(two + "if wonders < 1 then 100 else 0;");
        x.years(3);
        Edges.due("the first alone", x.count(6), 1);
        Edges.due("at the first relic", x.relic(0, 2), 1);
        Edges.due("for the first pilgrim", x.pilgrim(0, 4), 1);
        SaintTheft y = Texts.of(two + "if 2 < wonders then 0 else 100;");
        y.years(3);
        Edges.due("three, RELIC by RELIC, PILGRIM by PILGRIM", y.count(6), 3);
        Edges.due("at the first relic", y.relic(0, 2), 2);
        Edges.due("for the second pilgrim", y.pilgrim(1, 4), 1);
        SaintTheft z = Texts.of(two + "wonders * 100;");
        z.years(60);
        Edges.due("none leads to none", z.count(6), 0);
    }

    static void promise14GivesAsItIsThen() {
        Edges.edge(14, "then he gives what GIVES tells (as it is then). It is the next year.");
        SaintTheft x = Texts.of("church a 0; relic r a true; relic s a true; pilgrim p a 1 1; pilgrim q a 1 1; heals = 100; "
                + "gives = wonders * 10 + years;");
        x.years(1);
        Edges.due("p, by his own wonders, in year 0", x.pilgrim(0, 3), 20);
        Edges.due("q, by all of them", x.pilgrim(1, 3), 40);
        Edges.due("taken", x.church(0, 3), 60);
        Edges.due("years that went by", x.count(4), 1);
        x.years(1);
        Edges.due("p in year 1", x.pilgrim(0, 3), 20 + 61);
        Edges.due("q in year 1", x.pilgrim(1, 3), 40 + 81);
        x.years(1);
        Edges.due("p, held to 99", x.pilgrim(0, 3), 20 + 61 + 99);
    }

    static void promise14LotsWrap() {
        Edges.edge(14, "the rest of h, moved 1 bit down likewise, by n (32 bits that wrap).");
        // LOTS of year 0 with the highest bit of h set (1, 2, 6, 7, 8, 9) and not (0, 3, 4, 5, 10, 11).
        int[] lots = {91, 6, 86, 78, 52, 52, 84, 12, 19, 85, 42, 39};
        for (int seed = 0; seed < lots.length; seed++) {
            for (int more = 0; more <= 1; more++) {
                SaintTheft x = Texts.of("church a 0; relic r a true; pilgrim p a 1 1; seed " + seed + "; heals = "
                        + (lots[seed] + more) + ";");
                x.years(1);
                Edges.due("seed " + seed + ", HEALS " + (lots[seed] + more), x.relic(0, 2), more);
            }
        }
    }

    // ---- 15 undo

    static void promise15EachThing() {
        Edges.edge(15, "The last thing done (steal, swap, watch, years) is undone: true");
        SaintTheft x = gone();
        String first = Edges.seen(x);
        x.steal(0, 1, 1);
        Edges.due("undo steal", x.undo(), true);
        Edges.dueSame("steal is undone", x, first);
        x.swap(0, 1);
        Edges.due("undo swap", x.undo(), true);
        Edges.dueSame("swap is undone", x, first);
        x.watch(0, 9);
        Edges.due("undo watch", x.undo(), true);
        Edges.dueSame("watch is undone", x, first);
        x.years(60);
        Edges.due("undo years", x.undo(), true);
        Edges.dueSame("years are undone, all at once", x, first);
        SaintTheft y = Texts.of(TWO + "caught = 100;");
        String told = Edges.seen(y);
        y.steal(0, 1, 1);
        Edges.due("undo of a thief who was caught", y.undo(), true);
        Edges.dueSame("he is not caught", y, told);
        SaintTheft z = Texts.of(TWO + "caught = 0; leave = 0;");
        z.steal(0, 1, 1);
        Edges.due("undo of a theft by which it stayed", z.undo(), true);
        Edges.due("tried", z.count(7), 0);
    }

    static void promise15NoneToUndo() {
        Edges.edge(15, "false: there is none");
        SaintTheft x = Texts.of(WORLD);
        Edges.due("undo of nothing", x.undo(), false);
        // Neither what is refused nor what is no thing done can be undone.
        x.steal(0, 0, 1);
        x.steal(3, 0, 1);
        x.swap(0, 2);
        x.watch(0, 3);
        x.watch(0, 10);
        x.years(0);
        x.years(61);
        x.tell(0, true);
        x.hold(0);
        x.feed(1, 2, 3, 4, 5);
        x.restore(1);
        x.forget();
        String before = Edges.seen(x);
        Edges.due("things that can be undone", x.count(11), 0);
        Edges.due("undo", x.undo(), false);
        Edges.dueSame("undo of nothing", x, before);
        x.watch(0, 4);
        Edges.due("undo", x.undo(), true);
        Edges.due("undo once more", x.undo(), false);
    }

    static void promise15LastForty() {
        Edges.edge(15, "(the last 40 can be)");
        for (int many : new int[] {39, 40, 41, 45, 79, 80, 81, 125}) {
            SaintTheft x = Texts.of(WORLD);
            for (int i = 1; i <= many; i++) {
                x.years(1);
                Edges.due("things that can be undone", x.count(11), Math.min(40, i));
            }
            for (int i = 1; i <= Math.min(40, many); i++) {
                Edges.due("undo " + i + " of " + many, x.undo(), true);
                Edges.due("years", x.count(4), many - i);
            }
            Edges.due("undo of one more", x.undo(), false);
            Edges.due("years", x.count(4), Math.max(0, many - 40));
        }
    }

    static void promise15UndoneAndDone() {
        Edges.edge(15, "is undone: true; false: there is none (the last 40 can be)");
        SaintTheft x = Texts.of(WORLD);
        for (int i = 0; i < 60; i++) {
            x.years(1);
        }
        for (int i = 0; i < 25; i++) {
            x.undo();
        }
        Edges.due("years", x.count(4), 35);
        Edges.due("things that can be undone", x.count(11), 15);
        for (int i = 0; i < 30; i++) {
            x.years(2);
        }
        Edges.due("things that can be undone", x.count(11), 40);
        for (int i = 1; i <= 30; i++) {
            Edges.due("undo", x.undo(), true);
            Edges.due("years", x.count(4), 95 - 2 * i);
        }
        for (int i = 1; i <= 10; i++) {
            Edges.due("undo", x.undo(), true);
            Edges.due("years", x.count(4), 35 - i);
        }
        Edges.due("undo of one more", x.undo(), false);
        Edges.due("years", x.count(4), 25);
    }
}
