import java.util.function.ToIntFunction;

/** Edges of what would be now: where they go, thefts, watchers, worth, barter: promises 16 to 23, 28 and 29. */
final class QuestionEdges {
    private static final String LEAST = "(2048*1024*1024)";
    private static final String GREATEST = "(2048*1024*1024-1)";
    private static final String TWO = "church a 7; church b 0; relic r a true; relic s a copy; relic t b true; ";

    private QuestionEdges() {
    }

    /** A question changes nothing that can be seen, and answers the same once more. */
    static void nothingHappens(int promise, ToIntFunction<SaintTheft> question) {
        Edges.edge(promise, "What would be (nothing happens).");
        SaintTheft x = DeedEdges.gone();
        String before = Edges.seen(x);
        int answer = question.applyAsInt(x);
        Edges.dueSame("the question", x, before);
        Edges.due("the question once more", question.applyAsInt(x), answer);
        Edges.due("undo", x.undo(), true);
        Edges.due("what was undone", x.count(7), 0);
        Edges.due("restore", x.restore(1), true);
        Edges.dueSame("restored, but for what can be undone", x,
                before.replaceFirst("^((?: -?\\d+){11}) 2 ", "$1 0 "));
    }

    // ---- 16 goes

    static void promise16NothingHappens() {
        nothingHappens(16, x -> x.goes(0) * 10 + x.goes(1));
    }

    static void promise16HeStays() {
        Edges.edge(16, "-2: he stays");
        Edges.due("without relics", Texts.of("church a 0; pilgrim p a 0 0;").goes(0), -2);
        Edges.due("none can be reached", Texts.of("church a 0; church b 0; relic r b true; pilgrim p a 0 0;").goes(0), -2);
        SaintTheft x = Texts.of("church a 0; church b 0; church c 0; road a b 9; relic r b true; pilgrim p a 0 0; leave = 100; "
                + "caught = 0;");
        Edges.due("it can be reached", x.goes(0), 1);
        x.steal(0, 2, 1);
        Edges.due("it can no more be reached", x.goes(0), -2);
        x.steal(0, 0, 1);
        Edges.due("it is where he lives", x.goes(0), 0);
    }

    static void promise16NoSuchOne() {
        Edges.edge(16, "NONE: no such one.");
        SaintTheft x = Texts.of(DeedEdges.WORLD);
        Edges.due("the last one", x.goes(1), -2);
        Edges.dueForOthers("goes", 2, -1, pilgrim -> x.goes(pilgrim));
        Edges.due("without pilgrims", Texts.of(TWO).goes(0), -1);
        Edges.due("a new object", new SaintTheft().goes(0), -1);
    }

    static void promise16MostDraws() {
        Edges.edge(16, "of alike ones the first");
        String three = "church a 1; church b 2; church c 3; road a b 1; road a c 1; relic r a true; relic s b true; "
                + "relic t c true; pilgrim p a 0 0; draws = ";
        Edges.due("all alike", Texts.of(three + "5;").goes(0), 0);
        Edges.due("the last two alike", Texts.of(three + "if watch < 2 then 4 else 5;").goes(0), 1);
        Edges.due("the last one", Texts.of(three + "watch;").goes(0), 2);
        Edges.due("all below 0", Texts.of(three + "0 - watch;").goes(0), 0);
        Edges.due("the least int against the greatest",
                Texts.of(three + "if watch < 2 then " + LEAST + " else if watch < 3 then " + GREATEST + " else 0;").goes(0), 1);
        Edges.due("all the least int", Texts.of(three + LEAST + ";").goes(0), 0);
    }

    // ---- 17 theft, 18 nights

    private static int theft(String leave, String caught) {
        return Texts.of(TWO + "leave = " + leave + "; caught = " + caught + ";").theft(0, 9);
    }

    static void promise17NothingHappens() {
        nothingHappens(17, x -> x.theft(0, 9));
    }

    static void promise17LeastAndMost() {
        Edges.edge(17, "how likely a theft is, of 10,000 (LEAVE times 100 less CAUGHT), by n");
        Edges.due("most", theft("100", "0"), 10000);
        Edges.due("never leave", theft("0", "0"), 0);
        Edges.due("always caught", theft("100", "100"), 0);
        Edges.due("least", theft("1", "99"), 1);
        Edges.due("in between", theft("37", "41"), 37 * 59);
    }

    static void promise17Nights() {
        Edges.edge(17, "how likely a theft in n nights (1 .. 9) is, of 10,000");
        SaintTheft x = Texts.of(TWO + "leave = nights; caught = 0;");
        for (int n = 1; n <= 9; n++) {
            Edges.due("theft in " + n, x.theft(0, n), 100 * n);
        }
        Edges.due("theft in 0", x.theft(0, 0), -1);
        Edges.dueForOthers("theft in", 10, -1, n -> x.theft(0, n));
    }

    static void promise17NoSuchOnes() {
        Edges.edge(17, "NONE: no such ones.");
        SaintTheft x = Texts.of(TWO);
        Edges.due("the last one", x.theft(2, 1), 1000);
        Edges.dueForOthers("theft", 3, -1, relic -> x.theft(relic, 1));
        Edges.due("without relics", new SaintTheft().theft(0, 1), -1);
    }

    static void promise17Held() {
        Edges.edge(17, "CAUGHT (nights, watch, relics of its CHURCH), held to 0 .. 100.");
        String[] laws = {"0 - 1", "0", "1", "99", "100", "101", LEAST, GREATEST, "1 / 0"};
        int[] held = {0, 0, 1, 99, 100, 100, 0, 100, 0};
        for (int i = 0; i < laws.length; i++) {
            Edges.due("LEAVE = " + laws[i], theft(laws[i], "0"), 100 * held[i]);
            Edges.due("CAUGHT = " + laws[i], theft("100", laws[i]), 100 * (100 - held[i]));
        }
    }

    static void promise17VarsNotTold() {
        Edges.edge(17, "a VAR not told for a LAW is 0 in it");
        String world = "church a 7; church b 2; road a b 3; relic r a true; relic s a copy; pilgrim p b 5 6; heals = truth * 100; ";
        String[] vars = {"relics", "wonders", "far", "need", "gift", "nights", "watch", "years", "truth"};
        int[] leave = {2, 4, 0, 0, 0, 8, 0, 4, 1};
        int[] caught = {2, 0, 0, 0, 0, 8, 7, 4, 0};
        for (int i = 0; i < vars.length; i++) {
            SaintTheft x = Texts.of(world + "caught = 0; leave = " + vars[i] + ";");
            x.years(4);
            x.heals(0, 0);
            x.tells(0, 0, 0);
            Edges.due("LEAVE = " + vars[i], x.theft(0, 8), 100 * leave[i]);
            SaintTheft y = Texts.of(world + "leave = 100; caught = " + vars[i] + ";");
            y.years(4);
            y.heals(0, 0);
            y.tells(0, 0, 0);
            Edges.due("CAUGHT = " + vars[i], y.theft(0, 8), 100 * (100 - caught[i]));
        }
        Edges.due("LEAVE = truth of a COPY", Texts.of(world + "caught = 0; leave = truth;").theft(1, 1), 0);
    }

    static void promise18NothingHappens() {
        nothingHappens(18, x -> x.nights(0));
    }

    static void promise18FewestOfAlikeOnes() {
        Edges.edge(18, "the n by which it is most, of alike ones the fewest");
        Edges.due("all alike", Texts.of(TWO + "leave = 50; caught = 0;").nights(0), 1);
        Edges.due("none is likely", Texts.of(TWO + "leave = 0; caught = 0;").nights(0), 1);
        Edges.due("the most nights", Texts.of(TWO + "leave = nights; caught = 0;").nights(0), 9);
        Edges.due("the fewest nights", Texts.of(TWO + "leave = 50 - nights; caught = 0;").nights(0), 1);
        Edges.due("alike from the fifth on", Texts.of(TWO + "leave = nights * 20; caught = 0;").nights(0), 5);
        for (int n = 1; n <= 9; n++) {
            String law = "leave = if nights < " + n + " then 40 else if " + n + " < nights then 40 else 41; caught = 0;";
            Edges.due("most by " + n, Texts.of(TWO + law).nights(0), n);
        }
        Edges.due("no nights at all don't count", Texts.of(TWO + "leave = if nights < 1 then 99 else nights; caught = 0;").nights(0), 9);
    }

    static void promise18NoSuchRelic() {
        Edges.edge(18, "NONE: no such RELIC.");
        SaintTheft x = Texts.of(TWO);
        Edges.due("the last one", x.nights(2), 9);
        Edges.dueForOthers("nights", 3, -1, relic -> x.nights(relic));
        Edges.due("without relics", new SaintTheft().nights(0), -1);
    }

    // ---- 19 worth

    private static final String SHRINE = "church a 0; church b 0; church c 0; relic r c true; pilgrim p b 1 4; "
            + "pilgrim q c 1 4; ";

    static void promise19NothingHappens() {
        nothingHappens(19, x -> x.worth(0, 24, 0) * 10000 + x.worth(0, 24, 1));
    }

    static void promise19Years() {
        Edges.edge(19, "WORTH of a RELIC for n YEARS (1 .. 24)");
        SaintTheft x = Texts.of(SHRINE);
        for (int n = 1; n <= 24; n++) {
            Edges.due("worth in " + n, x.worth(0, n, 1), 4 * n);
        }
        for (int what = 0; what <= 1; what++) {
            int each = what;
            Edges.due("worth in 0", x.worth(0, 0, what), Edges.BAD);
            Edges.dueForOthers("worth in", 25, Edges.BAD, n -> x.worth(0, n, each));
        }
    }

    static void promise19AlikeOnes() {
        Edges.edge(19, "takes most more in them than were it nowhere; of alike ones the first; how much more.");
        SaintTheft x = Texts.of(SHRINE);
        Edges.due("b and c alike, it is at c", x.worth(0, 3, 0), 1);
        Edges.due("all alike, none gives", Texts.of(SHRINE + "gives = 0;").worth(0, 3, 0), 0);
        Edges.due("all alike, none gives", Texts.of(SHRINE + "gives = 0;").worth(0, 3, 1), 0);
        // More than were it nowhere, not than were it where it is.
        SaintTheft y = Texts.of("church a 0; church b 0; relic r b true; relic s a true; pilgrim p a 1 3; pilgrim q b 1 2; "
                + "gives = gift * relics;");
        Edges.due("a would have 3 more", y.worth(0, 1, 0), 0);
        Edges.due("a would have 3 more", y.worth(0, 1, 1), 3);
        Edges.due("s: a would have 3 more than without any", y.worth(1, 1, 1), 3);
    }

    static void promise19BelowZero() {
        Edges.edge(19, "1 how much more (may be below 0)");
        SaintTheft x = Texts.of("church a 0; relic r a true; relic s a true; pilgrim p a 1 1; gives = 50 - relics * 7;");
        Edges.due("the only church", x.worth(0, 24, 0), 0);
        Edges.due("how much", x.worth(0, 24, 1), -7 * 24);
        SaintTheft y = Texts.of("church a 0; church b 0; relic r a true; relic s a true; relic t b true; pilgrim p a 1 1; "
                + "pilgrim q b 1 9; gives = if gift < 5 then 50 - relics * 7 else 50 - relics * 3;");
        Edges.due("where least is lost", y.worth(0, 2, 0), 1);
        Edges.due("how much", y.worth(0, 2, 1), -6);
    }

    static void promise19NoSuchOnes() {
        Edges.edge(19, "-100000: no such ones.");
        SaintTheft x = Texts.of(SHRINE);
        for (int what = 0; what <= 1; what++) {
            int each = what;
            Edges.dueForOthers("relic", 1, Edges.BAD, relic -> x.worth(relic, 1, each));
        }
        Edges.dueForOthers("what", 2, Edges.BAD, what -> x.worth(0, 1, what));
        Edges.due("without relics", new SaintTheft().worth(0, 1, 0), Edges.BAD);
    }

    // ---- 20 guard, 21 guards

    static void promise20NothingHappens() {
        nothingHappens(20, x -> x.guard(0, 50, 5));
    }

    static void promise20OneToHundred() {
        Edges.edge(20, "GUARD for p (1 .. 100)");
        SaintTheft x = Texts.of(TWO + "caught = watch * 25;");
        for (int p = 1; p <= 100; p++) {
            Edges.due("guard for " + p, x.guard(0, p, 1), (p + 24) / 25);
        }
        Edges.due("guard for 0", x.guard(0, 0, 1), -1);
        Edges.dueForOthers("guard for", 101, -1, p -> x.guard(0, p, 1));
    }

    static void promise20AtLeast() {
        Edges.edge(20, "how many WATCHERS (0 .. 9) at least a CHURCH must have so that CAUGHT is p or more for a theft of n "
                + "nights");
        Edges.due("none, whatever there are", Texts.of(TWO + "caught = 40;").guard(0, 40, 1), 0);
        Edges.due("nine", Texts.of(TWO + "caught = watch / 9 * 40;").guard(0, 40, 1), 9);
        Edges.due("just as many", Texts.of(TWO + "caught = watch * 10;").guard(0, 50, 1), 5);
        Edges.due("one more", Texts.of(TWO + "caught = watch * 10;").guard(0, 51, 1), 6);
        Edges.due("held to 100", Texts.of(TWO + "caught = watch * 9999;").guard(0, 100, 1), 1);
        Edges.due("by its relics", Texts.of(TWO + "caught = relics * watch;").guard(0, 8, 1), 4);
        Edges.due("without relics", Texts.of("church a 0; caught = watch;").guard(0, 8, 1), 8);
    }

    static void promise20NotByNine() {
        Edges.edge(20, "-2: not by nine");
        Edges.due("90 by nine", Texts.of(TWO).guard(0, 90, 1), 9);
        Edges.due("91 not by nine", Texts.of(TWO).guard(0, 91, 1), -2);
        Edges.due("1 not by nine", Texts.of(TWO + "caught = 0;").guard(1, 1, 1), -2);
        Edges.due("divided by 0", Texts.of(TWO + "caught = 100 / (watch - watch);").guard(1, 1, 1), -2);
    }

    static void promise20NoSuchOnes() {
        Edges.edge(20, "NONE: no such ones (n 1 .. 9).");
        SaintTheft x = Texts.of(TWO + "caught = watch * nights;");
        for (int n = 1; n <= 9; n++) {
            Edges.due("guard in " + n, x.guard(0, 9, n), (9 + n - 1) / n);
        }
        Edges.due("guard in 0", x.guard(0, 9, 0), -1);
        Edges.dueForOthers("guard in", 10, -1, n -> x.guard(0, 9, n));
        Edges.due("the last church", x.guard(1, 9, 1), 9);
        Edges.dueForOthers("church", 2, -1, church -> x.guard(church, 9, 1));
        Edges.due("without churches", new SaintTheft().guard(0, 1, 1), -1);
    }

    static void promise21NothingHappens() {
        nothingHappens(21, x -> x.guards(50, 5));
    }

    static void promise21Together() {
        Edges.edge(21, "GUARD of all CHURCHES with RELICS, together");
        Edges.due("without churches", new SaintTheft().guards(100, 9), 0);
        Edges.due("without relics", Texts.of("church a 0; caught = 0;").guards(100, 9), 0);
        Edges.due("only of those with relics", Texts.of("church a 0; church b 0; relic r b true; "
                + "caught = if relics < 1 then 0 else watch;").guards(5, 1), 5);
        Edges.due("one needs none", Texts.of(TWO + "caught = if relics < 2 then watch else 50;").guards(5, 1), 5);
        Edges.due("nine each of six", Texts.of(TextEdges.many("church #x 0; relic #y #x true; ", 6)).guards(90, 1), 54);
    }

    static void promise21NotByNineEach() {
        Edges.edge(21, "-2: not by nine each");
        Edges.due("91 of six", Texts.of(TextEdges.many("church #x 0; relic #y #x true; ", 6)).guards(91, 1), -2);
        Edges.due("the first one not", Texts.of(TWO + "caught = if relics < 2 then watch * 10 else 0;").guards(5, 1), -2);
        Edges.due("the last one not", Texts.of(TWO + "caught = if relics < 2 then 0 else watch * 10;").guards(5, 1), -2);
    }

    static void promise21NoSuchOnes() {
        Edges.edge(21, "NONE: no such ones.");
        SaintTheft x = Texts.of(TWO + "caught = watch * nights * 2;");
        Edges.due("p 1, n 1", x.guards(1, 1), 2);
        Edges.due("p 100, n 9", x.guards(100, 9), 12);
        Edges.due("p 0", x.guards(0, 1), -1);
        Edges.dueForOthers("p", 101, -1, p -> x.guards(p, 1));
        Edges.due("n 0", x.guards(1, 0), -1);
        Edges.dueForOthers("n", 10, -1, n -> x.guards(1, n));
        Edges.due("without churches", new SaintTheft().guards(101, 1), -1);
        Edges.due("without churches", new SaintTheft().guards(1, 10), -1);
    }

    // ---- 22 weak

    static void promise22NothingHappens() {
        nothingHappens(22, x -> x.weak(0) * 1000000 + x.weak(1) * 100000 + x.weak(2));
    }

    static void promise22AlikeOnes() {
        Edges.edge(22, "is likeliest; of alike ones the first.");
        Edges.due("all alike", Texts.of(TWO + "leave = 50; caught = 0;").weak(0), 0);
        SaintTheft none = Texts.of(TWO + "leave = 0; caught = 0;");
        Edges.due("none is likely: which", none.weak(0), 0);
        Edges.due("none is likely: nights", none.weak(1), 1);
        Edges.due("none is likely: how likely", none.weak(2), 0);
        Edges.due("the last one", Texts.of(TWO).weak(0), 2);
        Edges.due("the last one's nights", Texts.of(TWO).weak(1), 9);
        Edges.due("how likely", Texts.of(TWO).weak(2), 9000);
        Edges.due("the last two alike", Texts.of("church a 0; relic r a copy; relic s a true; relic t a true; leave = truth; "
                + "caught = 0;").weak(0), 1);
    }

    static void promise22NoRelics() {
        Edges.edge(22, "-2: there are no RELICS");
        for (int what = 0; what <= 2; what++) {
            Edges.due("a new object", new SaintTheft().weak(what), -2);
            Edges.due("churches alone", Texts.of("church a 0; pilgrim p a 1 1;").weak(what), -2);
        }
    }

    static void promise22NoneForOthers() {
        Edges.edge(22, "NONE for others.");
        SaintTheft x = Texts.of(TWO);
        Edges.dueForOthers("what", 3, -1, what -> x.weak(what));
        SaintTheft none = new SaintTheft();
        Edges.dueForOthers("what, without relics", 3, -1, what -> none.weak(what));
    }

    // ---- 23 barter

    /** p, at a, gives more for TRUE ones; q, at b, for copies. */
    private static final String MARKET = "church a 0; church b 0; pilgrim p a 0 1; pilgrim q b 0 9; "
            + "gives = if gift < 5 then truth * 10 else 50 - truth * 10; ";

    static void promise23NothingHappens() {
        nothingHappens(23, x -> x.barter(24, 0) * 1000 + x.barter(24, 1));
    }

    static void promise23Years() {
        Edges.edge(23, "BARTER for n YEARS (1 .. 24)");
        SaintTheft x = Texts.of(MARKET + "relic r a copy; relic s b true;");
        for (int n = 1; n <= 24; n++) {
            Edges.due("barter in " + n, x.barter(n, 0), 1);
        }
        for (int what = 0; what <= 1; what++) {
            int each = what;
            Edges.due("barter in 0", x.barter(0, what), -1);
            Edges.dueForOthers("barter in", 25, -1, n -> x.barter(n, each));
        }
        // Both gain from the second year on alone.
        SaintTheft y = Texts.of("church a 0; church b 0; pilgrim p a 0 1; pilgrim q b 0 9; relic r a copy; relic s b true; "
                + "gives = if years < 1 then 9 else if gift < 5 then truth * 10 else 50 - truth * 10;");
        Edges.due("in 1", y.barter(1, 0), 0);
        Edges.due("in 2", y.barter(2, 0), 1);
    }

    static void promise23BothTakeMore() {
        Edges.edge(23, "pairs of RELICS of two CHURCHES which, SWAPPED now, have both CHURCHES take more in them");
        String two = "church a 0; church b 0; pilgrim p a 0 1; pilgrim q b 0 9; relic r a copy; relic s b true; gives = ";
        Edges.due("both one more", Texts.of(two + "if gift < 5 then truth else 9 - truth;").barter(1, 0), 1);
        Edges.due("the other one as much", Texts.of(two + "if gift < 5 then truth else 9;").barter(1, 0), 0);
        Edges.due("the first one as much", Texts.of(two + "if gift < 5 then 9 else 9 - truth;").barter(1, 0), 0);
        Edges.due("the other one less", Texts.of(two + "truth;").barter(1, 0), 0);
        Edges.due("both less", Texts.of(two + "if gift < 5 then 9 - truth else truth;").barter(1, 0), 0);
        Edges.due("of one church alone", Texts.of("church a 0; relic r a true; relic s a copy; pilgrim p a 1 1;").barter(1, 0), 0);
    }

    static void promise23HowMany() {
        Edges.edge(23, "have both CHURCHES take more in them: how many; the first.");
        Edges.due("all nine", Texts.of(MARKET + TextEdges.many("relic r# a copy; ", 3) + TextEdges.many("relic s# b true; ", 3))
                .barter(1, 0), 9);
        Edges.due("all nine, the first", Texts.of(MARKET + TextEdges.many("relic r# a copy; ", 3)
                + TextEdges.many("relic s# b true; ", 3)).barter(1, 1), 3);
        Edges.due("without relics", new SaintTheft().barter(1, 0), 0);
        Edges.due("one relic", Texts.of(MARKET + "relic r a copy;").barter(1, 0), 0);
    }

    static void promise23FirstPair() {
        Edges.edge(23, "1 the first pair (10 * the lesser number + the other one, least first; -2: none)");
        Edges.due("0 and 1", Texts.of(MARKET + "relic r a copy; relic s b true;").barter(1, 1), 1);
        Edges.due("0 and 1, the other way", Texts.of(MARKET + "relic s b true; relic r a copy;").barter(1, 1), 1);
        Edges.due("4 and 5", Texts.of(MARKET + "relic aa a true; relic ab b copy; relic ac a true; relic ad a true; "
                + "relic ae b true; relic af a copy;").barter(1, 1), 45);
        Edges.due("0 and 5 ahead of 1 and 5", Texts.of(MARKET + "relic aa a copy; relic ab a copy; relic ac a true; "
                + "relic ad b copy; relic ae b copy; relic af b true;").barter(1, 1), 5);
        Edges.due("none", Texts.of(MARKET + "relic r a true; relic s b copy;").barter(1, 1), -2);
        Edges.due("without relics", new SaintTheft().barter(24, 1), -2);
    }

    static void promise23NoSuchOnes() {
        Edges.edge(23, "NONE: no such ones.");
        SaintTheft x = Texts.of(MARKET + "relic r a copy; relic s b true;");
        Edges.dueForOthers("what", 2, -1, what -> x.barter(1, what));
        Edges.due("n, without relics", new SaintTheft().barter(25, 1), -1);
        Edges.due("what, without relics", new SaintTheft().barter(1, 2), -1);
    }

    // ---- 28 hub, 29 crowd

    static void promise28NothingHappens() {
        nothingHappens(28, x -> x.hub());
    }

    static void promise28NoChurches() {
        Edges.edge(28, "-2: there are no CHURCHES.");
        Edges.due("a new object", new SaintTheft().hub(), -2);
        Edges.due("an empty text", Texts.of("seed 1;").hub(), -2);
        Edges.due("one church", Texts.of("church a 0;").hub(), 0);
    }

    static void promise28NotReached() {
        Edges.edge(28, "are least FAR (999 each that can't be reached), of alike ones the first.");
        Edges.due("no roads: all alike", Texts.of("church a 0; church b 0; church c 0;").hub(), 0);
        Edges.due("b and c reach one another", Texts.of("church a 0; church b 0; church c 0; road c b 99;").hub(), 1);
        // e and d: 1 + 3 * 999, a and c: 297 + 2 * 999, b: 198 + 2 * 999
        Edges.due("one more reached counts more than all lengths",
                Texts.of("church e 0; church d 0; church a 0; church b 0; church c 0; road e d 1; road a b 99; road b c 99;")
                        .hub(), 3);
        Edges.due("two in the middle alike", Texts.of("church d 0; church c 0; church b 0; church a 0; road a b 5; road b c 5; "
                + "road c d 5;").hub(), 1);
        Edges.due("the last one", Texts.of("church a 0; church b 0; church c 0; road a c 3; road b c 3;").hub(), 2);
        Edges.due("alike by the sum, though d is nearer to b", Texts.of("church a 0; church b 0; church c 0; church d 0; road a b 1; "
                + "road a c 1; road a d 9; road d b 8;").hub(), 0);
    }

    static void promise29NothingHappens() {
        nothingHappens(29, x -> x.crowd(0) * 100 + x.crowd(1) * 10 + x.crowd(2));
    }

    static void promise29Bits() {
        Edges.edge(29, "PILGRIMS who go to a CHURCH this year (bits)");
        SaintTheft x = Texts.of("church a 0; church b 0; church c 0; road a b 1; relic r b true; " + TextEdges.many("pilgrim p# a 1 1; ", 5));
        Edges.due("all five", x.crowd(1), 31);
        Edges.due("none: it has no relics", x.crowd(0), 0);
        Edges.due("none: it can't be reached", x.crowd(2), 0);
        SaintTheft y = Texts.of("church a 0; church b 0; relic r a true; pilgrim p b 1 1; pilgrim q a 1 1;");
        Edges.due("who stays goes nowhere", y.crowd(1), 0);
        Edges.due("the second alone", y.crowd(0), 2);
        Edges.due("without pilgrims", Texts.of(TWO).crowd(0), 0);
    }

    static void promise29NoSuchOne() {
        Edges.edge(29, "NONE: no such one.");
        SaintTheft x = Texts.of(TWO + "pilgrim p b 1 1;");
        Edges.due("the last church", x.crowd(1), 1);
        Edges.dueForOthers("crowd", 2, -1, church -> x.crowd(church));
        Edges.due("without churches", new SaintTheft().crowd(0), -1);
    }
}
