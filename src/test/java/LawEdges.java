/** Edges of what laws tell, and of the calls that ask them: promises 6 to 10. */
final class LawEdges {
    /** The least int, and the greatest one. */
    private static final String LEAST = "(2048*1024*1024)";
    private static final String GREATEST = "(2048*1024*1024-1)";
    private static final String[] VARS = {"relics", "wonders", "far", "need", "gift", "nights", "watch", "years",
        "truth"};
    private static final String WORLD = "church a 6; church b 4; church c 1; road a b 8; relic r a copy; relic s b true; "
            + "relic t b true; relic u b copy; pilgrim p a 2 3; ";

    private LawEdges() {
    }

    /** By DRAWS, which is held to nothing. */
    private static int value(String law) {
        return Texts.of("church a 3; pilgrim p a 0 0; draws = " + law + ";").tells(0, 0, 0);
    }

    private static void dueValue(String law, int want) {
        Edges.due(law, value(law), want);
    }

    static void promise6NoneForOthers() {
        Edges.edge(6, "NONE for others.");
        SaintTheft x = Texts.of(WORLD);
        Edges.due("the last church", x.church(2, 0), 1);
        Edges.due("the last what", x.church(1, 4), 2);
        Edges.dueForOthers("what", 5, -1, what -> x.church(0, what));
        for (int what = 0; what <= 4; what++) {
            int each = what;
            Edges.dueForOthers("church", 3, -1, church -> x.church(church, each));
        }
        SaintTheft six = Texts.of(TextEdges.many("church # 1;", 6));
        Edges.due("the sixth church", six.church(5, 0), 1);
        Edges.due("a seventh church", six.church(6, 0), -1);
    }

    static void promise6Bits() {
        Edges.edge(6, "1 RELICS there (bits)");
        SaintTheft x = Texts.of("church a 0; church b 0; " + TextEdges.many("relic r# a true; ", 6));
        Edges.due("all six", x.church(0, 1), 63);
        Edges.due("none", x.church(1, 1), 0);
        Edges.due("all six are TRUE", x.church(0, 4), 6);
        Edges.due("none is TRUE", x.church(1, 4), 0);
    }

    static void promise7NoneForOthers() {
        Edges.edge(7, "NONE for others.");
        SaintTheft x = Texts.of(WORLD);
        Edges.due("the last relic", x.relic(3, 0), 1);
        Edges.due("the last what", x.relic(3, 3), 0);
        Edges.dueForOthers("what", 4, -1, what -> x.relic(0, what));
        for (int what = 0; what <= 3; what++) {
            int each = what;
            Edges.dueForOthers("relic", 4, -1, relic -> x.relic(relic, each));
        }
        SaintTheft six = Texts.of("church a 0; " + TextEdges.many("relic r# a true; ", 6));
        Edges.due("the sixth relic", six.relic(5, 1), 1);
        Edges.due("a seventh relic", six.relic(6, 1), -1);
    }

    static void promise8NoneForOthers() {
        Edges.edge(8, "NONE for others.");
        SaintTheft x = Texts.of(WORLD + "pilgrim q c 9 9;");
        Edges.due("the last pilgrim", x.pilgrim(1, 0), 2);
        Edges.due("the last what", x.pilgrim(1, 4), 0);
        Edges.dueForOthers("what", 5, -1, what -> x.pilgrim(0, what));
        for (int what = 0; what <= 4; what++) {
            int each = what;
            Edges.dueForOthers("pilgrim", 2, -1, pilgrim -> x.pilgrim(pilgrim, each));
        }
        SaintTheft five = Texts.of("church a 0; " + TextEdges.many("pilgrim p# a 1 1; ", 5));
        Edges.due("the fifth pilgrim", five.pilgrim(4, 1), 1);
        Edges.due("a sixth pilgrim", five.pilgrim(5, 1), -1);
    }

    static void promise9NoSuchOnes() {
        Edges.edge(9, "-100000: no such ones.");
        SaintTheft x = Texts.of(WORLD);
        Edges.due("the last ones", x.tells(0, 2, 2), 999);
        Edges.dueForOthers("what", 3, Edges.BAD, what -> x.tells(0, 0, what));
        for (int what = 0; what <= 2; what++) {
            int each = what;
            Edges.dueForOthers("pilgrim", 1, Edges.BAD, pilgrim -> x.tells(pilgrim, 0, each));
            Edges.dueForOthers("church", 3, Edges.BAD, church -> x.tells(0, church, each));
        }
    }

    static void promise9NotReached() {
        Edges.edge(9, "2 FAR (999: it can't be reached)");
        SaintTheft x = Texts.of(WORLD + "pilgrim q c 1 1; draws = far;");
        Edges.due("from home", x.tells(0, 0, 2), 0);
        Edges.due("by a road", x.tells(0, 1, 2), 8);
        Edges.due("not reached", x.tells(0, 2, 2), 999);
        Edges.due("not reached", x.tells(1, 0, 2), 999);
        Edges.due("the VAR far", x.tells(0, 2, 0), 999);
        Edges.due("the VAR far, from home", x.tells(0, 0, 0), 0);
    }

    static void promise9LeastSum() {
        Edges.edge(9, "(FAR: the least sum of LENGTHS; 999: it can't be reached)");
        String six = TextEdges.many("church # 0; ", 6) + "pilgrim p a 0 0; pilgrim q f 0 0; ";
        SaintTheft x = Texts.of(six + "road a b 99; road b c 99; road c d 99; road d e 99; road e f 99;");
        Edges.due("the longest way", x.tells(0, 5, 2), 495);
        Edges.due("and back", x.tells(1, 0, 2), 495);
        // The roads stand so that the way is found from its end on, too.
        SaintTheft y = Texts.of(six + "road e f 1; road d e 1; road c d 1; road b c 1; road a b 1; road a f 6; "
                + "road a e 3; road b f 4;");
        Edges.due("five of 1 against one of 6, and 3 + 1", y.tells(0, 5, 2), 4);
        // Each church in its turn is the only one by which the way goes.
        for (char by = 'b'; by <= 'e'; by++) {
            SaintTheft v = Texts.of(six + "road a " + by + " 7; road " + by + " f 8;");
            Edges.due("by " + by, v.tells(0, 5, 2), 15);
        }
        SaintTheft u = Texts.of(TextEdges.many("church # 0; ", 6) + "pilgrim p b 0 0; road b a 1; road a f 1; road f c 1;");
        Edges.due("by the first and the last one", u.tells(0, 2, 2), 3);
        SaintTheft z = Texts.of(six + "road a f 3; road a b 1; road b f 1;");
        Edges.due("two roads shorter than one", z.tells(0, 5, 2), 2);
        SaintTheft w = Texts.of(six + "road a f 2; road a b 1; road b f 1; road c d 1;");
        Edges.due("alike", w.tells(0, 5, 2), 2);
        Edges.due("not reached, though there is a road to it", w.tells(0, 3, 2), 999);
    }

    static void promise9FirstIf() {
        Edges.edge(9, "the E of the first if that holds (one less than the other), else the last one");
        dueValue("if 1 < 2 then 3 else 4", 3);
        dueValue("if 2 < 2 then 3 else 4", 4);
        dueValue("if 3 < 2 then 3 else 4", 4);
        dueValue("if 0-1 < 0 then 3 else 4", 3);
        for (int first = 0; first <= 4; first++) {
            StringBuilder law = new StringBuilder();
            for (int i = 0; i < 4; i++) {
                law.append(i < first ? "if 1 < 1 then " : "if 1 < 2 then ").append(i + 10).append(" else ");
            }
            dueValue(law.append("14").toString(), first + 10);
        }
        dueValue("if " + LEAST + " < " + GREATEST + " then 3 else 4", 3);
        dueValue("if " + GREATEST + " < " + LEAST + " then 3 else 4", 4);
        dueValue("if " + LEAST + " < " + LEAST + " then 3 else 4", 4);
    }

    static void promise9Wraps() {
        Edges.edge(9, "ints of 32 bits that wrap");
        dueValue(LEAST, Integer.MIN_VALUE);
        dueValue(GREATEST, Integer.MAX_VALUE);
        dueValue(GREATEST + " + 1", Integer.MIN_VALUE);
        dueValue(LEAST + " - 1", Integer.MAX_VALUE);
        dueValue("0 - " + LEAST, Integer.MIN_VALUE);
        dueValue(LEAST + " + " + LEAST, 0);
        dueValue(LEAST + " * (0-1)", Integer.MIN_VALUE);
        dueValue(GREATEST + " * 2", -2);
        dueValue(GREATEST + " * " + GREATEST, 1);
        dueValue("4096 * 4096 * 256", 0);
        dueValue("9999 * 9999 * 9999", (int) (9999L * 9999 * 9999));
        dueValue("if " + GREATEST + " + 1 < 0 then 3 else 4", 3);
    }

    static void promise9TowardsZero() {
        Edges.edge(9, "/ rounded towards 0");
        dueValue("7 / 2", 3);
        dueValue("(0-7) / 2", -3);
        dueValue("7 / (0-2)", -3);
        dueValue("(0-7) / (0-2)", 3);
        dueValue("1 / 2", 0);
        dueValue("(0-1) / 2", 0);
        dueValue("0 / (0-5)", 0);
        dueValue(LEAST + " / (0-1)", Integer.MIN_VALUE);
        dueValue(LEAST + " / 1", Integer.MIN_VALUE);
        dueValue(GREATEST + " / (0-1)", -Integer.MAX_VALUE);
        dueValue(LEAST + " / " + LEAST, 1);
        dueValue(LEAST + " / " + GREATEST, -1);
    }

    static void promise9DividedByZero() {
        Edges.edge(9, "a LAW in which something that is looked at is divided by 0 is 0");
        dueValue("5 + 1 / 0", 0);
        dueValue("0 / 0", 0);
        dueValue("1 / 0 * 0 + 5", 0);
        dueValue("0 * (1 / (2 - 2)) + 5", 0);
        dueValue("5 + 3 / nights", 0);
        dueValue("if 1 / 0 < 1 then 2 else 3", 0);
        dueValue("if 1 < 1 / 0 then 2 else 3", 0);
        dueValue("if 0 - 1 < 1 / 0 then 2 else 3", 0);
        dueValue("if 1 < 2 then 1 / 0 else 3", 0);
        dueValue("if 2 < 1 then 2 else 1 / 0", 0);
        dueValue("if 2 < 1 then 2 else if 1 / 0 < 1 then 3 else 4", 0);
    }

    static void promise9NotLookedAt() {
        Edges.edge(9, "something that is looked at");
        dueValue("if 2 < 1 then 1 / 0 else 3", 3);
        dueValue("if 1 < 2 then 3 else 1 / 0", 3);
        dueValue("if 1 < 2 then 3 else if 1 / 0 < 1 then 4 else 5", 3);
        dueValue("if 2 < 1 then 1 / 0 else if 1 < 2 then 3 else 1 / 0", 3);
        dueValue("if 2 < 1 then 1/0 else if 2 < 1 then 1/0 else if 2 < 1 then 1/0 else if 2 < 1 then 1/0 else 3", 3);
    }

    static void promise9LongestLaw() {
        Edges.edge(9, "2 ROOM: a 401st TOKEN");
        // 400 TOKENS each.
        SaintTheft x = Texts.of("church a 3;pilgrim p a 4 5;gives=2;draws=1" + "+1".repeat(191) + ";");
        Edges.due("the longest law", x.tells(0, 0, 0), 192);
        Edges.due("the one ahead of it", x.tells(0, 0, 1), 2);
        SaintTheft y = Texts.of("draws=1" + "-1".repeat(193) + ";church a 3;pilgrim p a 4 5;");
        Edges.due("the longest law", y.tells(0, 0, 0), -192);
        Edges.due("one that was not told", y.tells(0, 0, 1), 5);
    }

    static void promise9DeepestLaw() {
        Edges.edge(9, "a 7th ( within one another (at it)");
        String deep = "1+2*(1+2*(1+2*(1+2*(1+2*(1+2*(1+2*3))))))";
        dueValue(deep, 511);
        dueValue("if " + deep + " < " + deep + "+1 then " + deep + " else 0", 511);
        dueValue("if 1 < 0 then 1 else if 1 < 0 then 2 else if 1 < 0 then 3 else if " + deep + " < 512 then " + deep + " else 0", 511);
        dueValue("1-(2-(3-(4-(5-(6-(7))))))", 4);
    }

    static void promise9VarsNotTold() {
        Edges.edge(9, "a VAR not told for a LAW is 0 in it");
        int[] dues = {3, 0, 8, 2, 3, 0, 4, 0, 2};
        for (int i = 0; i < VARS.length; i++) {
            SaintTheft x = Texts.of(WORLD + "draws = " + VARS[i] + "; gives = " + VARS[i] + ";");
            Edges.due("DRAWS = " + VARS[i], x.tells(0, 1, 0), dues[i]);
            Edges.due("GIVES = " + VARS[i], x.tells(0, 1, 1), dues[i]);
        }
        // Nights stay 0 there, though another LAW was just asked with nine of them.
        SaintTheft x = Texts.of(WORLD + "draws = nights; gives = nights;");
        x.theft(0, 9);
        Edges.due("DRAWS = nights", x.tells(0, 1, 0), 0);
        Edges.due("GIVES = nights", x.tells(0, 1, 1), 0);
    }

    static void promise9YearsForAll() {
        Edges.edge(9, "years (that went by) for all");
        SaintTheft x = Texts.of(WORLD + "draws = years; gives = years; heals = years; leave = years; caught = years;");
        for (int years : new int[] {0, 1, 60}) {
            int gone = x.years(years);
            Edges.due("DRAWS", x.tells(0, 0, 0), gone);
            Edges.due("GIVES", x.tells(0, 0, 1), gone);
            Edges.due("HEALS", x.heals(0, 0), gone);
            Edges.due("LEAVE and CAUGHT", x.theft(0, 1), gone * (100 - gone));
        }
    }

    static void promise9GivesHeld() {
        Edges.edge(9, "DRAWS; GIVES, held to 0 .. 99.");
        String[] laws = {"0 - 1", "0", "1", "98", "99", "100", LEAST, GREATEST};
        int[] dues = {0, 0, 1, 98, 99, 99, 0, 99};
        int[] draws = {-1, 0, 1, 98, 99, 100, Integer.MIN_VALUE, Integer.MAX_VALUE};
        for (int i = 0; i < laws.length; i++) {
            SaintTheft x = Texts.of(WORLD + "gives = " + laws[i] + "; draws = " + laws[i] + ";");
            Edges.due("GIVES = " + laws[i], x.tells(0, 0, 1), dues[i]);
            Edges.due("DRAWS = " + laws[i] + " is not held", x.tells(0, 0, 0), draws[i]);
        }
    }

    static void promise10NoSuchOnes() {
        Edges.edge(10, "HEALS of a RELIC for a PILGRIM now; NONE: no such ones.");
        SaintTheft x = Texts.of(WORLD + "heals = 7;");
        Edges.due("the last ones", x.heals(3, 0), 7);
        Edges.dueForOthers("relic", 4, -1, relic -> x.heals(relic, 0));
        Edges.dueForOthers("pilgrim", 1, -1, pilgrim -> x.heals(0, pilgrim));
        Edges.due("without pilgrims", Texts.of("church a 0; relic r a true;").heals(0, 0), -1);
        Edges.due("without relics", Texts.of("church a 0; pilgrim p a 0 0;").heals(0, 0), -1);
    }

    static void promise10Held() {
        Edges.edge(10, "truth: 1 if it is TRUE, else 0), held to 0 .. 100.");
        String[] laws = {"0 - 1", "0", "1", "99", "100", "101", LEAST, GREATEST, "truth", "1 / 0"};
        int[] dues = {0, 0, 1, 99, 100, 100, 0, 100, 1, 0};
        for (int i = 0; i < laws.length; i++) {
            Edges.due("HEALS = " + laws[i], Texts.of(WORLD + "heals = " + laws[i] + ";").heals(1, 0), dues[i]);
        }
        Edges.due("HEALS = truth of a COPY", Texts.of(WORLD + "heals = truth;").heals(3, 0), 0);
    }

    static void promise10VarsNotTold() {
        Edges.edge(10, "a VAR not told for a LAW is 0 in it");
        int[] dues = {3, 0, 8, 2, 3, 0, 0, 0, 1};
        for (int i = 0; i < VARS.length; i++) {
            SaintTheft x = Texts.of(WORLD + "heals = " + VARS[i] + ";");
            x.theft(1, 9);
            x.tells(0, 1, 0);
            Edges.due("HEALS = " + VARS[i], x.heals(1, 0), dues[i]);
        }
        SaintTheft x = Texts.of(WORLD + "pilgrim q c 1 1; heals = far / 10;");
        Edges.due("HEALS = far / 10, not reached", x.heals(1, 1), 99);
    }
}
