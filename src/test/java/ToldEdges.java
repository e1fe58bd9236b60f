/** Edges of what is told, of slots and of counts: promises 35 to 41. */
final class ToldEdges {
    /** In the next year all go to a; ann has a wonder at r, s and t, bob at r, cid at s and t; u is at b. */
    private static final String SIGNS = "church a 0; church b 0; relic r a true; relic s a copy; relic t a copy; "
            + "relic u b true; pilgrim ann a 9 0; pilgrim bob a 1 0; pilgrim cid a 2 0; "
            + "heals = if 5 < need then 100 else if need < 2 then truth * 100 else 100 - truth * 100;";

    private ToldEdges() {
    }

    // ---- 35 tell, 36 forget

    static void promise35TwentyAreThere() {
        Edges.edge(35, "NONE, and nothing happens: 20 are there");
        SaintTheft x = Texts.of(SIGNS);
        for (int i = 0; i < 20; i++) {
            Edges.due("tell", x.tell(2, true), i);
        }
        String before = Edges.seen(x);
        Edges.due("a 21st", x.tell(0, false), -1);
        Edges.due("a 22nd", x.tell(2, true), -1);
        Edges.due("a 21st, no such pilgrim", x.tell(3, true), -1);
        Edges.dueSame("a 21st", x, before);
        Edges.due("whose", x.whose(20, 1), 6);
    }

    static void promise35NoSuchPilgrim() {
        Edges.edge(35, "20 are there, no such PILGRIM.");
        SaintTheft x = DeedEdges.gone();
        String before = Edges.seen(x);
        Edges.dueForOthers("tell", 2, -1, pilgrim -> x.tell(pilgrim, true));
        Edges.dueForOthers("tell", 2, -1, pilgrim -> x.tell(pilgrim, false));
        Edges.dueSame("tell of no such pilgrim", x, before);
        Edges.due("the last pilgrim", x.tell(1, true), 2);
        Edges.due("without pilgrims", new SaintTheft().tell(0, true), -1);
    }

    static void promise35NumberedFromZero() {
        Edges.edge(35, "20 at most, numbered from 0 on");
        SaintTheft x = Texts.of(SIGNS);
        for (int i = 0; i < 20; i++) {
            Edges.due("tell", x.tell(i % 3, i % 2 == 0), i);
            Edges.due("told", x.count(12), i + 1);
        }
        Edges.due("no thing done", x.count(11), 0);
        x.forget();
        Edges.due("from 0 on again", x.tell(0, true), 0);
    }

    static void promise36HowMany() {
        Edges.edge(36, "All that was TOLD is forgotten: how many there were.");
        SaintTheft x = Texts.of(SIGNS);
        Edges.due("none", x.forget(), 0);
        x.tell(0, true);
        Edges.due("one", x.forget(), 1);
        Edges.due("none", x.forget(), 0);
        for (int i = 0; i < 21; i++) {
            x.tell(0, true);
        }
        Edges.due("twenty", x.forget(), 20);
        Edges.due("told", x.count(12), 0);
        Edges.due("whose(0, 1)", x.whose(0, 1), 15);
        Edges.due("whose(1, 1)", x.whose(1, 1), -1);
        Edges.due("ask(1)", x.ask(1), -1);
        Edges.due("a new object", new SaintTheft().forget(), 0);
        SaintTheft y = DeedEdges.gone();
        String before = Edges.seen(y);
        y.forget();
        y.tell(0, true);
        y.tell(1, false);
        Edges.dueSame("all else stays", y, before);
    }

    // ---- 37 whose

    static void promise37FirstK() {
        Edges.edge(37, "KNOWN by k: the first k.");
        SaintTheft x = Texts.of(SIGNS);
        Edges.due("nothing told, k 0", x.whose(0, 1), 15);
        Edges.due("nothing told, k 1", x.whose(1, 1), -1);
        x.tell(0, true);
        x.tell(2, true);
        x.tell(1, true);
        int[] dues = {15, 7, 6, 0};
        for (int k = 0; k <= 3; k++) {
            Edges.due("which by " + k, x.whose(k, 1), dues[k]);
            Edges.due("how many by " + k, x.whose(k, 0), Integer.bitCount(dues[k]));
        }
        for (int i = 3; i < 20; i++) {
            x.tell(0, true);
        }
        Edges.due("by all twenty", x.whose(20, 1), 0);
        Edges.due("by 2 still", x.whose(2, 1), 6);
        Edges.due("by 21", x.whose(21, 1), -1);
    }

    static void promise37NoSuchOnes() {
        Edges.edge(37, "NONE: no such ones.");
        SaintTheft x = Texts.of(SIGNS);
        x.tell(0, true);
        for (int what = 0; what <= 1; what++) {
            int each = what;
            Edges.dueForOthers("k", 2, -1, k -> x.whose(k, each));
        }
        Edges.dueForOthers("what", 2, -1, what -> x.whose(1, what));
        SaintTheft none = new SaintTheft();
        Edges.due("without relics: how many", none.whose(0, 0), 0);
        Edges.due("without relics: which", none.whose(0, 1), 0);
        Edges.due("without relics: k 1", none.whose(1, 0), -1);
    }

    static void promise37WhereHeDoesNotGo() {
        Edges.edge(37, "as that YEAR would go by (none where he does not go)");
        SaintTheft x = Texts.of(SIGNS);
        x.tell(0, false);
        Edges.due("none for ann: at u alone, where she does not go", x.whose(1, 1), 8);
        x.forget();
        x.tell(0, true);
        Edges.due("one for ann: never at u, though it would heal", x.whose(1, 1), 7);
        SaintTheft y = Texts.of("church a 0; church b 0; relic r b true; relic s b copy; pilgrim p a 1 1; heals = 100;");
        y.tell(0, false);
        Edges.due("he stays: none at all of them", y.whose(1, 1), 3);
        y.tell(0, true);
        Edges.due("he stays: one at none of them", y.whose(2, 1), 0);
    }

    static void promise37SixRelics() {
        Edges.edge(37, "how many; which (bits)");
        SaintTheft x = Texts.of("church a 0; " + TextEdges.many("relic r# a true; ", 6) + "pilgrim p a 1 1; heals = 100;");
        Edges.due("how many", x.whose(0, 0), 6);
        Edges.due("which", x.whose(0, 1), 63);
        x.tell(0, false);
        Edges.due("how many", x.whose(1, 0), 0);
        Edges.due("which", x.whose(1, 1), 0);
    }

    static void promise37YearThatGoesByNext() {
        Edges.edge(37, "that in the YEAR that goes by next a wonder is written for a PILGRIM at a RELIC unknown, or none");
        SaintTheft x = Texts.of("church a 0; relic r a true; relic s a copy; pilgrim p a 0 0; pilgrim q a 0 0; "
                + "heals = if 0 < wonders then 0 else truth * 100;");
        x.tell(1, true);
        Edges.due("q has none: p's wonder is ahead of his", x.whose(1, 1), 0);
        x.forget();
        x.tell(0, true);
        Edges.due("p has one at r", x.whose(1, 1), 1);
        x.years(1);
        Edges.due("none in the year after", x.whose(1, 1), 0);
        x.undo();
        Edges.due("as it was", x.whose(1, 1), 1);
    }

    static void promise37NothingHappens() {
        QuestionEdges.nothingHappens(37, x -> x.whose(2, 1) * 10 + x.whose(1, 0));
    }

    // ---- 38 ask

    static void promise38FewestAtWorst() {
        Edges.edge(38, "the PILGRIM of whom, once it is told, fewest are left, at worst; of alike ones the first.");
        SaintTheft x = Texts.of(SIGNS);
        Edges.due("of r s t u: ann 3 by 1, bob 1 by 3, cid 2 by 2", x.ask(0), 2);
        x.tell(0, true);
        Edges.due("of r s t: ann 3 by 0, bob 1 by 2, cid 2 by 1", x.ask(1), 1);
        x.tell(2, true);
        Edges.due("of s t: all alike", x.ask(2), 0);
        Edges.due("one pilgrim", Texts.of("church a 0; relic r a true; pilgrim p a 1 1;").ask(0), 0);
        // All twenty are told: it is asked all the same.
        SaintTheft y = Texts.of(SIGNS);
        for (int i = 0; i < 20; i++) {
            y.tell(0, true);
        }
        Edges.due("by all twenty", y.ask(20), 1);
        Edges.due("by 21", y.ask(21), -1);
    }

    static void promise38YearThatGoesByNext() {
        Edges.edge(38, "that in the YEAR that goes by next a wonder is written");
        // In year 0 only p has wonders at one of both, in year 1 only q, then none.
        SaintTheft x = Texts.of("church a 0; relic r a true; relic s a copy; pilgrim p a 0 0; pilgrim q a 1 0; "
                + "heals = if years < need then 0 else if need < years then 0 else truth * 100;");
        Edges.due("in year 0", x.ask(0), 0);
        x.years(1);
        Edges.due("in year 1", x.ask(0), 1);
        x.years(1);
        Edges.due("in year 2: alike", x.ask(0), 0);
    }

    static void promise38NoneAreLeft() {
        Edges.edge(38, "-2: no RELICS are left, no PILGRIMS");
        SaintTheft x = Texts.of(SIGNS);
        x.tell(0, true);
        x.tell(0, false);
        Edges.due("none are left", x.ask(2), -2);
        Edges.due("some are left by fewer", x.ask(1), 1);
        Edges.due("without relics", Texts.of("church a 0; pilgrim p a 1 1;").ask(0), -2);
        Edges.due("without pilgrims", Texts.of("church a 0; relic r a true;").ask(0), -2);
        Edges.due("without either", new SaintTheft().ask(0), -2);
    }

    static void promise38NoSuchK() {
        Edges.edge(38, "NONE: no such k.");
        SaintTheft x = Texts.of(SIGNS);
        Edges.dueForOthers("ask", 1, -1, k -> x.ask(k));
        x.tell(0, true);
        Edges.dueForOthers("ask", 2, -1, k -> x.ask(k));
        Edges.due("without relics", new SaintTheft().ask(1), -1);
    }

    static void promise38NothingHappens() {
        QuestionEdges.nothingHappens(38, x -> x.ask(2) * 10 + x.ask(0));
    }

    // ---- 39 hold, 40 restore

    static void promise39NoSuchSlot() {
        Edges.edge(39, "is held in a SLOT (0 .. 2): true; false: no such one.");
        SaintTheft x = Texts.of(SIGNS);
        for (int slot = 0; slot <= 2; slot++) {
            Edges.due("hold(" + slot + ")", x.hold(slot), true);
            Edges.due("slots that hold something", x.count(13), slot + 1);
        }
        Edges.dueForOthers("hold", 3, 0, slot -> x.hold(slot) ? 1 : 0);
        Edges.due("slots that hold something", x.count(13), 3);
        SaintTheft y = DeedEdges.gone();
        String before = Edges.seen(y);
        Edges.dueForOthers("hold", 3, 0, slot -> y.hold(slot) ? 1 : 0);
        Edges.dueSame("hold in no such slot", y, before);
        Edges.due("a new object", new SaintTheft().hold(0), true);
    }

    static void promise39NotWhatIsTold() {
        Edges.edge(39, "All that goes on (not what is TOLD, nor the tape) is held in a SLOT");
        SaintTheft x = Texts.of(SIGNS);
        x.tell(0, true);
        x.feed(1, 2, 3, 4, 5);
        x.hold(0);
        x.forget();
        x.back(7);
        x.tell(1, false);
        x.tell(2, false);
        x.years(1);
        Edges.due("restore", x.restore(0), true);
        Edges.due("years", x.count(4), 0);
        Edges.due("what is told stays as it is", x.count(12), 2);
        Edges.due("what is told stays as it is", x.whose(2, 1), 8);
        Edges.due("the tape stays as it is", x.count(10), 13);
    }

    static void promise39HeldAgain() {
        Edges.edge(39, "is held in a SLOT (0 .. 2): true");
        SaintTheft x = Texts.of(SIGNS);
        x.hold(1);
        x.years(5);
        Edges.due("hold in place of what is held", x.hold(1), true);
        Edges.due("slots that hold something", x.count(13), 1);
        Edges.due("things that can be undone", x.count(11), 1);
        x.undo();
        Edges.due("years", x.count(4), 0);
        x.restore(1);
        Edges.due("years", x.count(4), 5);
    }

    static void promise40NothingIsHeld() {
        Edges.edge(40, "false, and nothing happens: no such one, nothing is held.");
        SaintTheft x = DeedEdges.gone();
        String before = Edges.seen(x);
        Edges.due("nothing is held", x.restore(0), false);
        Edges.due("nothing is held", x.restore(2), false);
        Edges.dueForOthers("restore", 3, 0, slot -> x.restore(slot) ? 1 : 0);
        Edges.dueSame("restore of nothing", x, before);
        Edges.due("undo", x.undo(), true);
        Edges.due("what was done last is undone", x.count(7), 0);
        Edges.due("a new object", new SaintTheft().restore(0), false);
    }

    static void promise40NothingCanBeUndone() {
        Edges.edge(40, "It goes on from what a SLOT holds (that stays there; nothing can be undone then): true");
        SaintTheft x = DeedEdges.gone();
        x.years(3);
        Edges.due("things that can be undone", x.count(11), 3);
        Edges.due("restore", x.restore(1), true);
        Edges.due("things that can be undone", x.count(11), 0);
        Edges.due("undo", x.undo(), false);
        Edges.due("years", x.count(4), 2);
        x.years(4);
        Edges.due("years", x.count(4), 6);
        Edges.due("undo", x.undo(), true);
        Edges.due("undo once more", x.undo(), false);
        Edges.due("years", x.count(4), 2);
        x.swap(0, 1);
        x.watch(0, 9);
        Edges.due("restore: it stays there", x.restore(1), true);
        Edges.due("slots that hold something", x.count(13), 1);
        Edges.due("relic", x.relic(0, 0), 0);
        Edges.due("watchers", x.church(0, 0), 3);
    }

    static void promise40AllThatGoesOn() {
        Edges.edge(40, "It goes on from what a SLOT holds");
        SaintTheft x = Texts.of("church a 8; church b 0; relic r a true; relic s b copy; pilgrim p a 2 7; heals = 100; leave = 100; "
                + "caught = if 8 < watch then 100 else 0;");
        for (int slot = 0; slot <= 2; slot++) {
            x.years(slot + 1);
            x.steal(0, 1 - x.relic(0, 0), 1);
            x.watch(1, slot + 1);
            x.hold(slot);
        }
        int[] years = {1, 3, 6};
        for (int slot = 2; slot >= 0; slot--) {
            Edges.due("restore", x.restore(slot), true);
            Edges.due("years", x.count(4), years[slot]);
            Edges.due("tried", x.count(7), slot + 1);
            Edges.due("carried off", x.relic(0, 3), slot + 1);
            Edges.due("where it is", x.relic(0, 0), 1 - slot % 2);
            Edges.due("watchers", x.church(1, 0), slot + 1);
        }
        x.watch(1, 9);
        Edges.due("caught", x.steal(0, 0, 1), 2);
        x.hold(0);
        x.restore(2);
        Edges.due("thieves caught", x.count(8), 0);
        x.restore(0);
        Edges.due("thieves caught", x.count(8), 1);
    }

    // ---- 41 count

    static void promise41NoneForOthers() {
        Edges.edge(41, "NONE for others.");
        SaintTheft x = DeedEdges.gone();
        Edges.dueForOthers("count", 16, -1, what -> x.count(what));
        int[] dues = {3, 1, 3, 2, 2, 14, 2, 1, 0, 1, 20, 2, 2, 1, 12, 1};
        for (int what = 0; what <= 15; what++) {
            Edges.due("count(" + what + ")", x.count(what), dues[what]);
        }
    }

    static void promise41CanBeUndone() {
        Edges.edge(41, "11 things that can be undone");
        SaintTheft x = Texts.of(SIGNS);
        for (int i = 1; i <= 41; i++) {
            x.years(1);
            Edges.due("things that can be undone", x.count(11), Math.min(40, i));
        }
        x.undo();
        Edges.due("things that can be undone", x.count(11), 39);
    }

    static void promise41MostOfAll() {
        Edges.edge(41, "14 WATCHERS of all, 15 TRUE RELICS (bits)");
        SaintTheft x = Texts.of(TextEdges.many("church # 9; ", 6) + TextEdges.many("relic r# a true; ", 6));
        Edges.due("watchers of all", x.count(14), 54);
        Edges.due("TRUE relics", x.count(15), 63);
        SaintTheft y = Texts.of("church a 0; " + TextEdges.many("relic r# a copy; ", 5) + "relic z a true;");
        Edges.due("watchers of all", y.count(14), 0);
        Edges.due("the last one is TRUE", y.count(15), 32);
    }
}
