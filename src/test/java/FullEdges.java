/** The last church, relic and pilgrim of a text in which there are as many as can be, for each call that takes one. */
final class FullEdges {
    private static final String CHURCHES = "CHURCHES, 6 at most";
    private static final String RELICS = "RELICS, 6 at most";
    private static final String PILGRIMS = "PILGRIMS, 5 at most";

    /**
     * The last pilgrim lives at the last church, with the last relic, which is the TRUE one; no road leads there. The
     * others go to a and give 1 each; each year one wonder is written, for him there.
     */
    private static final String FULL = TextEdges.many("church # 1; ", 5) + "church f 7; "
            + TextEdges.many("relic r# a copy; ", 5) + "relic rf f true; "
            + TextEdges.many("pilgrim p# a 1 1; ", 4) + "pilgrim pe f 8 9; "
            + "road a b 1; road a c 1; road a d 1; road a e 1; road b c 1; road b d 1; road b e 1; road c d 1; road c e 1; "
            + "heals = truth * 100; leave = nights + relics * 10 + wonders + truth; caught = watch * 2 + relics; ";

    private FullEdges() {
    }

    private static SaintTheft after(int years) {
        SaintTheft x = Texts.of(FULL);
        x.years(years);
        return x;
    }

    private static void dueEach(String call, int[] got, int... want) {
        for (int what = 0; what < want.length; what++) {
            Edges.due(call + ", " + what, got[what], want[what]);
        }
    }

    static void promise6TheLastChurch() {
        Edges.edge(6, CHURCHES);
        SaintTheft x = after(3);
        dueEach("church f", new int[] {x.church(5, 0), x.church(5, 1), x.church(5, 2), x.church(5, 3), x.church(5, 4)},
                7, 32, 3, 27, 1);
        dueEach("church a", new int[] {x.church(0, 0), x.church(0, 1), x.church(0, 2), x.church(0, 3), x.church(0, 4)},
                1, 31, 0, 12, 0);
    }

    static void promise7TheLastRelic() {
        Edges.edge(7, RELICS);
        SaintTheft x = after(3);
        dueEach("relic rf", new int[] {x.relic(5, 0), x.relic(5, 1), x.relic(5, 2), x.relic(5, 3)}, 5, 1, 3, 0);
        SaintTheft y = Texts.of(FULL + "leave = 100; caught = 0;");
        y.steal(5, 0, 1);
        y.steal(5, 5, 1);
        Edges.due("carried off", y.relic(5, 3), 2);
        Edges.due("no other one was", y.relic(4, 3) + y.relic(0, 3), 0);
    }

    static void promise8TheLastPilgrim() {
        Edges.edge(8, PILGRIMS);
        SaintTheft x = after(3);
        dueEach("pilgrim pe", new int[] {x.pilgrim(4, 0), x.pilgrim(4, 1), x.pilgrim(4, 2), x.pilgrim(4, 3), x.pilgrim(4, 4)},
                5, 8, 9, 27, 3);
        dueEach("pilgrim pa", new int[] {x.pilgrim(0, 0), x.pilgrim(0, 1), x.pilgrim(0, 2), x.pilgrim(0, 3), x.pilgrim(0, 4)},
                0, 1, 1, 3, 0);
    }

    static void promise9TheLastOnes() {
        Edges.edge(9, PILGRIMS);
        SaintTheft x = Texts.of(FULL + "draws = watch * 100 + relics * 10 + need;");
        dueEach("pe and f", new int[] {x.tells(4, 5, 0), x.tells(4, 5, 1), x.tells(4, 5, 2)}, 718, 9, 0);
        dueEach("pe and e", new int[] {x.tells(4, 4, 0), x.tells(4, 4, 1), x.tells(4, 4, 2)}, 108, 9, 999);
    }

    static void promise10TheLastOnes() {
        Edges.edge(10, RELICS);
        Edges.due("rf and pe", Texts.of(FULL + "heals = truth * 50 + need + wonders;").heals(5, 4), 58);
        Edges.due("re and pe", Texts.of(FULL + "heals = truth * 50 + need + relics * 10;").heals(4, 4), 58);
    }

    static void promise11TheLastOnes() {
        Edges.edge(11, RELICS);
        SaintTheft x = Texts.of(FULL + "leave = 100; caught = 0;");
        Edges.due("out of the last church", x.steal(5, 4, 1), 1);
        Edges.due("none are left there", x.church(5, 1), 0);
        Edges.due("it is here", x.church(4, 1), 32);
        Edges.due("into the last church", x.steal(0, 5, 1), 1);
        Edges.due("it is there", x.church(5, 1), 1);
        Edges.due("caught at the last church", Texts.of(FULL + "caught = 100;").steal(5, 0, 1), 2);
        SaintTheft y = Texts.of(FULL + "caught = 100;");
        y.steal(5, 0, 1);
        Edges.due("a watcher more there", y.church(5, 0), 8);
        Edges.due("none more elsewhere", y.count(14), 13);
    }

    static void promise12TheLastOnes() {
        Edges.edge(12, RELICS);
        SaintTheft x = Texts.of(FULL);
        Edges.due("swap", x.swap(5, 4), true);
        Edges.due("relics at a", x.church(0, 1), 47);
        Edges.due("relics at f", x.church(5, 1), 16);
    }

    static void promise13TheLastChurch() {
        Edges.edge(13, CHURCHES);
        SaintTheft x = Texts.of(FULL);
        Edges.due("watch", x.watch(5, 0), true);
        Edges.due("watchers there", x.church(5, 0), 0);
        Edges.due("watchers of all", x.count(14), 5);
    }

    static void promise15TheLastOnes() {
        Edges.edge(15, "is undone: true");
        SaintTheft x = Texts.of(FULL);
        String before = Edges.seen(x);
        x.swap(5, 4);
        x.watch(5, 9);
        x.years(2);
        x.undo();
        x.undo();
        x.undo();
        Edges.dueSame("all is undone", x, before);
    }

    static void promise16TheLastOnes() {
        Edges.edge(16, PILGRIMS);
        Edges.due("pe", Texts.of(FULL).goes(4), 5);
        Edges.due("pd", Texts.of(FULL).goes(3), 0);
    }

    static void promise17TheLastRelic() {
        Edges.edge(17, RELICS);
        // LEAVE 9 nights + 10 of its relic + 3 wonders + 1, CAUGHT 14 of seven watchers + 1 of its relic.
        Edges.due("rf", after(3).theft(5, 9), (9 + 10 + 3 + 1) * (100 - 15));
        Edges.due("re", after(3).theft(4, 9), (9 + 50) * (100 - 7));
    }

    static void promise18TheLastRelic() {
        Edges.edge(18, RELICS);
        String law = "caught = 0; leave = if relics < 2 then 50 - nights else nights;";
        Edges.due("rf", Texts.of(FULL + law).nights(5), 1);
        Edges.due("re", Texts.of(FULL + law).nights(4), 9);
    }

    static void promise19TheLastOnes() {
        Edges.edge(19, CHURCHES);
        Edges.due("rf is worth most at f", Texts.of(FULL).worth(5, 24, 0), 5);
        Edges.due("how much", Texts.of(FULL).worth(5, 24, 1), 9 * 24);
    }

    static void promise20TheLastChurch() {
        Edges.edge(20, CHURCHES);
        Edges.due("f, with one relic", Texts.of(FULL).guard(5, 19, 1), 9);
        Edges.due("f, with one relic", Texts.of(FULL).guard(5, 20, 1), -2);
        Edges.due("a, with five", Texts.of(FULL).guard(0, 20, 1), 8);
    }

    static void promise21TheLastChurch() {
        Edges.edge(21, CHURCHES);
        Edges.due("of a and f", Texts.of(FULL).guards(19, 1), 7 + 9);
        Edges.due("not of f", Texts.of(FULL).guards(20, 1), -2);
        Edges.due("of f alone", Texts.of(TextEdges.many("church # 1; ", 6) + "relic r f true;").guards(70, 1), 7);
        Edges.due("of b alone", Texts.of(TextEdges.many("church # 1; ", 6) + "relic r b true;").guards(70, 1), 7);
    }

    static void promise22TheLastRelic() {
        Edges.edge(22, RELICS);
        SaintTheft x = Texts.of(FULL + "caught = 0; leave = truth * (50 - nights);");
        dueEach("weak", new int[] {x.weak(0), x.weak(1), x.weak(2)}, 5, 1, 4900);
    }

    static void promise23TheLastOnes() {
        Edges.edge(23, RELICS);
        // f gains by a COPY, a by a TRUE one.
        SaintTheft x = Texts.of(FULL + "gives = if gift < 5 then truth else 9 - truth;");
        Edges.due("how many", x.barter(24, 0), 5);
        Edges.due("the first", x.barter(24, 1), 5);
    }

    static void promise24TheLastChurch() {
        Edges.edge(24, CHURCHES);
        Edges.due("took", after(3).took(5, 60), 540);
    }

    static void promise25TheLastRelic() {
        Edges.edge(25, RELICS);
        Edges.due("rf", after(3).wonders(5, 60), 60);
        Edges.due("re", after(3).wonders(4, 60), 0);
    }

    static void promise26TheLastOnes() {
        Edges.edge(26, PILGRIMS);
        Edges.due("pe", Texts.of(FULL).goesIn(4, 60), 5);
    }

    static void promise27TheLastChurch() {
        Edges.edge(27, CHURCHES);
        Edges.due("which", Texts.of(FULL).rich(60, 0), 5);
        Edges.due("how much", Texts.of(FULL).rich(60, 1), 540);
    }

    static void promise28TheLastChurch() {
        Edges.edge(28, CHURCHES);
        Edges.due("the hub", Texts.of(TextEdges.many("church # 0; ", 6) + TextEdges.many("road # f 1; ", 5)).hub(), 5);
    }

    static void promise29TheLastOnes() {
        Edges.edge(29, PILGRIMS);
        Edges.due("f", Texts.of(FULL).crowd(5), 16);
        Edges.due("a", Texts.of(FULL).crowd(0), 15);
    }

    static void promise30TheLastPilgrim() {
        Edges.edge(30, PILGRIMS);
        Edges.due("pe", after(3).healed(4, 60), 60);
        Edges.due("pd", after(3).healed(3, 60), 0);
    }

    static void promise31TheLastChurch() {
        Edges.edge(31, CHURCHES);
        Edges.due("f", Texts.of(FULL).famed(60), 5);
    }

    static void promise32TheLastRelic() {
        Edges.edge(32, RELICS);
        Edges.due("rf", after(3).year(5, 60, 20), 20);
        Edges.due("re", after(3).year(4, 60, 20), 0);
    }

    static void promise33TheLastOnes() {
        Edges.edge(33, PILGRIMS);
        SaintTheft x = Texts.of(FULL + "heals = need * (1 + truth);");
        Edges.due("rf and pe, upper part", x.belief(5, 4, 1, 1, false), 2);
        Edges.due("rf and pe, lower part", x.belief(5, 4, 1, 1, true), 3);
        Edges.due("16 of 100 and 8 of 100 by none", x.belief(5, 4, 1, 0, true), 44);
    }

    static void promise34TheLastOnes() {
        Edges.edge(34, PILGRIMS);
        Edges.due("rf and pe", Texts.of(FULL + "heals = need * (1 + truth * 8);").certain(5, 4, 90), 1);
        Edges.due("rf and pe", Texts.of(FULL + "heals = need * (1 + truth * 8);").certain(5, 4, 91), 2);
    }

    static void promise35TheLastPilgrim() {
        Edges.edge(35, PILGRIMS);
        SaintTheft x = Texts.of(FULL);
        Edges.due("tell of pe", x.tell(4, true), 0);
        Edges.due("tell of one more", x.tell(5, true), -1);
    }

    static void promise37TheLastOnes() {
        Edges.edge(37, PILGRIMS);
        SaintTheft x = Texts.of(FULL);
        x.tell(4, true);
        Edges.due("which", x.whose(1, 1), 32);
        Edges.due("how many", x.whose(1, 0), 1);
        x.forget();
        x.tell(4, false);
        Edges.due("which", x.whose(1, 1), 31);
    }

    static void promise38TheLastPilgrim() {
        Edges.edge(38, PILGRIMS);
        Edges.due("of pe alone anything can be told", Texts.of(FULL).ask(0), 4);
    }

    static void promise40TheLastOnes() {
        Edges.edge(40, "It goes on from what a SLOT holds");
        SaintTheft x = after(2);
        x.swap(5, 4);
        x.watch(5, 0);
        x.hold(2);
        String before = Edges.seen(x);
        x.swap(5, 4);
        x.watch(5, 9);
        x.years(9);
        x.restore(2);
        Edges.dueSame("restored, but for what can be undone", x, before.replaceFirst("^((?: -?\\d+){11}) 3 ", "$1 0 "));
    }

    static void promise41AllAreFull() {
        Edges.edge(41, "13 SLOTS that hold something");
        SaintTheft x = after(60);
        for (int slot = 0; slot <= 2; slot++) {
            x.hold(slot);
        }
        for (int i = 0; i < 21; i++) {
            x.tell(4, true);
        }
        for (int i = 0; i < 101; i++) {
            x.feed(1, 2, 3, 4, 5);
        }
        for (int i = 0; i < 41; i++) {
            x.watch(5, i % 2);
        }
        int[] dues = {6, 9, 6, 5, 60, 60 * 13, 60, 0, 0, 0, 2000, 40, 20, 3, 5, 32};
        for (int what = 0; what < dues.length; what++) {
            Edges.due("count(" + what + ")", x.count(what), dues[what]);
        }
    }
}
