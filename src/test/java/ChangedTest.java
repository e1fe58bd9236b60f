/**
 * What is looked at once years went by, watchers were set and a relic was carried off: how all is now at the church
 * where it is now, not what the text told, nor the relic's own wonders, nor the church to which a thief would bring it.
 */
public final class ChangedTest {
    private static final String[] VARS = {"relics", "wonders", "far", "need", "gift", "nights", "watch", "years", "truth"};

    private static int wrong;

    private static void due(int promise, String call, long got, long want) {
        if (got != want) {
            wrong++;
            System.out.println("promise " + promise + ": " + call + " answered " + got + ", due is " + want);
        }
    }

    public static void main(String[] args) {
        whatWasWritten();
        eachVarOfDrawsAndGives();
        eachVarOfHeals();
        eachVarOfLeaveAndCaught();
        theftsByItsOwnChurch();
        yearsFromHere();
        undoneAndRestored();
        System.out.println(wrong == 0 ? "all is as it was changed" : wrong + " answers are not as due");
        if (wrong != 0) {
            System.exit(1);
        }
    }

    /**
     * Two years, in each of which ann has a wonder at r in a, and bob none in b; then b has 8 watchers and r is carried
     * off to b. From then on (two years gone, two nights or more), each law tells what is given.
     */
    private static SaintTheft changed(String draws, String heals, String gives, String leave, String caught) {
        SaintTheft x = Texts.of("church a 3; church b 5; church c 0; road a b 7; relic r a true; relic s a copy; "
                + "relic t b copy; pilgrim ann a 4 6; pilgrim bob b 2 1; "
                + "draws = if years < 2 then 100 - far else " + draws + "; heals = if years < 2 then truth * 100 else "
                + heals + "; gives = if years < 2 then 1 else " + gives + "; leave = if nights < 2 then 100 else " + leave
                + "; caught = if nights < 2 then 0 else " + caught + ";");
        due(14, "years(2)", x.years(2), 2);
        due(13, "watch(1, 8)", x.watch(1, 8) ? 1 : 0, 1);
        due(11, "steal(0, 1, 1)", x.steal(0, 1, 1), 1);
        return x;
    }

    private static SaintTheft plain() {
        return changed("100 - far", "0", "1", "100", "0");
    }

    private static void whatWasWritten() {
        SaintTheft x = plain();
        int[][] churches = {{3, 2, 2, 2, 0}, {8, 5, 0, 2, 1}, {0, 0, 0, 0, 0}};
        for (int church = 0; church < 3; church++) {
            for (int what = 0; what <= 4; what++) {
                due(6, "church(" + church + ", " + what + ")", x.church(church, what), churches[church][what]);
            }
        }
        int[][] relics = {{1, 1, 2, 1}, {0, 0, 0, 0}, {1, 0, 0, 0}};
        for (int relic = 0; relic < 3; relic++) {
            for (int what = 0; what <= 3; what++) {
                due(7, "relic(" + relic + ", " + what + ")", x.relic(relic, what), relics[relic][what]);
            }
        }
        int[][] pilgrims = {{0, 4, 6, 2, 2}, {1, 2, 1, 2, 0}};
        for (int pilgrim = 0; pilgrim < 2; pilgrim++) {
            for (int what = 0; what <= 4; what++) {
                due(8, "pilgrim(" + pilgrim + ", " + what + ")", x.pilgrim(pilgrim, what), pilgrims[pilgrim][what]);
            }
        }
        int[] counts = {3, 1, 3, 2, 2, 4, 2, 1, 0, 1, 0, 3, 0, 0, 11, 1};
        for (int what = 0; what < counts.length; what++) {
            due(41, "count(" + what + ")", x.count(what), counts[what]);
        }
    }

    private static void eachVarOfDrawsAndGives() {
        int[] annAtA = {1, 2, 0, 4, 6, 0, 3, 2, 0};
        int[] annAtB = {2, 0, 7, 4, 6, 0, 8, 2, 1};
        int[] annAtC = {0, 0, 999, 4, 6, 0, 0, 2, 0};
        int[] bobAtA = {1, 2, 7, 2, 1, 0, 3, 2, 0};
        int[] bobAtB = {2, 0, 0, 2, 1, 0, 8, 2, 1};
        int[] bobAtC = {0, 0, 999, 2, 1, 0, 0, 2, 0};
        int[][][] all = {{annAtA, annAtB, annAtC}, {bobAtA, bobAtB, bobAtC}};
        for (int i = 0; i < VARS.length; i++) {
            SaintTheft x = changed(VARS[i], "0", VARS[i], "100", "0");
            for (int pilgrim = 0; pilgrim < 2; pilgrim++) {
                for (int church = 0; church < 3; church++) {
                    String of = " = " + VARS[i] + " of pilgrim " + pilgrim + " and church " + church;
                    int want = all[pilgrim][church][i];
                    due(9, "DRAWS" + of, x.tells(pilgrim, church, 0), want);
                    due(9, "GIVES" + of, x.tells(pilgrim, church, 1), Math.min(99, want));
                }
                int[][] his = all[pilgrim];
                due(16, "who is drawn by " + VARS[i], x.goes(pilgrim), his[1][i] > his[0][i] ? 1 : 0);
            }
        }
    }

    private static void eachVarOfHeals() {
        int[] rForAnn = {2, 0, 7, 4, 6, 0, 0, 2, 1};
        int[] sForAnn = {1, 2, 0, 4, 6, 0, 0, 2, 0};
        int[] tForBob = {2, 0, 0, 2, 1, 0, 0, 2, 0};
        int[] sForBob = {1, 2, 7, 2, 1, 0, 0, 2, 0};
        for (int i = 0; i < VARS.length; i++) {
            SaintTheft x = changed("0", VARS[i], "0", "100", "0");
            due(10, "r for ann by " + VARS[i], x.heals(0, 0), rForAnn[i]);
            due(10, "s for ann by " + VARS[i], x.heals(1, 0), sForAnn[i]);
            due(10, "t for bob by " + VARS[i], x.heals(2, 1), tForBob[i]);
            due(10, "s for bob by " + VARS[i], x.heals(1, 1), sForBob[i]);
            // 10 of 100 if it were TRUE, what the VAR tells if it were a COPY: 10 by 10 and as many.
            SaintTheft y = changed("0", "truth * 10 + (1 - truth) * " + VARS[i], "0", "100", "0");
            int upper = y.belief(1, 0, 1, 1, false);
            int lower = y.belief(1, 0, 1, 1, true);
            due(33, "one wonder at s for ann, by " + VARS[i], upper * (10 + sForAnn[i]), lower * 10);
        }
    }

    private static void eachVarOfLeaveAndCaught() {
        int[] leaveOfR = {2, 0, 0, 0, 0, 3, 0, 2, 1};
        int[] leaveOfS = {1, 2, 0, 0, 0, 3, 0, 2, 0};
        int[] leaveOfT = {2, 0, 0, 0, 0, 3, 0, 2, 0};
        int[] caughtAtB = {2, 0, 0, 0, 0, 3, 8, 2, 0};
        int[] caughtAtA = {1, 0, 0, 0, 0, 3, 3, 2, 0};
        for (int i = 0; i < VARS.length; i++) {
            SaintTheft x = changed("0", "0", "0", VARS[i], "0");
            due(17, "r leaves by " + VARS[i], x.theft(0, 3), 100 * leaveOfR[i]);
            due(17, "s leaves by " + VARS[i], x.theft(1, 3), 100 * leaveOfS[i]);
            due(17, "t leaves by " + VARS[i], x.theft(2, 3), 100 * leaveOfT[i]);
            SaintTheft y = changed("0", "0", "0", "100", VARS[i]);
            due(17, "r is watched by " + VARS[i], y.theft(0, 3), 100 * (100 - caughtAtB[i]));
            due(17, "s is watched by " + VARS[i], y.theft(1, 3), 100 * (100 - caughtAtA[i]));
            due(17, "t is watched by " + VARS[i], y.theft(2, 3), 100 * (100 - caughtAtB[i]));
            boolean byWatchers = VARS[i].equals("watch");
            for (int p = 1; p <= 10; p++) {
                int b = byWatchers ? p < 10 ? p : -2 : caughtAtB[i] >= p ? 0 : -2;
                int a = byWatchers ? p < 10 ? p : -2 : caughtAtA[i] >= p ? 0 : -2;
                due(20, "b by " + VARS[i] + " for " + p, y.guard(1, p, 3), b);
                due(20, "a by " + VARS[i] + " for " + p, y.guard(0, p, 3), a);
                due(21, "both by " + VARS[i] + " for " + p, y.guards(p, 3), a < 0 || b < 0 ? -2 : a + b);
            }
        }
    }

    /** Sure thefts, by one law that tells otherwise of the church to which it goes, or of the relic itself. */
    private static void theftsByItsOwnChurch() {
        SaintTheft x = changed("0", "0", "0", "100", "if relics < 2 then 100 else 0");
        due(11, "one relic at a: caught", x.steal(1, 1, 3), 2);
        due(11, "two relics at b: carried off", x.steal(0, 0, 3), 1);
        SaintTheft y = changed("0", "0", "0", "100", "watch / 8 * 100");
        due(11, "eight watchers at b: caught", y.steal(0, 2, 3), 2);
        due(13, "watch(0, 0)", y.watch(0, 0) ? 1 : 0, 1);
        due(11, "none at a: carried off", y.steal(1, 1, 3), 1);
        SaintTheft z = changed("0", "0", "0", "wonders * 50", "0");
        due(11, "no wonder at b, though two at r: stays", z.steal(0, 0, 3), 0);
        due(11, "two wonders at a, though none at s: carried off", z.steal(1, 2, 3), 1);
        due(11, "no wonder at c: stays", z.steal(1, 0, 3), 0);
        SaintTheft w = changed("0", "0", "0", "truth * 100", "0");
        due(11, "a COPY beside a TRUE one: stays", w.steal(2, 0, 3), 0);
        due(11, "the TRUE one: carried off", w.steal(0, 2, 3), 1);
    }

    private static void yearsFromHere() {
        int[] annAtA = {1, 2, 0, 4, 6, 0, 3, 2, 0};
        int[] bobAtB = {2, 0, 0, 2, 1, 0, 8, 2, 1};
        for (int i = 0; i < VARS.length; i++) {
            SaintTheft x = changed("100 - far", "0", VARS[i], "100", "0");
            due(24, "a by " + VARS[i], x.took(0, 1), annAtA[i]);
            due(24, "b by " + VARS[i], x.took(1, 1), bobAtB[i]);
            due(27, "the richer by " + VARS[i], x.rich(1, 0), bobAtB[i] > annAtA[i] ? 1 : 0);
            x.years(1);
            due(8, "ann gave by " + VARS[i], x.pilgrim(0, 3), 2 + annAtA[i]);
            due(8, "bob gave by " + VARS[i], x.pilgrim(1, 3), 2 + bobAtB[i]);
            due(6, "a took by " + VARS[i], x.church(0, 3), 2 + annAtA[i]);
            due(6, "b took by " + VARS[i], x.church(1, 3), 2 + bobAtB[i]);
        }
        SaintTheft y = changed("100 - far", "truth * 100", "1", "100", "0");
        due(25, "wonders at r in b", y.wonders(0, 3), 3);
        due(30, "for bob", y.healed(1, 3), 3);
        due(30, "for ann", y.healed(0, 3), 0);
        due(31, "a has two, b one", y.famed(1), 0);
        due(31, "two each: the first", y.famed(2), 0);
        due(31, "b has three", y.famed(3), 1);
        due(32, "a wonder more, by each seed", y.year(0, 1, 20), 20);
        due(37, "all relics, as nothing is known", y.whose(0, 1), 7);
        y.tell(1, true);
        due(37, "bob's wonder was at r", y.whose(1, 1), 1);
    }

    private static void undoneAndRestored() {
        SaintTheft x = plain();
        x.hold(1);
        due(15, "undo of the theft", x.undo() ? 1 : 0, 1);
        due(7, "it is where it was", x.relic(0, 0), 0);
        due(7, "never carried off", x.relic(0, 3), 0);
        due(41, "never tried", x.count(7), 0);
        due(15, "undo of the watchers", x.undo() ? 1 : 0, 1);
        due(6, "as told", x.church(1, 0), 5);
        due(15, "undo of the years", x.undo() ? 1 : 0, 1);
        due(41, "no year went by", x.count(4), 0);
        due(6, "no wonders", x.church(0, 2), 0);
        due(15, "nothing more", x.undo() ? 1 : 0, 0);
        due(40, "restore", x.restore(1) ? 1 : 0, 1);
        due(7, "carried off again", x.relic(0, 0), 1);
        due(41, "tried", x.count(7), 1);
        due(6, "its watchers", x.church(1, 0), 8);
        due(6, "its wonders", x.church(0, 2), 2);
        due(15, "nothing can be undone", x.undo() ? 1 : 0, 0);
    }
}
