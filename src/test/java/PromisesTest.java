/**
 * Each promise by its number, with answers that were worked out from the document by hand: ordinary inputs, the
 * edges that the document names, wrong inputs.
 */
public final class PromisesTest {
    private static final int BAD = -100000;

    /** All wonders are sure or out of the question; bob is drawn alike by a and b, cid can't reach any relic. */
    private static final String TOWN = "church a 3; church b 0; church c 5; church d 1; road a b 10; road b c 4; "
            + "relic r a true; relic s a copy; relic t b true; pilgrim ann a 3 2; pilgrim bob c 5 7; pilgrim cid d 9 9; "
            + "draws = relics * 10 - far; heals = truth * 100; gives = gift + relics; leave = nights * 10 + truth * 20; "
            + "caught = watch * nights; seed 1;";

    private static int wrong;
    private static int promise;

    private static void due(String call, long got, long want) {
        if (got != want) {
            wrong++;
            System.out.println("promise " + promise + ": " + call + " answered " + got + ", due is " + want);
        }
    }

    private static void due(String call, boolean got, boolean want) {
        due(call, got ? 1 : 0, want ? 1 : 0);
    }

    private static void dueFault(String text, int fault, int place) {
        SaintTheft x = new SaintTheft();
        due("read of \"" + text + "\"", Texts.read(x, text), fault);
        due("place in \"" + text + "\"", x.place(), place);
    }

    public static void main(String[] args) {
        promise1();
        promise2();
        promise3();
        promise4Syntax();
        promise4Laws();
        promise4Room();
        promise4Names();
        promise4Numbers();
        promise4Changes();
        promise5();
        promise6();
        promise7();
        promise8();
        promise9();
        promise9Values();
        promise9Vars();
        promise10();
        promise11();
        promise11Lots();
        promise12();
        promise13();
        promise14();
        promise14ByOrder();
        promise14Lots();
        promise15();
        promise16();
        promise17();
        promise18();
        promise19();
        promise20();
        promise21();
        promise22();
        promise23();
        promise24();
        promise25();
        promise26();
        promise27();
        promise28();
        promise29();
        promise30();
        promise31();
        promise32();
        promise33();
        promise34();
        promise35();
        promise36();
        promise37();
        promise38();
        promise39();
        promise40();
        promise41();
        System.out.println(wrong == 0 ? "all promises are kept" : wrong + " answers are not as due");
        if (wrong != 0) {
            System.exit(1);
        }
    }

    private static void promise1() {
        promise = 1;
        SaintTheft x = new SaintTheft();
        for (int what = 0; what <= 15; what++) {
            due("count(" + what + ")", x.count(what), 0);
        }
        due("church(0, 0)", x.church(0, 0), -1);
        due("relic(0, 0)", x.relic(0, 0), -1);
        due("pilgrim(0, 0)", x.pilgrim(0, 0), -1);
        due("place()", x.place(), -1);
        due("NONE", SaintTheft.NONE, -1);
    }

    private static void promise2() {
        promise = 2;
        SaintTheft x = new SaintTheft();
        for (int many = 20; many <= 2000; many += 20) {
            due("feed", x.feed(0, -1, 7, Integer.MIN_VALUE, Integer.MAX_VALUE), many);
        }
        due("feed when full", x.feed(1, 2, 3, 4, 5), -1);
        due("count(10)", x.count(10), 2000);
        due("back(19)", x.back(19), 1981);
        due("feed, one byte short of room", x.feed(1, 2, 3, 4, 5), -1);
        due("back(1)", x.back(1), 1980);
        due("feed, just room", x.feed(1, 2, 3, 4, 5), 2000);
        SaintTheft y = new SaintTheft();
        // "seed" " 12;" "seed" " 34;" and a byte 255 as the first of the last word
        y.feed(0x73656564, 0x2031323b, 0x73656564, 0x2033343b, 0xff202020);
        due("read", y.read(), 1);
        due("place", y.place(), 16);
    }

    private static void promise3() {
        promise = 3;
        SaintTheft x = new SaintTheft();
        due("back(0) of nothing", x.back(0), 0);
        due("back(1) of nothing", x.back(1), -1);
        x.feed(0x73656564, 0x2031323b, 0x20202020, 0x20202020, 0x20202020);
        due("back(-1)", x.back(-1), -1);
        due("back(least)", x.back(Integer.MIN_VALUE), -1);
        due("back(21)", x.back(21), -1);
        due("count(10)", x.count(10), 20);
        due("back(0)", x.back(0), 20);
        due("back(13)", x.back(13), 7);
        due("read without its ;", x.read(), 1);
        due("place", x.place(), 7);
        x.feed(0x40404040, 0x40404040, 0x40404040, 0x40404040, 0x40404040);
        due("back(20)", x.back(20), 0);
        due("read of nothing", x.read(), 0);
    }

    private static void promise4Syntax() {
        promise = 4;
        dueFault("", 0, -1);
        dueFault(" \t\r\n ", 0, -1);
        dueFault("church a 1;", 0, -1);
        dueFault("church\ta\n1\r;", 0, -1);
        dueFault("church a1;seed5;church b2;", 0, -1);
        dueFault("church\u000ba 1;", 1, 6);
        dueFault("church a 1;\0", 1, 11);
        dueFault("Church a 1;", 1, 0);
        dueFault("church A 1;", 1, 7);
        dueFault("church \u00e9 1;", 1, 7);
        dueFault("church a_b 1;", 1, 8);
        dueFault("churcha 1;", 1, 0);
        dueFault("church abcdefgh 1;", 0, -1);
        dueFault("church abcdefghi 1;", 1, 7);
        dueFault("church a 0001;", 0, -1);
        dueFault("church a 00001;", 1, 9);
        dueFault("church a", 1, 8);
        dueFault("church a 1 ", 1, 11);
        dueFault(";", 1, 0);
        dueFault("church a 1;;", 1, 11);
        dueFault("church 1 a;", 1, 7);
        for (String word : Model.WORDS) {
            dueFault("church " + word + " 1;", 1, 7);
        }
        dueFault("church a 1; road a 5;", 1, 19);
        dueFault("church a 1; relic r a;", 1, 21);
        dueFault("church a 1; relic r a false;", 1, 22);
        dueFault("church a 1; pilgrim p a 1;", 1, 25);
        dueFault("seed;", 1, 4);
        dueFault("seed 1 2;", 1, 7);
        dueFault("seed -1;", 1, 5);
    }

    private static void promise4Laws() {
        dueFault("draws = ;", 1, 8);
        dueFault("draws 1;", 1, 6);
        dueFault("draws = 1 +;", 1, 11);
        dueFault("draws = -1;", 1, 8);
        dueFault("draws = 1 2;", 1, 10);
        dueFault("draws = gold;", 1, 8);
        dueFault("draws = seed;", 1, 8);
        dueFault("draws = (1;", 1, 10);
        dueFault("draws = 1);", 1, 9);
        dueFault("draws = ();", 1, 9);
        dueFault("draws = 1 < 2;", 1, 10);
        dueFault("draws = if 1 < 2 then 3 else 4;", 0, -1);
        dueFault("draws = if 1 < 2 then 3 else if 4 < 5 then 6 else 7;", 0, -1);
        dueFault("draws = if 1 then 3 else 4;", 1, 13);
        dueFault("draws = if 1 < 2 then 3;", 1, 23);
        dueFault("draws = if 1 < 2 then if 3 < 4 then 5 else 6 else 7;", 1, 22);
        dueFault("draws = (if 1 < 2 then 3 else 4);", 1, 9);
        dueFault("draws = 1 + if 1 < 2 then 3 else 4;", 1, 12);
        dueFault("draws=relics+wonders*far/need-gift+nights-watch*years/truth;", 0, -1);
        dueFault("draws = 1;heals = 2;gives = 3;leave = 4;caught = 5;draws = 6;seed 1;seed 2;", 0, -1);
    }

    private static String many(String tells, int many) {
        StringBuilder text = new StringBuilder();
        for (int i = 0; i < many; i++) {
            text.append(tells.replace('#', (char) ('a' + i)));
        }
        return text.toString();
    }

    private static void promise4Room() {
        String six = many("church # 1;", 6);
        dueFault(six, 0, -1);
        dueFault(six + "church g 1;", 2, 66);
        dueFault(six + "church", 2, 66);
        dueFault(six + "church church", 2, 66);
        String relics = "church a 1;" + many("relic r# a true;", 6);
        dueFault(relics, 0, -1);
        dueFault(relics + "relic z a copy;", 2, relics.length());
        String pilgrims = "church a 1;" + many("pilgrim p# a 1 1;", 5);
        dueFault(pilgrims, 0, -1);
        dueFault(pilgrims + "pilgrim z a 1 1;", 2, pilgrims.length());
        String roads = six + "road a b 1;road a c 1;road a d 1;road a e 1;road a f 1;road b c 1;road b d 1;road b e 1;"
                + "road b f 1;";
        dueFault(roads, 0, -1);
        dueFault(roads + "road c d 1;", 2, roads.length());
        String fourIfs = "draws = " + "if 1 < 2 then 3 else ".repeat(4);
        dueFault(fourIfs + "4;", 0, -1);
        dueFault(fourIfs + "if 1 < 2 then 3 else 4;", 2, fourIfs.length());
        dueFault(fourIfs + "4; heals = if 1 < 2 then 3 else 4;", 0, -1);
        dueFault("draws = ((((((1))))))+((((((2))))));", 0, -1);
        dueFault("draws = (((((((1)))))));", 2, 14);
        dueFault("draws = (((((1+(2)*(3-(4)))))));", 2, 22);
        // Three tokens at first, then two each: 399 by 198 of them, and the ; is the 400th.
        String long399 = "draws=1" + "+1".repeat(198);
        dueFault(long399 + ";", 0, -1);
        dueFault(long399 + "+", 1, long399.length() + 1);
        dueFault(long399 + "+1;", 2, long399.length() + 1);
        dueFault(long399 + "+;", 1, long399.length() + 1);
        dueFault(long399 + ";@", 1, long399.length() + 1);
        dueFault(long399 + ";seed 1;", 2, long399.length() + 1);
        dueFault(long399 + ";;", 1, long399.length() + 1);
    }

    private static void promise4Names() {
        dueFault("church a 1; church a 1;", 3, 19);
        dueFault("church a 1; relic a a true;", 3, 18);
        dueFault("church a 1; relic r a true; pilgrim r a 1 1;", 3, 36);
        dueFault("church a 1; pilgrim p a 1 1; church p 1;", 3, 36);
        dueFault("church a 1; road a a 5;", 3, 19);
        dueFault("church a 1; church b 1; road a b 5; road a b 6;", 3, 43);
        dueFault("church a 1; church b 1; road a b 5; road b a 5;", 3, 43);
        dueFault("church a 1; road a b 5; church b 1;", 4, 19);
        dueFault("road a a 5;", 4, 5);
        dueFault("church a 1; road b a 5;", 4, 17);
        dueFault("church a 1; relic r b true;", 4, 20);
        dueFault("church a 1; relic r r true;", 4, 20);
        dueFault("church a 1; relic r a true; relic s r true;", 4, 36);
        dueFault("church a 1; pilgrim p b 1 1;", 4, 22);
        dueFault("relic r a true; church a 1;", 4, 8);
    }

    private static void promise4Numbers() {
        dueFault("church a 0; church b 9;", 0, -1);
        dueFault("church a 10;", 5, 9);
        String two = "church a 1; church b 1; ";
        dueFault(two + "road a b 1;", 0, -1);
        dueFault(two + "road a b 99;", 0, -1);
        dueFault(two + "road a b 0;", 5, 33);
        dueFault(two + "road a b 100;", 5, 33);
        dueFault(two + "pilgrim p a 0 9;", 0, -1);
        dueFault(two + "pilgrim p a 10 9;", 5, 36);
        dueFault(two + "pilgrim p a 9 10;", 5, 38);
        dueFault("seed 9999;", 0, -1);
        dueFault("draws = 9999;", 0, -1);
        // The first by place; but SYNTAX and ROOM, wherever they are, ahead of the others.
        dueFault("church a 10; church a 1;", 5, 9);
        dueFault("church a 1; church a 10;", 3, 19);
        dueFault("road x y 100;", 4, 5);
        dueFault("church a 10; seed", 1, 17);
        dueFault("church a 10; draws = (((((((1)))))));", 2, 27);
        dueFault(many("church a 1;", 7), 2, 66);
    }

    private static void promise4Changes() {
        SaintTheft x = Texts.of(TOWN);
        x.years(2);
        x.tell(0, true);
        x.hold(1);
        due("read of a fault", Texts.read(x, "church a 10;"), 5);
        due("tape", x.count(10), 0);
        due("churches", x.count(0), 4);
        due("years", x.count(4), 2);
        due("told", x.count(12), 1);
        due("slots", x.count(13), 1);
        due("can be undone", x.count(11), 1);
        due("took", x.church(0, 3), 26);
        due("heals", x.heals(0, 0), 100);
        due("read", Texts.read(x, "seed 5; church z 4; seed 6; heals = 1; heals = 2; relic q z copy; pilgrim o z 0 8;"), 0);
        due("tape", x.count(10), 0);
        due("years", x.count(4), 0);
        due("told", x.count(12), 0);
        due("slots", x.count(13), 0);
        due("can be undone", x.count(11), 0);
        due("undo", x.undo(), false);
        due("restore", x.restore(1), false);
        due("took", x.church(0, 3), 0);
        due("wonders", x.church(0, 2), 0);
        due("roads", x.count(1), 0);
        due("the last law", x.heals(0, 0), 2);
        due("a law not told: DRAWS", x.tells(0, 0, 0), 1);
        due("a law not told: GIVES", x.tells(0, 0, 1), 8);
        due("a law not told: LEAVE", x.theft(0, 3), 30 * (100 - 40));
        SaintTheft y = Texts.of("church a 0; relic r a true; relic s a copy; pilgrim p a 0 0;");
        due("a law not told: HEALS, TRUE", y.heals(0, 0), 50);
        due("a law not told: HEALS, a COPY", y.heals(1, 0), 0);
        due("read of nothing", y.read(), 0);
        due("churches", y.count(0), 0);
    }

    private static void promise5() {
        promise = 5;
        SaintTheft x = new SaintTheft();
        due("place at first", x.place(), -1);
        Texts.read(x, "church a 10;");
        due("place of a fault", x.place(), 9);
        Texts.feed(x, "church a 1;");
        due("place until the next read", x.place(), 9);
        x.read();
        due("place without a fault", x.place(), -1);
        Texts.read(x, "@");
        due("place 0", x.place(), 0);
        x.read();
        due("place of nothing", x.place(), -1);
    }

    private static void promise6() {
        promise = 6;
        SaintTheft x = Texts.of(TOWN);
        due("church(0, 0)", x.church(0, 0), 3);
        due("church(2, 0)", x.church(2, 0), 5);
        due("church(0, 1)", x.church(0, 1), 3);
        due("church(1, 1)", x.church(1, 1), 4);
        due("church(2, 1)", x.church(2, 1), 0);
        due("church(0, 4)", x.church(0, 4), 1);
        x.years(2);
        due("church(0, 2)", x.church(0, 2), 4);
        due("church(0, 3)", x.church(0, 3), 26);
        due("church(1, 2)", x.church(1, 2), 0);
        x.swap(1, 2);
        due("church(0, 1) swapped", x.church(0, 1), 5);
        due("church(0, 4) swapped", x.church(0, 4), 2);
        due("church(1, 4) swapped", x.church(1, 4), 0);
        due("church(0, 2): wonders stay where they were written", x.church(0, 2), 4);
        for (int what : new int[] {-1, 5, Integer.MIN_VALUE, Integer.MAX_VALUE}) {
            due("church(0, " + what + ")", x.church(0, what), -1);
        }
        for (int church : new int[] {-1, 4, Integer.MIN_VALUE, Integer.MAX_VALUE}) {
            due("church(" + church + ", 0)", x.church(church, 0), -1);
        }
    }

    private static void promise7() {
        promise = 7;
        SaintTheft x = Texts.of(TOWN);
        due("relic(0, 0)", x.relic(0, 0), 0);
        due("relic(2, 0)", x.relic(2, 0), 1);
        due("relic(0, 1)", x.relic(0, 1), 1);
        due("relic(1, 1)", x.relic(1, 1), 0);
        x.years(2);
        due("relic(0, 2)", x.relic(0, 2), 4);
        due("relic(1, 2)", x.relic(1, 2), 0);
        due("relic(2, 3)", x.relic(2, 3), 0);
        due("steal(2, 2, 9), caught by none", x.steal(2, 2, 9), 1);
        due("relic(2, 0)", x.relic(2, 0), 2);
        due("relic(2, 3)", x.relic(2, 3), 1);
        x.swap(0, 2);
        due("relic(0, 2): wonders go with it", x.relic(0, 2), 4);
        due("relic(0, 3): a swap is no theft", x.relic(0, 3), 0);
        for (int what : new int[] {-1, 4, Integer.MIN_VALUE, Integer.MAX_VALUE}) {
            due("relic(0, " + what + ")", x.relic(0, what), -1);
        }
        for (int relic : new int[] {-1, 3, Integer.MIN_VALUE, Integer.MAX_VALUE}) {
            due("relic(" + relic + ", 0)", x.relic(relic, 0), -1);
        }
    }

    private static void promise8() {
        promise = 8;
        SaintTheft x = Texts.of(TOWN);
        due("pilgrim(1, 0)", x.pilgrim(1, 0), 2);
        due("pilgrim(1, 1)", x.pilgrim(1, 1), 5);
        due("pilgrim(1, 2)", x.pilgrim(1, 2), 7);
        due("pilgrim(0, 0)", x.pilgrim(0, 0), 0);
        due("pilgrim(2, 3)", x.pilgrim(2, 3), 0);
        x.years(2);
        due("pilgrim(0, 3)", x.pilgrim(0, 3), 8);
        due("pilgrim(1, 3)", x.pilgrim(1, 3), 18);
        due("pilgrim(0, 4)", x.pilgrim(0, 4), 2);
        due("pilgrim(2, 4)", x.pilgrim(2, 4), 0);
        for (int what : new int[] {-1, 5, Integer.MIN_VALUE, Integer.MAX_VALUE}) {
            due("pilgrim(0, " + what + ")", x.pilgrim(0, what), -1);
        }
        for (int pilgrim : new int[] {-1, 3, Integer.MIN_VALUE, Integer.MAX_VALUE}) {
            due("pilgrim(" + pilgrim + ", 0)", x.pilgrim(pilgrim, 0), -1);
        }
    }

    private static void promise9() {
        promise = 9;
        SaintTheft x = Texts.of(TOWN);
        due("tells(0, 0, 0)", x.tells(0, 0, 0), 20);
        due("tells(1, 0, 0)", x.tells(1, 0, 0), 6);
        due("tells(1, 1, 0)", x.tells(1, 1, 0), 6);
        due("tells(0, 3, 0): not reached", x.tells(0, 3, 0), -999);
        due("tells(1, 0, 1)", x.tells(1, 0, 1), 9);
        due("tells(1, 0, 2)", x.tells(1, 0, 2), 14);
        due("tells(1, 2, 2)", x.tells(1, 2, 2), 0);
        due("tells(2, 0, 2)", x.tells(2, 0, 2), 999);
        due("tells(0, 0, 3)", x.tells(0, 0, 3), BAD);
        due("tells(0, 0, -1)", x.tells(0, 0, -1), BAD);
        due("tells(3, 0, 0)", x.tells(3, 0, 0), BAD);
        due("tells(-1, 0, 0)", x.tells(-1, 0, 0), BAD);
        due("tells(0, 4, 0)", x.tells(0, 4, 0), BAD);
        due("tells(0, -1, 0)", x.tells(0, -1, 0), BAD);
        // A way round is shorter than the straight road; roads go either way.
        SaintTheft y = Texts.of("church a 0; church b 0; church c 0; church d 0; road a c 99; road b a 7; road c b 8; "
                + "road c d 99; pilgrim p a 0 0; pilgrim q d 0 0;");
        due("far a c", y.tells(0, 2, 2), 15);
        due("far a d", y.tells(0, 3, 2), 114);
        due("far d a", y.tells(1, 0, 2), 114);
    }

    private static int value(String law) {
        return Texts.of("church a 3; pilgrim p a 0 0; draws = " + law + ";").tells(0, 0, 0);
    }

    /** What laws tell, by DRAWS, which is not held to anything. */
    private static void promise9Values() {
        due("signs from the left", value("100 - 10 - 1"), 89);
        due("products ahead of sums", value("1 + 2 * 3 - 8 / 4"), 5);
        due("products from the left", value("100 / 10 * 3 / 4"), 7);
        due("brackets", value("(1 + 2) * (3 - (8 - 4))"), -3);
        due("six brackets deep", value("1-(2-(3-(4-(5-(6-(7))))))"), 4);
        due("rounded towards 0", value("(0 - 7) / 2"), -3);
        due("rounded towards 0, both below it", value("(0 - 7) / (0 - 2)"), 3);
        due("wraps up", value("9999 * 9999 * 9999"), (int) (9999L * 9999 * 9999));
        due("least by -1", value("2048*1024*1024 / (0 - 1)"), Integer.MIN_VALUE);
        due("divided by 0", value("5 + 1 / (2 - 2)"), 0);
        due("divided by 0, times 0", value("5 + 0 * (1 / 0)"), 0);
        due("divided by 0 in an if", value("if 1 / 0 < 5 then 1 else 2"), 0);
        due("divided by 0 right of <", value("if 5 < 1 / 0 then 1 else 2"), 0);
        due("divided by 0 not looked at, then", value("if 2 < 1 then 1 / 0 else 7"), 7);
        due("divided by 0 not looked at, else", value("if 1 < 2 then 7 else 1 / 0"), 7);
        due("divided by 0 not looked at, a later if", value("if 1 < 2 then 7 else if 1 / 0 < 1 then 8 else 9"), 7);
        due("divided by 0 in the last one", value("if 2 < 1 then 7 else 3 / 0"), 0);
        due("less, not alike", value("if 2 < 2 then 1 else 3"), 3);
        due("the first that holds", value("if 3 < 2 then 1 else if 1 < 2 then 2 else if 1 < 3 then 3 else 4"), 2);
        due("none holds", value("if 3 < 2 then 1 else if 3 < 2 then 2 else if 3 < 1 then 3 else 4"), 4);
        due("ints of four digits", value("0010 + 9999"), 10009);
        due("most that can wait", value("if 1+2*(1+2*(1+2*(1+2*(1+2*(1+2*(1+2*3)))))) < 1+2*(1+2*(1+2*(1+2*(1+2*(1+2*(1+2*4)))))) "
                + "then 1+2*(1+2*(1+2*(1+2*(1+2*(1+2*(1+2*3)))))) else 0"), 127 + 128 * 3);
        SaintTheft longest = Texts.of("church a 3;pilgrim p a 4 5;draws=1" + "+1".repeat(192) + ";");
        due("the longest law", longest.tells(0, 0, 0), 193);
        due("and one that was not told", longest.tells(0, 0, 1), 5);
        SaintTheft x = Texts.of("church a 0; pilgrim p a 0 0; gives = 100;");
        due("GIVES held to 99", x.tells(0, 0, 1), 99);
        x = Texts.of("church a 0; pilgrim p a 0 0; gives = 0 - 1;");
        due("GIVES held to 0", x.tells(0, 0, 1), 0);
    }

    /** Each VAR that is told for DRAWS and GIVES, and nights, which is not. */
    private static void promise9Vars() {
        String all = "= relics + wonders * 13 + far * 170 + need * 1100 + gift * 3300 + watch * 7700 + years * 9900 + "
                + "truth * 9999 * 9 + nights * 77;";
        SaintTheft x = Texts.of("church a 6; church b 4; road a b 8; relic r a true; relic s b true; relic t b true; "
                + "relic u b copy; pilgrim p a 2 3; heals = truth * 100; draws " + all);
        int hisOwn = 2 * 1100 + 3 * 3300;
        int ofTruth = 9999 * 9;
        due("DRAWS at home", x.tells(0, 0, 0), 1 + hisOwn + 6 * 7700 + ofTruth);
        due("DRAWS of the other", x.tells(0, 1, 0), 3 + 8 * 170 + hisOwn + 4 * 7700 + 2 * ofTruth);
        x.years(3);
        due("DRAWS after three years", x.tells(0, 1, 0),
                3 + 6 * 13 + 8 * 170 + hisOwn + 4 * 7700 + 3 * 9900 + 2 * ofTruth);
        String small = "church a 6; church b 4; road a b 8; relic r a true; relic s b true; relic t b true; relic u b copy; "
                + "pilgrim p a 2 3; gives = ";
        String[] vars = {"relics", "wonders", "far", "need", "gift", "nights", "watch", "years", "truth"};
        int[] dues = {3, 0, 8, 2, 3, 0, 4, 0, 2};
        for (int i = 0; i < vars.length; i++) {
            due("GIVES = " + vars[i], Texts.of(small + vars[i] + ";").tells(0, 1, 1), dues[i]);
        }
    }

    private static void promise10() {
        promise = 10;
        SaintTheft x = Texts.of(TOWN);
        due("heals(0, 0)", x.heals(0, 0), 100);
        due("heals(1, 0)", x.heals(1, 0), 0);
        due("heals(2, 2): not reached", x.heals(2, 2), 100);
        due("heals(3, 0)", x.heals(3, 0), -1);
        due("heals(-1, 0)", x.heals(-1, 0), -1);
        due("heals(0, 3)", x.heals(0, 3), -1);
        due("heals(0, -1)", x.heals(0, -1), -1);
        String world = "church a 6; church b 4; road a b 8; relic r a copy; relic s b true; relic t b true; relic u b copy; "
                + "pilgrim p a 2 3; draws = relics; heals = ";
        String[] vars = {"relics", "wonders", "far", "need", "gift", "nights", "watch", "years", "truth"};
        int[] dues = {3, 0, 8, 2, 3, 0, 0, 0, 1};
        for (int i = 0; i < vars.length; i++) {
            due("HEALS = " + vars[i], Texts.of(world + vars[i] + ";").heals(1, 0), dues[i]);
        }
        due("HEALS = truth of a COPY", Texts.of(world + "truth;").heals(3, 0), 0);
        due("HEALS held to 100", Texts.of(world + "101;").heals(0, 0), 100);
        due("HEALS held to 0", Texts.of(world + "0 - 1;").heals(0, 0), 0);
        SaintTheft y = Texts.of(world + "if years < 1 then 100 else years * 10 + wonders;");
        y.years(2);
        // Three relics of b in the first year, the other year's by chances of 10 + wonders and more.
        int wonders = y.church(1, 2);
        due("HEALS by years and wonders of its church", y.heals(1, 0), 20 + wonders);
        due("HEALS by wonders of another church", y.heals(0, 0), 20);
    }

    private static void promise11() {
        promise = 11;
        String world = "church a 7; church b 0; relic r a true; relic s b copy; ";
        SaintTheft x = Texts.of(world + "caught = 100;");
        due("caught", x.steal(0, 1, 1), 2);
        due("it stays", x.relic(0, 0), 0);
        due("a watcher more", x.church(0, 0), 8);
        due("caught", x.steal(0, 1, 1), 2);
        due("caught", x.steal(0, 1, 1), 2);
        due("nine at most", x.church(0, 0), 9);
        due("the other's watchers", x.church(1, 0), 0);
        due("tried", x.count(7), 3);
        due("thieves caught", x.count(8), 3);
        SaintTheft y = Texts.of(world + "caught = 0; leave = 100;");
        due("carried off", y.steal(0, 1, 9), 1);
        due("it is there", y.relic(0, 0), 1);
        due("no watcher more", y.church(0, 0), 7);
        due("how often", y.relic(0, 3), 1);
        due("to where it is", y.steal(0, 1, 9), -2);
        due("tried", y.count(7), 1);
        due("things done", y.count(11), 1);
        due("0 nights", y.steal(0, 0, 0), -1);
        due("10 nights", y.steal(0, 0, 10), -1);
        due("no such relic", y.steal(2, 0, 1), -1);
        due("no such relic", y.steal(-1, 0, 1), -1);
        due("no such church", y.steal(0, 2, 1), -1);
        due("no such church", y.steal(0, -1, 1), -1);
        due("tried", y.count(7), 1);
        SaintTheft z = Texts.of(world + "caught = 0; leave = 0;");
        due("stays", z.steal(0, 1, 5), 0);
        due("tried", z.count(7), 1);
        due("things done", z.count(11), 1);
        due("carried off", z.count(9), 0);
        // Each VAR of LEAVE and of CAUGHT, by how likely a theft is.
        String[] vars = {"relics", "wonders", "far", "need", "gift", "nights", "watch", "years", "truth"};
        int[] leave = {1, 0, 0, 0, 0, 4, 0, 0, 1};
        int[] caught = {1, 0, 0, 0, 0, 4, 7, 0, 0};
        for (int i = 0; i < vars.length; i++) {
            due("LEAVE = " + vars[i], Texts.of(world + "caught = 0; leave = " + vars[i] + ";").theft(0, 4),
                    100 * leave[i]);
            due("CAUGHT = " + vars[i], Texts.of(world + "leave = 100; caught = " + vars[i] + ";").theft(0, 4),
                    10000 - 100 * caught[i]);
        }
        SaintTheft w = Texts.of(world + "pilgrim p a 9 9; heals = 100; caught = wonders + years; leave = wonders * 10 + years;");
        w.years(2);
        due("wonders and years for LEAVE, years for CAUGHT", w.theft(0, 1), 22 * 98);
    }

    /** LOT 100 of some seeds and whiches, worked out apart from the class and from Model. */
    private static void promise11Lots() {
        due("lot 0 0", Model.lot(100, 0, 0), 91);
        due("lot 1 1000000", Model.lot(100, 1, 1000000), 89);
        due("lot 9999 2000007", Model.lot(100, 9999, 2000007), 14);
        for (int seed = 0; seed <= 9999; seed += 1111) {
            SaintTheft x = Texts.of("church a 0; church b 0; relic r a true; relic s b copy; caught = 30; leave = 50; seed "
                    + seed + ";");
            for (int tried = 0; tried < 20; tried++) {
                int want = Model.lot(100, seed, 1000000 + tried) < 30 ? 2
                        : Model.lot(100, seed, 2000000 + tried) < 50 ? 1 : 0;
                int relic = tried % 2;
                due("steal " + tried + " of seed " + seed, x.steal(relic, 1 - x.relic(relic, 0), 1), want);
            }
        }
    }

    private static void promise12() {
        promise = 12;
        SaintTheft x = Texts.of(TOWN);
        due("swap(0, 1): both at one church", x.swap(0, 1), false);
        due("swap(0, 0)", x.swap(0, 0), false);
        due("swap(0, 3)", x.swap(0, 3), false);
        due("swap(3, 0)", x.swap(3, 0), false);
        due("swap(-1, 0)", x.swap(-1, 0), false);
        due("swap(0, -1)", x.swap(0, -1), false);
        due("things done", x.count(11), 0);
        due("swap(2, 0)", x.swap(2, 0), true);
        due("relic 0", x.relic(0, 0), 1);
        due("relic 1", x.relic(1, 0), 0);
        due("relic 2", x.relic(2, 0), 0);
        due("things done", x.count(11), 1);
        due("no theft", x.count(7), 0);
    }

    private static void promise13() {
        promise = 13;
        SaintTheft x = Texts.of(TOWN);
        due("watch(0, 3): it is so", x.watch(0, 3), false);
        due("watch(0, 10)", x.watch(0, 10), false);
        due("watch(0, -1)", x.watch(0, -1), false);
        due("watch(4, 1)", x.watch(4, 1), false);
        due("watch(-1, 1)", x.watch(-1, 1), false);
        due("things done", x.count(11), 0);
        due("watch(0, 9)", x.watch(0, 9), true);
        due("watchers", x.church(0, 0), 9);
        due("watch(0, 0)", x.watch(0, 0), true);
        due("watchers", x.church(0, 0), 0);
        due("the others'", x.church(2, 0), 5);
        due("things done", x.count(11), 2);
    }

    private static void promise14() {
        promise = 14;
        SaintTheft x = Texts.of(TOWN);
        due("years(0)", x.years(0), 0);
        due("things done", x.count(11), 0);
        due("years(-1)", x.years(-1), -1);
        due("years(61)", x.years(61), -1);
        due("things done", x.count(11), 0);
        due("years(1)", x.years(1), 1);
        due("things done", x.count(11), 1);
        due("took", x.church(0, 3), 13);
        due("wonders", x.church(0, 2), 2);
        due("years(0)", x.years(0), 1);
        due("years(60)", x.years(60), 61);
        due("things done", x.count(11), 2);
        due("took", x.church(0, 3), 61 * 13);
        due("given", x.pilgrim(1, 3), 61 * 9);
        due("years without churches", new SaintTheft().years(60), 60);
    }

    private static void promise14ByOrder() {
        // Whither they go is told by how all was as the year began: both to a, though ann's wonder is written ahead.
        String two = "church a 0; church b 0; road a b 1; relic r a true; relic s b true; pilgrim ann a 1 1; "
                + "pilgrim bob a 1 1; heals = 100; draws = 0 - wonders; ";
        SaintTheft x = Texts.of(two);
        x.years(1);
        due("wonders at a", x.church(0, 2), 2);
        due("wonders at b", x.church(1, 2), 0);
        x.years(1);
        due("wonders at b", x.church(1, 2), 2);
        // HEALS and GIVES are told by how it is then.
        SaintTheft y = Texts.of("church a 0; relic r a true; relic s a true; pilgrim ann a 1 1; pilgrim bob a 1 1; "
                + "heals = if wonders < 1 then 100 else 0; gives = wonders * 10 + years;");
        y.years(1);
        due("one wonder", y.count(6), 1);
        due("at the first relic", y.relic(0, 2), 1);
        due("for the first pilgrim", y.pilgrim(0, 4), 1);
        due("given by ann", y.pilgrim(0, 3), 10);
        due("given by bob", y.pilgrim(1, 3), 10);
        y.years(1);
        due("given by ann in year 1", y.pilgrim(0, 3), 21);
        // RELIC by RELIC: a wonder at the first counts for the second one.
        SaintTheft z = Texts.of("church a 0; relic r a true; relic s a true; pilgrim ann a 1 1; heals = wonders * 100; ");
        z.years(3);
        due("none leads to none", z.count(6), 0);
    }

    private static void promise14Lots() {
        SaintTheft x = Texts.of("church a 0; relic r a true; relic s a copy; pilgrim p a 1 1; pilgrim q a 1 1; heals = 35; "
                + "seed 4321;");
        int[] wonders = new int[4];
        for (int year = 0; year < 30; year++) {
            for (int i = 0; i < 4; i++) {
                wonders[i] += Model.lot(100, 4321, 64 * year + 8 * (i / 2) + i % 2) < 35 ? 1 : 0;
            }
            x.years(1);
            due("wonders of r", x.relic(0, 2), wonders[0] + wonders[2]);
            due("wonders of s", x.relic(1, 2), wonders[1] + wonders[3]);
            due("wonders for p", x.pilgrim(0, 4), wonders[0] + wonders[1]);
            due("wonders for q", x.pilgrim(1, 4), wonders[2] + wonders[3]);
        }
    }

    private static void promise15() {
        promise = 15;
        SaintTheft x = Texts.of(TOWN);
        due("undo of nothing", x.undo(), false);
        x.watch(0, 0);
        x.years(2);
        x.swap(0, 2);
        due("steal", x.steal(1, 2, 9), 1);
        x.tell(0, true);
        due("things done", x.count(11), 4);
        due("undo steal", x.undo(), true);
        due("relic back", x.relic(1, 0), 0);
        due("tried", x.count(7), 0);
        due("carried off", x.count(9), 0);
        due("undo swap", x.undo(), true);
        due("relic back", x.relic(0, 0), 0);
        due("undo years", x.undo(), true);
        due("year", x.count(4), 0);
        due("took", x.count(5), 0);
        due("wonders", x.count(6), 0);
        due("undo watch", x.undo(), true);
        due("watchers", x.church(0, 0), 3);
        due("undo", x.undo(), false);
        due("told stays", x.count(12), 1);
        for (int i = 0; i < 43; i++) {
            x.watch(1, 1 + i % 9);
        }
        due("forty at most", x.count(11), 40);
        for (int i = 42; i > 2; i--) {
            due("watchers ahead of it", x.church(1, 0), 1 + i % 9);
            due("undo " + i, x.undo(), true);
        }
        due("undo of the 41st", x.undo(), false);
        due("watchers", x.church(1, 0), 3);
    }

    private static void promise16() {
        promise = 16;
        SaintTheft x = Texts.of(TOWN);
        due("goes(0)", x.goes(0), 0);
        due("goes(1): alike, the first", x.goes(1), 0);
        due("goes(2): none can be reached", x.goes(2), -2);
        due("goes(3)", x.goes(3), -1);
        due("goes(-1)", x.goes(-1), -1);
        due("nothing happens", x.count(4), 0);
        SaintTheft y = Texts.of("church a 0; church b 0; road a b 1; relic r b copy; pilgrim p a 0 0; "
                + "draws = 0 - 9 - relics;");
        due("only churches with relics, though DRAWS is below 0", y.goes(0), 1);
        SaintTheft z = Texts.of("church a 0; church b 0; road a b 1; pilgrim p a 0 0;");
        due("no relics: he stays", z.goes(0), -2);
        SaintTheft w = Texts.of("church a 0; church b 0; road a b 1; relic r a copy; relic s b copy; pilgrim p a 0 0; "
                + "draws = far * 9999 * 9999 * 22;");
        due("DRAWS that wraps below 0", w.tells(0, 1, 0) < 0, true);
        due("the other one", w.goes(0), 0);
    }

    private static void promise17() {
        promise = 17;
        SaintTheft x = Texts.of(TOWN);
        due("theft(0, 1)", x.theft(0, 1), 30 * 97);
        due("theft(0, 9)", x.theft(0, 9), 100 * 73);
        due("theft(1, 9)", x.theft(1, 9), 90 * 73);
        due("theft(2, 8)", x.theft(2, 8), 10000);
        due("theft(0, 0)", x.theft(0, 0), -1);
        due("theft(0, 10)", x.theft(0, 10), -1);
        due("theft(3, 1)", x.theft(3, 1), -1);
        due("theft(-1, 1)", x.theft(-1, 1), -1);
        due("nothing happens", x.count(7), 0);
    }

    private static void promise18() {
        promise = 18;
        SaintTheft x = Texts.of(TOWN);
        // r: 30*97, 40*94, 50*91, 60*88, 70*85, 80*82, 90*79 = 7110, 100*76 = 7600, 100*73
        due("nights(0)", x.nights(0), 8);
        due("nights(1)", x.nights(1), 9);
        due("nights(2): alike, the fewest", x.nights(2), 8);
        due("nights(3)", x.nights(3), -1);
        due("nights(-1)", x.nights(-1), -1);
        SaintTheft y = Texts.of("church a 9; relic r a true; caught = 100;");
        due("none likely: one night", y.nights(0), 1);
    }

    private static void promise19() {
        promise = 19;
        SaintTheft x = Texts.of(TOWN);
        // t at a: 1 more of ann and 1 of bob; at b: none go there; at c: bob's 7 + 1; at d: cid's 9 + 1.
        due("worth(2, 1, 0)", x.worth(2, 1, 0), 3);
        due("worth(2, 1, 1)", x.worth(2, 1, 1), 10);
        due("worth(2, 24, 1)", x.worth(2, 24, 1), 10 * 24);
        due("worth(2, 0, 0)", x.worth(2, 0, 0), BAD);
        due("worth(2, 25, 0)", x.worth(2, 25, 0), BAD);
        due("worth(2, 1, 2)", x.worth(2, 1, 2), BAD);
        due("worth(2, 1, -1)", x.worth(2, 1, -1), BAD);
        due("worth(3, 1, 0)", x.worth(3, 1, 0), BAD);
        due("worth(-1, 1, 0)", x.worth(-1, 1, 0), BAD);
        due("nothing happens", x.relic(2, 0), 1);
        SaintTheft y = Texts.of("church a 0; relic r a true; relic s a true; pilgrim p a 1 1; gives = 20 - relics * 5;");
        due("the only church, though it loses", y.worth(1, 2, 0), 0);
        due("below 0", y.worth(1, 2, 1), -10);
        SaintTheft z = Texts.of("church a 0; church b 0; church c 0; relic r c true; pilgrim p b 1 4; pilgrim q c 1 4;");
        due("alike, the first", z.worth(0, 3, 0), 1);
        due("how much", z.worth(0, 3, 1), 12);
    }

    private static void promise20() {
        promise = 20;
        SaintTheft x = Texts.of(TOWN);
        due("guard(0, 1, 1)", x.guard(0, 1, 1), 1);
        due("guard(0, 10, 5)", x.guard(0, 10, 5), 2);
        due("guard(0, 11, 5)", x.guard(0, 11, 5), 3);
        due("guard(2, 81, 9)", x.guard(2, 81, 9), 9);
        due("guard(2, 82, 9)", x.guard(2, 82, 9), -2);
        due("guard(0, 0, 1)", x.guard(0, 0, 1), -1);
        due("guard(0, 101, 1)", x.guard(0, 101, 1), -1);
        due("guard(0, 1, 0)", x.guard(0, 1, 0), -1);
        due("guard(0, 1, 10)", x.guard(0, 1, 10), -1);
        due("guard(4, 1, 1)", x.guard(4, 1, 1), -1);
        due("guard(-1, 1, 1)", x.guard(-1, 1, 1), -1);
        due("nothing happens", x.church(0, 0), 3);
        SaintTheft y = Texts.of("church a 9; church b 0; relic r a true; relic s a true; "
                + "caught = if watch < 3 then relics else if watch < 5 then 100 else 10;");
        due("none, by its relics", y.guard(0, 2, 1), 0);
        due("three, though nine would not do", y.guard(0, 100, 1), 3);
        due("without relics", y.guard(1, 1, 1), 3);
    }

    private static void promise21() {
        promise = 21;
        SaintTheft x = Texts.of(TOWN);
        due("guards(10, 5): of a and b", x.guards(10, 5), 4);
        due("guards(81, 9)", x.guards(81, 9), 18);
        due("guards(82, 9)", x.guards(82, 9), -2);
        due("guards(0, 1)", x.guards(0, 1), -1);
        due("guards(101, 1)", x.guards(101, 1), -1);
        due("guards(1, 0)", x.guards(1, 0), -1);
        due("guards(1, 10)", x.guards(1, 10), -1);
        due("guards without relics", new SaintTheft().guards(100, 9), 0);
        SaintTheft y = Texts.of("church a 9; church b 0; relic r b true; caught = if relics < 1 then 0 else watch;");
        due("only churches with relics", y.guards(9, 1), 9);
    }

    private static void promise22() {
        promise = 22;
        SaintTheft x = Texts.of(TOWN);
        due("weak(0)", x.weak(0), 2);
        due("weak(1)", x.weak(1), 8);
        due("weak(2)", x.weak(2), 10000);
        due("weak(3)", x.weak(3), -1);
        due("weak(-1)", x.weak(-1), -1);
        due("weak(0) without relics", new SaintTheft().weak(0), -2);
        due("weak(1) without relics", new SaintTheft().weak(1), -2);
        due("weak(2) without relics", new SaintTheft().weak(2), -2);
        SaintTheft y = Texts.of("church a 9; relic r a copy; relic s a true; relic t a true; caught = 20; leave = truth * 40;");
        due("alike, the first", y.weak(0), 1);
        due("by one night", y.weak(1), 1);
        due("how likely", y.weak(2), 3200);
        y = Texts.of("church a 9; relic r a copy; leave = 0;");
        due("none likely, yet weakest", y.weak(0), 0);
        due("how likely", y.weak(2), 0);
    }

    private static void promise23() {
        promise = 23;
        // p gives more for TRUE ones, q for copies.
        String world = "church a 0; church b 0; relic r a true; relic s a copy; relic t b true; relic u b copy; "
                + "pilgrim p a 0 1; pilgrim q b 0 9; gives = if gift < 5 then truth * 10 + 1 else 50 - truth * 10;";
        SaintTheft x = Texts.of(world);
        due("barter(1, 0)", x.barter(1, 0), 1);
        due("barter(1, 1)", x.barter(1, 1), 12);
        due("barter(24, 0)", x.barter(24, 0), 1);
        due("barter(0, 0)", x.barter(0, 0), -1);
        due("barter(25, 0)", x.barter(25, 0), -1);
        due("barter(1, 2)", x.barter(1, 2), -1);
        due("barter(1, -1)", x.barter(1, -1), -1);
        due("nothing happens", x.relic(1, 0), 0);
        x.swap(1, 2);
        due("none", x.barter(1, 0), 0);
        due("none", x.barter(1, 1), -2);
        SaintTheft y = Texts.of("church a 0; church b 0; relic r a copy; relic s a copy; relic t b true; pilgrim p a 0 1; "
                + "pilgrim q b 0 9; gives = if gift < 5 then truth * 10 + 1 else 50 - truth * 10;");
        due("two pairs", y.barter(2, 0), 2);
        due("the first", y.barter(2, 1), 2);
        SaintTheft least = Texts.of("church a 0; church b 0; relic r a copy; relic t b true; pilgrim p a 0 1; "
                + "pilgrim q b 0 9; gives = if gift < 5 then truth else 9 - truth;");
        due("each gains one", least.barter(1, 0), 1);
        due("each gains one", least.barter(1, 1), 1);
        // Only p gains: it is not both of them.
        SaintTheft z = Texts.of("church a 0; church b 0; relic r a copy; relic t b true; pilgrim p a 0 1; gives = truth * 10;");
        due("one gains alone", z.barter(2, 0), 0);
        SaintTheft w = Texts.of("church a 0; church b 0; relic r a copy; relic t b true; pilgrim p b 0 1; gives = 9 - truth;");
        due("the other one gains alone", w.barter(2, 0), 0);
    }

    private static void promise24() {
        promise = 24;
        SaintTheft x = Texts.of(TOWN);
        due("took(0, 0)", x.took(0, 0), 0);
        due("took(0, 1)", x.took(0, 1), 13);
        x.years(3);
        due("took(0, 60): more than so far", x.took(0, 60), 780);
        due("took(1, 60)", x.took(1, 60), 0);
        due("took(0, 61)", x.took(0, 61), -1);
        due("took(0, -1)", x.took(0, -1), -1);
        due("took(4, 1)", x.took(4, 1), -1);
        due("took(-1, 1)", x.took(-1, 1), -1);
        due("nothing happens", x.count(4), 3);
        due("nothing happens", x.church(0, 3), 39);
    }

    private static void promise25() {
        promise = 25;
        SaintTheft x = Texts.of(TOWN);
        x.years(3);
        due("wonders(0, 0)", x.wonders(0, 0), 0);
        due("wonders(0, 1)", x.wonders(0, 1), 2);
        due("wonders(0, 60)", x.wonders(0, 60), 120);
        due("wonders(1, 60)", x.wonders(1, 60), 0);
        due("wonders(0, 61)", x.wonders(0, 61), -1);
        due("wonders(0, -1)", x.wonders(0, -1), -1);
        due("wonders(3, 1)", x.wonders(3, 1), -1);
        due("wonders(-1, 1)", x.wonders(-1, 1), -1);
        due("nothing happens", x.relic(0, 2), 6);
    }

    private static void promise26() {
        promise = 26;
        SaintTheft x = Texts.of("church a 0; church b 0; church c 0; road a b 1; relic r a true; relic s b true; "
                + "pilgrim p a 1 1; pilgrim q c 1 1; heals = 0; draws = if years < 7 then 0 - far else far;");
        due("goesIn(0, 0)", x.goesIn(0, 0), 0);
        due("goesIn(0, 6)", x.goesIn(0, 6), 0);
        due("goesIn(0, 7)", x.goesIn(0, 7), 1);
        due("goesIn(0, 60)", x.goesIn(0, 60), 1);
        due("goesIn(1, 7): he stays", x.goesIn(1, 7), -2);
        x.years(2);
        due("goesIn(0, 5)", x.goesIn(0, 5), 1);
        due("goesIn(0, 61)", x.goesIn(0, 61), -1);
        due("goesIn(0, -1)", x.goesIn(0, -1), -1);
        due("goesIn(2, 1)", x.goesIn(2, 1), -1);
        due("goesIn(-1, 1)", x.goesIn(-1, 1), -1);
        due("nothing happens", x.count(4), 2);
    }

    private static void promise27() {
        promise = 27;
        SaintTheft x = Texts.of("church a 0; church b 0; church c 0; relic r a true; relic s b true; relic t c true; "
                + "pilgrim p a 1 9; pilgrim q b 1 2; pilgrim o c 1 2; gives = if years < 3 then gift else if gift < 5 then 6 else 0;");
        due("rich(0, 0): alike, the first", x.rich(0, 0), 0);
        due("rich(0, 1)", x.rich(0, 1), 0);
        due("rich(3, 0)", x.rich(3, 0), 0);
        due("rich(3, 1)", x.rich(3, 1), 27);
        due("rich(60, 0): alike, the first", x.rich(60, 0), 1);
        due("rich(60, 1)", x.rich(60, 1), 6 + 57 * 6);
        x.years(3);
        due("rich(1, 0): took most more, not most", x.rich(1, 0), 1);
        due("rich(1, 1)", x.rich(1, 1), 6);
        due("rich(61, 0)", x.rich(61, 0), -1);
        due("rich(-1, 0)", x.rich(-1, 0), -1);
        due("rich(1, 2)", x.rich(1, 2), -1);
        due("rich(1, -1)", x.rich(1, -1), -1);
        due("rich(1, 0) without churches", new SaintTheft().rich(1, 0), -2);
        due("rich(1, 1) without churches", new SaintTheft().rich(1, 1), -2);
        due("nothing happens", x.count(4), 3);
    }

    private static void promise28() {
        promise = 28;
        due("hub without churches", new SaintTheft().hub(), -2);
        due("hub of one", Texts.of("church a 0;").hub(), 0);
        due("hub without roads: the first", Texts.of("church a 0; church b 0;").hub(), 0);
        due("hub in the middle", Texts.of("church a 0; church b 0; church c 0; road a b 5; road b c 9;").hub(), 1);
        due("hub where others can't be reached: a 1998, b and c 1000",
                Texts.of("church a 0; church b 0; church c 0; road b c 1;").hub(), 1);
        due("hub by a way round", Texts.of("church a 0; church b 0; church c 0; church d 0; road a b 1; road b c 1; "
                + "road c d 1; road a d 99;").hub(), 1);
    }

    private static void promise29() {
        promise = 29;
        SaintTheft x = Texts.of(TOWN);
        due("crowd(0)", x.crowd(0), 3);
        due("crowd(1)", x.crowd(1), 0);
        due("steal(2, 2, 9), by none caught", x.steal(2, 2, 9), 1);
        due("crowd(2), where t is now", x.crowd(2), 2);
        due("crowd(0)", x.crowd(0), 1);
        due("crowd(3)", x.crowd(3), 0);
        due("crowd(4)", x.crowd(4), -1);
        due("crowd(-1)", x.crowd(-1), -1);
    }

    private static void promise30() {
        promise = 30;
        SaintTheft x = Texts.of(TOWN);
        x.years(4);
        due("healed(0, 0)", x.healed(0, 0), 0);
        due("healed(0, 1)", x.healed(0, 1), 1);
        due("healed(1, 60)", x.healed(1, 60), 60);
        due("healed(2, 60)", x.healed(2, 60), 0);
        due("healed(0, 61)", x.healed(0, 61), -1);
        due("healed(0, -1)", x.healed(0, -1), -1);
        due("healed(3, 1)", x.healed(3, 1), -1);
        due("healed(-1, 1)", x.healed(-1, 1), -1);
        due("nothing happens", x.pilgrim(0, 4), 4);
    }

    private static void promise31() {
        promise = 31;
        due("famed without churches", new SaintTheft().famed(1), -2);
        SaintTheft x = Texts.of("church a 0; church b 0; relic r b true; relic s b copy; pilgrim p b 1 1; pilgrim q a 1 1; "
                + "heals = truth * 100;");
        due("famed(0): alike, the first", x.famed(0), 0);
        due("famed(1)", x.famed(1), 1);
        x.years(3);
        due("famed(0): by then, not more", x.famed(0), 1);
        x.swap(0, 1);
        due("famed(60)", x.famed(60), 1);
        due("famed(61)", x.famed(61), -1);
        due("famed(-1)", x.famed(-1), -1);
        due("nothing happens", x.count(4), 3);
        SaintTheft y = Texts.of("church a 0; church b 0; relic r b true; relic s a copy; pilgrim p b 1 1; pilgrim q a 1 1; "
                + "heals = truth * 100;");
        y.years(3);
        y.swap(0, 1);
        due("famed(3): alike, the first", y.famed(3), 0);
        due("famed(2): b is ahead by what was written so far", y.famed(2), 1);
    }

    private static void promise32() {
        promise = 32;
        for (int seed : new int[] {0, 77, 9990}) {
            SaintTheft x = Texts.of("church a 0; relic r a true; relic s a true; pilgrim p a 1 1; heals = 8; seed " + seed + ";");
            int gone = x.years(2);
            for (int n = 0; n <= 6; n++) {
                int many = 0;
                for (int s = 1; s <= 20; s++) {
                    boolean wonder = false;
                    for (int year = gone; year < gone + n; year++) {
                        wonder |= Model.lot(100, seed + s - 1, 64 * year + 1) < 8;
                    }
                    many += wonder ? 1 : 0;
                    due("year(1, " + n + ", " + s + ") of seed " + seed, x.year(1, n, s), many);
                }
            }
            due("nothing happens", x.count(4), 2);
        }
        SaintTheft x = Texts.of(TOWN);
        x.years(1);
        due("year(0, 0, 20)", x.year(0, 0, 20), 0);
        due("year(0, 60, 20)", x.year(0, 60, 20), 20);
        due("year(1, 60, 20)", x.year(1, 60, 20), 0);
        due("year(0, 61, 1)", x.year(0, 61, 1), -1);
        due("year(0, -1, 1)", x.year(0, -1, 1), -1);
        due("year(0, 1, 0)", x.year(0, 1, 0), -1);
        due("year(0, 1, 21)", x.year(0, 1, 21), -1);
        due("year(3, 1, 1)", x.year(3, 1, 1), -1);
        due("year(-1, 1, 1)", x.year(-1, 1, 1), -1);
    }

    private static void dueBelief(SaintTheft x, int n, int k, int upper, int lower) {
        due("belief " + k + " of " + n + ", upper", x.belief(0, 0, n, k, false), upper);
        due("belief " + k + " of " + n + ", lower", x.belief(0, 0, n, k, true), lower);
    }

    private static void promise33() {
        promise = 33;
        String world = "church a 0; relic r a copy; pilgrim p a 1 1; heals = ";
        SaintTheft x = Texts.of(world + "20 + truth * 60;");
        dueBelief(x, 0, 0, 1, 2);
        dueBelief(x, 1, 1, 4, 5);
        dueBelief(x, 1, 0, 1, 5);
        dueBelief(x, 2, 1, 1, 2);
        dueBelief(x, 3, 2, 4, 5);
        dueBelief(x, 4, 4, 256, 257);
        dueBelief(x, 4, 0, 1, 257);
        due("belief n 5", x.belief(0, 0, 5, 0, true), -1);
        due("belief n -1", x.belief(0, 0, -1, 0, true), -1);
        due("belief k 3 of 2", x.belief(0, 0, 2, 3, true), -1);
        due("belief k -1", x.belief(0, 0, 2, -1, true), -1);
        due("belief of no relic", x.belief(1, 0, 1, 1, true), -1);
        due("belief of no relic", x.belief(-1, 0, 1, 1, true), -1);
        due("belief of no pilgrim", x.belief(0, 1, 1, 1, true), -1);
        due("belief of no pilgrim", x.belief(0, -1, 1, 1, true), -1);
        SaintTheft y = Texts.of(world + "100;");
        dueBelief(y, 2, 2, 1, 2);
        dueBelief(y, 2, 1, 1, 2);
        SaintTheft z = Texts.of(world + "truth * 100;");
        dueBelief(z, 4, 4, 1, 1);
        dueBelief(z, 4, 0, 0, 1);
        dueBelief(z, 4, 2, 1, 2);
        SaintTheft w = Texts.of(world + "97 + truth * 2;");
        // 99 and 97, which have nothing in common: 96059601 of 96059601 + 88529281
        dueBelief(w, 4, 4, 96059601, 184588882);
        SaintTheft v = Texts.of(world + "if years < 1 then 100 else 10 + wonders * 10 + truth * 40;");
        v.years(1);
        // One wonder so far: 20 and 60.
        dueBelief(v, 1, 1, 3, 4);
    }

    private static void promise34() {
        promise = 34;
        String world = "church a 0; relic r a copy; pilgrim p a 1 1; heals = ";
        SaintTheft x = Texts.of(world + "20 + truth * 60;");
        due("certain 0", x.certain(0, 0, 0), 0);
        due("certain 50", x.certain(0, 0, 50), 0);
        due("certain 51", x.certain(0, 0, 51), 1);
        due("certain 80", x.certain(0, 0, 80), 1);
        due("certain 81", x.certain(0, 0, 81), 2);
        due("certain 94", x.certain(0, 0, 94), 2);
        due("certain 95", x.certain(0, 0, 95), 3);
        due("certain 99", x.certain(0, 0, 99), 4);
        due("certain 100", x.certain(0, 0, 100), -2);
        due("certain 101", x.certain(0, 0, 101), -1);
        due("certain -1", x.certain(0, 0, -1), -1);
        due("certain of no relic", x.certain(1, 0, 1), -1);
        due("certain of no relic", x.certain(-1, 0, 1), -1);
        due("certain of no pilgrim", x.certain(0, 1, 1), -1);
        due("certain of no pilgrim", x.certain(0, -1, 1), -1);
        due("certain 100 by a wonder that no copy works", Texts.of(world + "truth;").certain(0, 0, 100), 1);
        due("certain 50 where no wonder can be", Texts.of(world + "0;").certain(0, 0, 50), 0);
        due("certain 51 where no wonder can be", Texts.of(world + "0;").certain(0, 0, 51), -2);
        due("certain 51 where copies heal more", Texts.of(world + "90 - truth;").certain(0, 0, 51), -2);
    }

    private static void promise35() {
        promise = 35;
        SaintTheft x = Texts.of(TOWN);
        due("tell(3, true)", x.tell(3, true), -1);
        due("tell(-1, true)", x.tell(-1, true), -1);
        due("told", x.count(12), 0);
        for (int i = 0; i < 20; i++) {
            due("tell " + i, x.tell(i % 3, i % 2 == 0), i);
        }
        due("tell 20", x.tell(0, true), -1);
        due("told", x.count(12), 20);
        due("no thing done", x.count(11), 0);
    }

    private static void promise36() {
        promise = 36;
        SaintTheft x = Texts.of(TOWN);
        due("forget nothing", x.forget(), 0);
        x.tell(0, true);
        x.tell(1, false);
        due("forget", x.forget(), 2);
        due("told", x.count(12), 0);
        due("whose(1, 0)", x.whose(1, 0), -1);
        due("tell again", x.tell(1, false), 0);
        due("forget", x.forget(), 1);
    }

    /** In the next year: all go to a; ann has wonders at all three, bob at the TRUE one, cid at the copies. */
    private static final String SIGNS = "church a 0; church b 0; relic r a true; relic s a copy; relic t a copy; "
            + "relic u b true; pilgrim ann a 9 0; pilgrim bob a 1 0; pilgrim cid a 2 0; "
            + "heals = if 5 < need then 100 else if need < 2 then truth * 100 else 100 - truth * 100;";

    private static void promise37() {
        promise = 37;
        SaintTheft x = Texts.of(SIGNS);
        due("whose(0, 0)", x.whose(0, 0), 4);
        due("whose(0, 1)", x.whose(0, 1), 15);
        x.tell(0, true);
        x.tell(2, true);
        x.tell(1, true);
        due("whose(0, 1) still", x.whose(0, 1), 15);
        due("whose(1, 1): none where ann does not go", x.whose(1, 1), 7);
        due("whose(2, 1)", x.whose(2, 1), 6);
        due("whose(2, 0)", x.whose(2, 0), 2);
        due("whose(3, 1)", x.whose(3, 1), 0);
        due("whose(3, 0)", x.whose(3, 0), 0);
        due("whose(4, 0)", x.whose(4, 0), -1);
        due("whose(-1, 0)", x.whose(-1, 0), -1);
        due("whose(0, 2)", x.whose(0, 2), -1);
        due("whose(0, -1)", x.whose(0, -1), -1);
        x.forget();
        x.tell(0, false);
        due("no wonder for ann: where she does not go", x.whose(1, 1), 8);
        x.swap(0, 3);
        due("as it is now", x.whose(1, 1), 1);
        due("nothing happens", x.count(4), 0);
        due("nothing happens", x.count(6), 0);
        due("whose without relics", new SaintTheft().whose(0, 0), 0);
        // The year that goes by next is another one then.
        SaintTheft y = Texts.of("church a 0; relic r a true; relic s a copy; pilgrim p a 0 0; "
                + "heals = if years < 1 then truth * 100 else 100 - truth * 100;");
        y.tell(0, true);
        due("whose in year 0", y.whose(1, 1), 1);
        y.years(1);
        due("whose in year 1", y.whose(1, 1), 2);
    }

    private static void promise38() {
        promise = 38;
        SaintTheft x = Texts.of(SIGNS);
        // Of r s t u: ann 3 or 1, bob 1 or 3, cid 2 or 2.
        due("ask(0)", x.ask(0), 2);
        x.tell(0, true);
        // Of r s t: ann 3 or 0, bob 1 or 2, cid 2 or 1.
        due("ask(1): alike, the first", x.ask(1), 1);
        due("ask(0) still", x.ask(0), 2);
        x.tell(2, true);
        // Of s t: ann 2 or 0, bob 0 or 2, cid 2 or 0.
        due("ask(2)", x.ask(2), 0);
        x.tell(1, true);
        due("ask(3): none are left", x.ask(3), -2);
        due("ask(4)", x.ask(4), -1);
        due("ask(-1)", x.ask(-1), -1);
        due("ask without relics", Texts.of("church a 0; pilgrim p a 0 0;").ask(0), -2);
        due("ask without pilgrims", Texts.of("church a 0; relic r a true;").ask(0), -2);
        due("nothing happens", x.count(4), 0);
    }

    private static void promise39() {
        promise = 39;
        SaintTheft x = Texts.of(TOWN);
        due("hold(-1)", x.hold(-1), false);
        due("hold(3)", x.hold(3), false);
        due("slots", x.count(13), 0);
        x.watch(0, 1);
        due("hold(0)", x.hold(0), true);
        due("hold(2)", x.hold(2), true);
        due("hold(2) again", x.hold(2), true);
        due("slots", x.count(13), 2);
        due("no thing done", x.count(11), 1);
        due("undo goes past it", x.undo(), true);
        due("slots", x.count(13), 2);
    }

    private static void promise40() {
        promise = 40;
        SaintTheft x = Texts.of(TOWN);
        due("restore of nothing", x.restore(0), false);
        x.years(2);
        x.hold(0);
        x.tell(0, true);
        x.steal(2, 2, 9);
        x.watch(0, 9);
        x.years(5);
        x.hold(1);
        x.feed(1, 2, 3, 4, 5);
        due("restore(2)", x.restore(2), false);
        due("restore(3)", x.restore(3), false);
        due("restore(-1)", x.restore(-1), false);
        due("things done", x.count(11), 4);
        due("restore(0)", x.restore(0), true);
        due("things done", x.count(11), 0);
        due("undo", x.undo(), false);
        due("year", x.count(4), 2);
        due("took", x.church(0, 3), 26);
        due("relic", x.relic(2, 0), 1);
        due("tried", x.count(7), 0);
        due("watchers", x.church(0, 0), 3);
        due("told stays", x.count(12), 1);
        due("tape stays", x.count(10), 20);
        due("slots", x.count(13), 2);
        x.years(1);
        due("undo", x.undo(), true);
        due("year", x.count(4), 2);
        x.years(9);
        due("restore(0): it stayed there", x.restore(0), true);
        due("year", x.count(4), 2);
        due("restore(1)", x.restore(1), true);
        due("year", x.count(4), 7);
        due("watchers", x.church(0, 0), 9);
        due("tried", x.count(7), 1);
    }

    private static void promise41() {
        promise = 41;
        SaintTheft x = Texts.of(TOWN);
        x.years(3);
        due("steal", x.steal(2, 2, 9), 1);
        x.watch(1, 4);
        x.tell(0, true);
        x.tell(0, true);
        x.hold(1);
        x.feed(1, 2, 3, 4, 5);
        int[] dues = {4, 2, 3, 3, 3, 39, 6, 1, 0, 1, 20, 3, 2, 1, 13, 5};
        for (int what = 0; what < dues.length; what++) {
            due("count(" + what + ")", x.count(what), dues[what]);
        }
        for (int what : new int[] {-1, 16, Integer.MIN_VALUE, Integer.MAX_VALUE}) {
            due("count(" + what + ")", x.count(what), -1);
        }
        SaintTheft y = Texts.of("church a 0; church b 0; relic r a true; relic s b copy; leave = 100; caught = 0;");
        y.steal(0, 1, 1);
        y.steal(0, 0, 1);
        y.steal(1, 0, 1);
        due("count(9)", y.count(9), 3);
        due("count(7)", y.count(7), 3);
    }
}
