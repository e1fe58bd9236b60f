/** Edges of a text's faults, and of what a text changes: promise 4. */
final class FaultEdges {
    /** Texts without a FAULT of a later sort, and one of each sort to be put behind or ahead of each other. */
    private static final String AHEAD = "church a 1; church b 1; relic r a true; ";
    private static final String[] LATE = {"church r 1; ", "relic s x true; ", "pilgrim p a 1 10; "};
    private static final int[] LATE_PLACES = {7, 8, 14};

    private FaultEdges() {
    }

    static void promise4TextsEnd() {
        Edges.edge(4, "FAULTS of a text, the first by its place (a byte; the text's end: its length)");
        Edges.dueFault("seed", 1, 4);
        Edges.dueFault("seed ", 1, 5);
        Edges.dueFault("seed 1 \t\n", 1, 9);
        String tell = "pilgrim p a 1 2 ;";
        for (int end = 1; end < tell.length(); end++) {
            Edges.dueFault("church a 1; " + tell.substring(0, end), 1, end < 7 ? 12 : 12 + end);
        }
        String law = "draws = if ( 1 + far ) * 2 < need / 3 then 4 else gift - 5 ;";
        for (int end = law.indexOf(' '); end < law.length(); end++) {
            // Where a word is cut off in its midst, what is left of it is a NAME, which no LAW has.
            boolean cut = Character.isLetter(law.charAt(end)) && Character.isLetter(law.charAt(end - 1));
            Edges.dueFault(law.substring(0, end), 1, cut ? law.lastIndexOf(' ', end) + 1 : end);
        }
        Edges.dueRight(law);
    }

    static void promise4FirstByPlace() {
        Edges.edge(4, "the first by its place");
        Edges.dueFault("seed @ @", 1, 5);
        String six = TextEdges.many("church # 1;", 6);
        Edges.dueFault(six + "church @", 2, 66);
        Edges.dueFault(six + "@ church g 1;", 1, 66);
        Edges.dueFault(six + "seed 1 church g 1;", 1, 73);
        Edges.dueFault("draws = (((((((@", 2, 14);
        Edges.dueFault("draws = ((((((@(", 1, 14);
    }

    static void promise4OnePlace() {
        Edges.edge(4, "of one place the least");
        String many = "draws=1" + "+1".repeat(198);
        // The 401st TOKEN, with which no text goes on anyway.
        Edges.dueFault(many + ";;", 1, many.length() + 1);
        Edges.dueFault(many + "+;", 1, many.length() + 1);
        Edges.dueFault(many + "+if", 1, many.length() + 1);
        // A 5th if, where none can stand.
        String ifs = "draws = " + "if 1 < 2 then 3 else ".repeat(4);
        Edges.dueFault(ifs + "4 if", 1, ifs.length() + 2);
        Edges.dueFault(ifs + "4 + if", 1, ifs.length() + 4);
        // A 7th (, where none can stand.
        Edges.dueFault("draws = ((((((1(", 1, 15);
        // A 7th church, where no TELL begins.
        String six = TextEdges.many("church # 1;", 6);
        Edges.dueFault(six + "seed church", 1, 71);
        Edges.dueFault(six + "relic church", 1, 72);
    }

    static void promise4Syntax() {
        Edges.edge(4, "1 SYNTAX: a TOKEN, or what is none, with which no text goes on.");
        String[] tells = {"church c 1 ;", "road a b 1 ;", "relic s a true ;", "relic s b copy ;", "pilgrim p a 1 2 ;",
            "draws = 1 ;", "heals = far ;", "gives = ( 1 ) ;", "leave = 1 + 2 ;", "caught = if 1 < 2 then 3 else 4 ;",
            "seed 1 ;"};
        for (String tell : tells) {
            Edges.dueRight(AHEAD + tell);
            for (int end = tell.indexOf(' '); end >= 0; end = tell.indexOf(' ', end + 1)) {
                int place = AHEAD.length() + end + 1;
                String begun = AHEAD + tell.substring(0, end + 1);
                // These can stand behind none of them.
                for (String stray : new String[] {"@", "ninechars", "12345", "church", "seed", "A"}) {
                    Edges.dueFault(begun + stray + " " + tell.substring(end + 1), 1, place);
                }
                Edges.dueFault(begun, 1, place);
            }
        }
    }

    static void promise4TokensFull() {
        Edges.edge(4, "2 ROOM: a 401st TOKEN");
        String many = "draws=1" + "+1".repeat(198);
        Edges.dueRight(many + ";");
        Edges.dueRight(many + ";" + " ".repeat(20));
        Edges.dueFault(many, 1, many.length());
        Edges.dueFault(many + "+", 1, many.length() + 1);
        Edges.dueFault(many + "+1;", 2, many.length() + 1);
        Edges.dueFault(many + "+ (1);", 2, many.length() + 2);
        Edges.dueFault(many + "+ far;", 2, many.length() + 2);
        Edges.dueFault(many + "; @", 1, many.length() + 2);
        Edges.dueFault(many + "; ninechars", 1, many.length() + 2);
        for (String head : new String[] {"church", "road", "relic", "pilgrim", "draws", "heals", "gives", "leave",
            "caught", "seed"}) {
            Edges.dueFault(many + "; " + head, 2, many.length() + 2);
            Edges.dueFault(many + "; " + head + " @", 2, many.length() + 2);
        }
    }

    /** TELLs of just so many TOKENS; six or more. */
    private static String tokens(int many) {
        int fours = many % 3;
        return "draws=1;".repeat(fours) + "seed 1;".repeat((many - 4 * fours) / 3);
    }

    static void promise4EachTokenTheLast() {
        Edges.edge(4, "a 401st TOKEN");
        // Each TOKEN of these TELLs, in its turn, is the 401st; and the one ahead of it is still in its place.
        String tells = "church a 1 ; church b 2 ; road a b 3 ; relic r a true ; relic s b copy ; pilgrim p a 4 5 ; "
                + "heals = if ( 1 + far ) * 2 < need / 3 then 4 - 5 else if 1 < 2 then 6 else ( ( gift ) ) - 5 ; seed 7 ;";
        int many = tells.split(" ").length;
        int place = 0;
        for (int i = 0; i < many; i++) {
            String ahead = tokens(400 - i);
            Edges.dueFault(ahead + tells, 2, ahead.length() + place);
            Edges.dueFault(ahead + tells.substring(0, place) + "@", 1, ahead.length() + place);
            if (i > 0 && tells.charAt(place - 2) == ';') {
                Edges.dueRight(ahead + tells.substring(0, place));
            }
            place = tells.indexOf(' ', place) + 1;
        }
        Edges.dueRight(tokens(400 - many) + tells);
    }

    static void promise4RoomWhereNoneStands() {
        Edges.edge(4, "2 ROOM: a 401st TOKEN; one more of a sort than told (at its first TOKEN); a 5th if of a LAW (at it); "
                + "a 7th ( within one another (at it).");
        // The 401st TOKEN is one of the others at once: it is ROOM either way.
        String six = TextEdges.many("church # 1;", 6);
        String ahead = tokens(400 - 24);
        Edges.dueFault(six + ahead + "church g 1;", 2, six.length() + ahead.length());
        String ifs = "draws = " + "if 1 < 2 then 3 else ".repeat(4);
        ahead = tokens(400 - 30);
        Edges.dueFault(ahead + ifs + "if", 2, ahead.length() + ifs.length());
        ahead = tokens(400 - 8);
        Edges.dueFault(ahead + "draws=(((((((1", 2, ahead.length() + 12);
    }

    static void promise4OneMoreOfASort() {
        Edges.edge(4, "one more of a sort than told (at its first TOKEN)");
        String six = TextEdges.many("church # 1; ", 6);
        Edges.dueFault(six + "church g 1;", 2, six.length());
        // Its own faults stand further on, be they of SYNTAX or not.
        Edges.dueFault(six + "church g;", 2, six.length());
        Edges.dueFault(six + "church a 10;", 2, six.length());
        // The other sorts may still come.
        Edges.dueRight(six + "road a b 1; relic r a true; pilgrim p a 1 1; draws = 1; seed 1;");
        Edges.dueRight("seed 1; ".repeat(30) + "draws = 1; ".repeat(30));
    }

    static void promise4FifthIf() {
        Edges.edge(4, "a 5th if of a LAW (at it)");
        String four = "draws = " + "if 1 < 2 then 3 else ".repeat(4);
        Edges.dueRight(four + "4;");
        Edges.dueFault(four + "if 1 < 2 then 3 else 4;", 2, four.length());
        Edges.dueFault(four + "if", 2, four.length());
        Edges.dueFault(four + "if @", 2, four.length());
        // They are counted for each LAW anew, and for the same one too.
        Edges.dueRight(four + "4; heals" + four.substring(5) + "4; " + four + "4;");
    }

    static void promise4SeventhBracket() {
        Edges.edge(4, "a 7th ( within one another (at it)");
        Edges.dueRight("draws = ((((((1))))));");
        Edges.dueFault("draws = (((((((1)))))));", 2, 14);
        Edges.dueFault("draws = (((((((", 2, 14);
        Edges.dueFault("draws = ((((((1+2*(", 2, 18);
        // Beside one another there may be more.
        Edges.dueRight("draws = (1)+(2)*(3)-(4)/(5)+(6)+(7)+(8);");
        Edges.dueRight("draws = ((((((1)+(2))+(3))+(4))+(5))+(6));");
        Edges.dueRight("draws = ((((((1))))))*((((((2))))));");
        Edges.dueRight("draws = if ((((((1)))))) < ((((((2)))))) then ((((((3)))))) else ((((((4))))));");
        Edges.dueFault("draws = if ((((((1)))))) < (((((((2))))))) then 3 else 4;", 2, 33);
        Edges.dueFault("draws = if 1 < 2 then (((((((3))))))) else 4;", 2, 28);
        Edges.dueFault("draws = if 1 < 2 then 3 else (((((((4)))))));", 2, 35);
    }

    static void promise4IfThereIsNone() {
        Edges.edge(4, "If there is none, likewise");
        for (int first = 0; first < 3; first++) {
            for (int next = 0; next < 3; next++) {
                String text = AHEAD + LATE[first] + LATE[next];
                int place = AHEAD.length() + LATE_PLACES[first];
                Edges.dueFault(text, 3 + first, place);
                // SYNTAX and ROOM count first, wherever they stand.
                Edges.dueFault(text + "@", 1, text.length());
                Edges.dueFault(text + "seed", 1, text.length() + 4);
                Edges.dueFault(text + "draws = (((((((1)))))));", 2, text.length() + 14);
            }
        }
        // Within one TELL, by place too.
        Edges.dueFault(AHEAD + "church a 10;", 3, AHEAD.length() + 7);
        Edges.dueFault(AHEAD + "road x y 100;", 4, AHEAD.length() + 5);
        Edges.dueFault(AHEAD + "road a y 100;", 4, AHEAD.length() + 7);
        Edges.dueFault(AHEAD + "road a a 100;", 3, AHEAD.length() + 7);
        Edges.dueFault(AHEAD + "relic r x true;", 3, AHEAD.length() + 6);
        Edges.dueFault(AHEAD + "pilgrim r x 10 10;", 3, AHEAD.length() + 8);
        Edges.dueFault(AHEAD + "pilgrim p x 10 10;", 4, AHEAD.length() + 10);
        Edges.dueFault(AHEAD + "pilgrim p a 10 10;", 5, AHEAD.length() + 12);
    }

    static void promise4NameToldAlready() {
        Edges.edge(4, "3 TWICE: a NAME told already (all together)");
        String all = "church a 1; relic r a true; pilgrim p a 1 1; ";
        for (String name : new String[] {"a", "r", "p"}) {
            Edges.dueFault(all + "church " + name + " 1;", 3, all.length() + 7);
            Edges.dueFault(all + "relic " + name + " a copy;", 3, all.length() + 6);
            Edges.dueFault(all + "pilgrim " + name + " a 1 1;", 3, all.length() + 8);
        }
        // All that can be told, the last NAME as the first, as the one ahead, and as none.
        String full = TextEdges.many("church # 1;", 6) + TextEdges.many("relic r# a true;", 6)
                + TextEdges.many("pilgrim p# a 1 1;", 4);
        Edges.dueRight(full + "pilgrim pe a 1 1;");
        Edges.dueFault(full + "pilgrim a a 1 1;", 3, full.length() + 8);
        Edges.dueFault(full + "pilgrim rf a 1 1;", 3, full.length() + 8);
        Edges.dueFault(full + "pilgrim pd a 1 1;", 3, full.length() + 8);
        // A text with a FAULT, and the text ahead, tell no NAMES for the next one.
        SaintTheft x = new SaintTheft();
        Edges.due("read", Texts.read(x, all), 0);
        Edges.due("read", Texts.read(x, all + "church z 10;"), 5);
        Edges.due("read", Texts.read(x, all + "church z 1;"), 0);
    }

    static void promise4RoadToItself() {
        Edges.edge(4, "(at the second NAME) a ROAD from a CHURCH to itself, or that there is already.");
        String two = "church a 1; church b 1; church c 1; ";
        int length = two.length();
        Edges.dueFault(two + "road b b 5;", 3, length + 7);
        Edges.dueFault(two + "road a b 5; road a b 5;", 3, length + 19);
        Edges.dueFault(two + "road a b 5; road b a 6;", 3, length + 19);
        Edges.dueFault(two + "road a b 99; road a b 1;", 3, length + 20);
        Edges.dueRight(two + "road a b 5; road b c 5; road c a 5;");
        Edges.dueFault("road a a 5;", 4, 5);
    }

    static void promise4NoSuchChurch() {
        Edges.edge(4, "4 NAME: (at it) no such CHURCH told ahead");
        Edges.dueFault("relic r a true;", 4, 8);
        Edges.dueFault("relic r a true; church a 1;", 4, 8);
        Edges.dueFault("church a 1; pilgrim p b 1 1; church b 1;", 4, 22);
        Edges.dueFault("church a 1; road a b 5; church b 1;", 4, 19);
        Edges.dueFault("church a 1; road b a 5; church b 1;", 4, 17);
        // A RELIC or a PILGRIM is no CHURCH, nor is what is told itself.
        Edges.dueFault("church a 1; relic r a true; relic s r true;", 4, 36);
        Edges.dueFault("church a 1; pilgrim p a 1 1; relic s p true;", 4, 37);
        Edges.dueFault("church a 1; relic r r true;", 4, 20);
        // Nor one of the text ahead.
        SaintTheft x = Texts.of("church a 1;");
        Edges.due("read", Texts.read(x, "relic r a true;"), 4);
    }

    static void promise4NameOfTheFirst() {
        Edges.edge(4, "(a NAME told more than once is that of the first one)");
        Edges.dueFault("church a 1; church a 2; relic r a true;", 3, 19);
        Edges.dueFault("church a 1; relic r a true; church r 1; relic s r true;", 3, 35);
        Edges.dueFault("church a 1; church b 1; church a 1; road a a 1;", 3, 31);
    }

    static void promise4WrongNumber() {
        Edges.edge(4, "5 WRONG (at the INT): a number not as told above.");
        Edges.dueFault("church a   10;", 5, 11);
        Edges.dueFault("church a 1; church b 1; road a b   0;", 5, 35);
        Edges.dueFault("church a 1; pilgrim p a 9   10;", 5, 28);
        // The INTS of LAWS and SEEDS may be any.
        Edges.dueRight("draws = 0; heals = 9999; seed 0; seed 9999;");
    }

    private static final String RUN = "church a 3; church b 0; relic r a true; relic s b copy; pilgrim p a 2 7; "
            + "heals = 100; gives = 5; leave = 100; caught = 0; draws = 4; seed 5;";

    private static SaintTheft gone() {
        SaintTheft x = Texts.of(RUN);
        x.years(3);
        x.steal(0, 1, 1);
        x.watch(0, 8);
        x.hold(0);
        x.hold(2);
        x.tell(0, true);
        return x;
    }

    static void promise4FaultChangesNothing() {
        Edges.edge(4, "A text with a FAULT changes nothing but the tape");
        String[] texts = {"", "church z 1; gives = 9; seed 7; seed", TextEdges.many("church # 5; gives = 9;", 7),
            "church z 1; gives = 9; church z 1;", "church z 1; gives = 9; relic r y true;",
            "church z 1; gives = 9; church y 10;"};
        for (int fault = 1; fault <= 5; fault++) {
            SaintTheft x = gone();
            String before = Edges.seen(x);
            Edges.due("read", Texts.read(x, texts[fault]), fault);
            Edges.due("place is there", x.place() >= 0, true);
            Edges.due("bytes on the tape", x.count(10), 0);
            Edges.due("all else is as it was", Edges.seen(x).startsWith(before.substring(0, before.indexOf("; place"))),
                    true);
            Edges.due("GIVES", x.tells(0, 0, 1), 5);
            Edges.due("DRAWS", x.tells(0, 0, 0), 4);
            Edges.due("undo", x.undo(), true);
            Edges.due("watchers", x.church(0, 0), 3);
            Edges.due("restore", x.restore(2), true);
            Edges.due("watchers", x.church(0, 0), 8);
            Edges.due("restore", x.restore(1), false);
        }
    }

    static void promise4NothingIsLeftOver() {
        Edges.edge(4, "else it is in place of the one ahead: year 0, all as told");
        String full = TextEdges.many("church # 9;", 6) + TextEdges.many("relic r# f true;", 6)
                + TextEdges.many("pilgrim p# f 9 9;", 5) + "road a b 1;road b c 1;seed 9;draws=7;heals=7;gives=7;leave=7;caught=7;";
        String small = "church a 0; church b 0; relic r a copy; pilgrim p a 0 1;";
        String fresh = Edges.seen(Texts.of(small));
        SaintTheft x = new SaintTheft();
        for (int i = 0; i < 3; i++) {
            Edges.due("read", Texts.read(x, full), 0);
            Edges.due("read", Texts.read(x, i == 0 ? full : full + "@"), i == 0 ? 0 : 1);
            Edges.due("read", Texts.read(x, small), 0);
            Edges.dueSame("a small text behind a full one", x, fresh);
            Edges.due("far", x.tells(0, 1, 2), 999);
            Edges.due("DRAWS", x.tells(0, 0, 0), 1);
            Edges.due("GIVES", x.tells(0, 0, 1), 1);
            Edges.due("HEALS", x.heals(0, 0), 0);
            Edges.due("LEAVE and CAUGHT", x.theft(0, 9), 9000);
        }
        SaintTheft y = new SaintTheft();
        for (int i = 0; i < 5; i++) {
            Edges.due("read", Texts.read(y, "church a 0;pilgrim p a 1 8;draws=1" + "+1".repeat(190) + ";"), 0);
            Edges.due("the longest law, once more", y.tells(0, 0, 0), 191);
            Edges.due("one that was not told", y.tells(0, 0, 1), 8);
        }
        SaintTheft z = new SaintTheft();
        Texts.read(z, "seed 1; relic r a true;");
        Texts.read(z, "church a 0; church b 0; relic r a true; caught = 69; leave = 0;");
        Edges.due("seed 0 again: 68 is less than 69", z.steal(0, 1, 1), 2);
    }

    static void promise4InPlaceOfTheOneAhead() {
        Edges.edge(4, "else it is in place of the one ahead: year 0, all as told, no wonders, nothing taken; nothing can be "
                + "undone, nothing is TOLD, SLOTS hold nothing.");
        SaintTheft x = gone();
        Edges.due("read", Texts.read(x, RUN), 0);
        String fresh = Edges.seen(Texts.of(RUN));
        Edges.dueSame("the same text again", x, fresh);
        Edges.due("undo", x.undo(), false);
        for (int slot = 0; slot <= 2; slot++) {
            Edges.due("restore", x.restore(slot), false);
        }
        Edges.due("tell", x.tell(0, true), 0);
        SaintTheft y = gone();
        Edges.due("read of an empty text", y.read(), 0);
        Edges.dueSame("an empty text", y, Edges.seen(new SaintTheft()));
        Edges.due("church", y.church(0, 0), -1);
        Edges.due("relic", y.relic(0, 0), -1);
        Edges.due("pilgrim", y.pilgrim(0, 0), -1);
        Edges.due("undo", y.undo(), false);
        Edges.due("restore", y.restore(0), false);
    }
}
