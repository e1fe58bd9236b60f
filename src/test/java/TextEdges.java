import java.util.List;

/** Edges of the tape and of what a text may be: promises 1 to 5. */
final class TextEdges {
    private static final int BLANKS = 0x20202020;

    private TextEdges() {
    }

    private static int feedBlanks(SaintTheft x) {
        return x.feed(BLANKS, BLANKS, BLANKS, BLANKS, BLANKS);
    }

    private static int feedStrays(SaintTheft x) {
        return x.feed(0x40404040, 0x40404040, 0x40404040, 0x40404040, 0x40404040);
    }

    private static SaintTheft full() {
        SaintTheft x = new SaintTheft();
        for (int i = 1; i <= 100; i++) {
            Edges.due("feed " + i, feedBlanks(x), 20 * i);
        }
        return x;
    }

    private static boolean isBlank(int sign) {
        return sign == 9 || sign == 10 || sign == 13 || sign == 32;
    }

    private static boolean isLetter(int sign) {
        return sign >= 97 && sign <= 122;
    }

    /** Some TELLs alike but for a letter, which stands for the sign #. */
    static String many(String tell, int many) {
        StringBuilder text = new StringBuilder();
        for (int i = 0; i < many; i++) {
            text.append(tell.replace('#', (char) ('a' + i)));
        }
        return text.toString();
    }

    static void promise1NothingIsThere() {
        Edges.edge(1, "No CHURCHES, no RELICS.");
        SaintTheft x = new SaintTheft();
        for (int what = 0; what <= 15; what++) {
            Edges.due("count(" + what + ")", x.count(what), 0);
        }
        Edges.due("church", x.church(0, 0), -1);
        Edges.due("relic", x.relic(0, 0), -1);
        Edges.due("pilgrim", x.pilgrim(0, 0), -1);
        Edges.due("tells", x.tells(0, 0, 0), Edges.BAD);
        Edges.due("heals", x.heals(0, 0), -1);
        Edges.due("place", x.place(), -1);
        Edges.due("undo", x.undo(), false);
        Edges.due("hub", x.hub(), -2);
        Edges.due("weak", x.weak(0), -2);
        Edges.due("ask", x.ask(0), -2);
    }

    static void promise2HighestByteFirst() {
        Edges.edge(2, "Twenty bytes, the highest of a first, come behind the tape: how many it has.");
        for (int at = 0; at < 20; at++) {
            int[] words = {BLANKS, BLANKS, BLANKS, BLANKS, BLANKS};
            words[at / 4] ^= (' ' ^ '@') << (24 - 8 * (at % 4));
            SaintTheft x = new SaintTheft();
            Edges.due("feed", feedBlanks(x), 20);
            Edges.due("feed", x.feed(words[0], words[1], words[2], words[3], words[4]), 40);
            Edges.due("read", x.read(), 1);
            Edges.due("place of the stray byte", x.place(), 20 + at);
        }
    }

    static void promise2MoreThanFull() {
        Edges.edge(2, "NONE, and nothing comes, if it would have more than 2,000.");
        for (int free = 0; free <= 20; free++) {
            SaintTheft x = full();
            Edges.due("back", x.back(free), 2000 - free);
            Edges.due("feed with room for " + free, feedStrays(x), free < 20 ? -1 : 2000);
            Edges.due("bytes on the tape", x.count(10), free < 20 ? 2000 - free : 2000);
            Edges.due("read", x.read(), free < 20 ? 0 : 1);
            Edges.due("place", x.place(), free < 20 ? -1 : 1980);
        }
    }

    static void promise3NoneOrAllGo() {
        Edges.edge(3, "The last n bytes of the tape go: how many it has.");
        SaintTheft x = new SaintTheft();
        Edges.due("back(0) of nothing", x.back(0), 0);
        Texts.feed(x, "church a 1; church b");
        Edges.due("back(0)", x.back(0), 20);
        Edges.due("back(9)", x.back(9), 11);
        Edges.due("read of what is left", x.read(), 0);
        Edges.due("churches", x.count(0), 1);
        feedStrays(x);
        Edges.due("back(20)", x.back(20), 0);
        Edges.due("read of nothing", x.read(), 0);
        Edges.due("back(2000)", full().back(2000), 0);
    }

    static void promise3NotSoMany() {
        Edges.edge(3, "NONE, and nothing goes, if it has not so many, or n is below 0.");
        SaintTheft x = new SaintTheft();
        Edges.due("back(1) of nothing", x.back(1), -1);
        Texts.feed(x, "church a 1;seed 123;");
        Edges.dueForOthers("back", 21, -1, n -> x.back(n));
        Edges.due("bytes on the tape", x.count(10), 20);
        Edges.due("read", x.read(), 0);
        Edges.due("churches", x.count(0), 1);
        Edges.due("back(1), once it was read", x.back(1), -1);
        Edges.due("back(2001)", full().back(2001), -1);
    }

    static void promise4EmptyThen() {
        Edges.edge(4, "The tape, which is empty then, is read: 0, or the number of its FAULT.");
        String[] texts = {"church a 1;", "church", many("church # 1;", 7), "church a 1; church a 1;",
            "relic r a true;", "church a 10;"};
        SaintTheft x = new SaintTheft();
        Edges.due("read of nothing", x.read(), 0);
        for (int fault = 0; fault <= 5; fault++) {
            Edges.due("read of \"" + texts[fault] + "\"", Texts.read(x, texts[fault]), fault);
            Edges.due("bytes on the tape", x.count(10), 0);
            Edges.due("read of nothing", x.read(), 0);
        }
    }

    static void promise4LongestText() {
        Edges.edge(4, "A TEXT has 2,000 bytes at most.");
        Edges.dueRight(" ".repeat(1993) + "seed 1;");
        Edges.dueRight("seed 1;" + " ".repeat(1993));
        Edges.dueFault(" ".repeat(1994) + "seed 1", 1, 2000);
        Edges.dueFault(" ".repeat(1999) + "@", 1, 1999);
    }

    static void promise4LongestToken() {
        Edges.edge(4, "TOKENS, the longest that can be");
        Edges.dueFault("churcha 1;", 1, 0);
        Edges.dueFault("seed1 2;", 1, 6);
        Edges.dueRight("church seeda 1;");
        Edges.dueRight("church truecopy 1;");
        Edges.dueFault("church a b 1;", 1, 9);
        Edges.dueFault("seed 12 34;", 1, 8);
    }

    static void promise4Blanks() {
        Edges.edge(4, "with blanks (9, 10, 13, 32) between or not");
        for (int sign = 0; sign < 256; sign++) {
            boolean right = isBlank(sign);
            Edges.dueFault("church" + (char) sign + "a 1;", right ? 0 : 1, right ? -1 : isLetter(sign) ? 0 : 6);
            Edges.dueFault("" + (char) sign, right ? 0 : 1, right ? -1 : 0);
        }
        Edges.dueRight("church a1;seed5;church b2;road a b3;relic r a true;pilgrim p a 4 5;");
        Edges.dueRight("\t\n\r church\t\n\r a\t\n\r 1\t\n\r ;\t\n\r ");
    }

    static void promise4Letters() {
        Edges.edge(4, "letters a .. z");
        for (int sign = 0; sign < 256; sign++) {
            boolean right = isLetter(sign);
            Edges.dueFault("church " + (char) sign + " 1;", right ? 0 : 1, right ? -1 : isBlank(sign) ? 9 : 7);
        }
    }

    static void promise4EightLetters() {
        Edges.edge(4, "8 at most, none");
        Edges.dueRight("church abcdefgh 1;");
        Edges.dueFault("church abcdefghi 1;", 1, 7);
        Edges.dueFault("church " + "z".repeat(300) + " 1;", 1, 7);
        Edges.dueRight("church zzzzzzzz 1; church zzzzzzzy 1; church yzzzzzzz 1;");
        Edges.dueFault("church zzzzzzzz 1; church zzzzzzzz 1;", 3, 26);
    }

    static void promise4NamesOfOtherLengths() {
        Edges.edge(4, "NAMES (letters a .. z, 8 at most");
        for (char sign = 'a'; sign <= 'z'; sign++) {
            String one = "" + sign;
            StringBuilder text = new StringBuilder();
            for (int length = 1; length <= 6; length++) {
                text.append("church ").append(one.repeat(length)).append(" 1; ");
            }
            for (int length = 1; length <= 6; length++) {
                text.append("relic ").append(one).append(sign == 'x' ? 'y' : 'x').append(one.repeat(length)).append(' ')
                        .append(one.repeat(length)).append(" copy; ");
            }
            SaintTheft x = Texts.of(text.toString());
            for (int relic = 0; relic < 6; relic++) {
                Edges.due("where it is in \"" + text + "\"", x.relic(relic, 0), relic);
            }
        }
        Edges.dueRight("church ab 1; church ba 1; church a 1; church b 1; church aab 1; church baa 1;");
    }

    static void promise4NoWords() {
        Edges.edge(4, "none of the words in quotes");
        List<String> words = Model.WORDS;
        Edges.due("words in quotes", words.size(), 24);
        for (String word : words) {
            Edges.dueFault("church " + word + " 1;", 1, 7);
            Edges.dueRight("church " + word + "x 1;");
            String shorter = word.substring(0, word.length() - 1);
            if (!words.contains(shorter)) {
                Edges.dueRight("church " + shorter + " 1;");
            }
        }
    }

    static void promise4FourDigits() {
        Edges.edge(4, "INTS (1 to 4 digits)");
        Edges.dueRight("church a 1;");
        Edges.dueRight("church a 0001;");
        Edges.dueFault("church a 00001;", 1, 9);
        Edges.dueFault("seed 10000;", 1, 5);
        Edges.dueFault("draws = 00000;", 1, 8);
        Edges.dueFault("seed " + "1".repeat(300) + ";", 1, 5);
        // As 32 bits, 4294967296 would be 0 again.
        Edges.dueFault("church a 4294967296;", 1, 9);
        for (int sign = 0; sign < 256; sign++) {
            boolean right = sign >= '0' && sign <= '9';
            int place = isBlank(sign) ? 7 : 5;
            Edges.dueFault("seed " + (char) sign + " ;", right ? 0 : 1, right ? -1 : place);
        }
    }

    static void promise4Signs() {
        Edges.edge(4, "SIGNS ; = + - * / < ( ) .");
        Edges.dueRight("draws=if(1+2)<3-4*5/6then(7)else 8;");
        for (int sign = 0; sign < 256; sign++) {
            boolean right = "+-*/".indexOf(sign) >= 0;
            // Behind a ; too, the 2 is what can't stand.
            int place = isBlank(sign) || sign == ';' ? 12 : 10;
            Edges.dueFault("draws = 1 " + (char) sign + " 2;", right ? 0 : 1, right ? -1 : place);
        }
    }

    static void promise4NoToken() {
        Edges.edge(4, "A longer one, all else, is no TOKEN.");
        Edges.dueFault("ninechars", 1, 0);
        Edges.dueFault("seed 1; 12345", 1, 8);
        for (int sign = 0; sign < 256; sign++) {
            // A TOKEN could stand here in no other way than as the head of a TELL, which none of one byte is.
            Edges.dueFault("seed 1;" + (char) sign, isBlank(sign) ? 0 : 1, isBlank(sign) ? -1 : 7);
        }
    }

    private static void dueSix(String tell, String ahead, int most, int what) {
        String text = ahead + many(tell, most);
        Edges.dueRight(text);
        Edges.due("how many", Texts.of(text).count(what), most);
        String more = many(tell, most + 1).substring(many(tell, most).length());
        Edges.dueFault(text + " " + more, 2, text.length() + 1);
        Edges.dueFault(text + more.substring(0, more.indexOf(' ')), 2, text.length());
        Edges.dueFault(text + more.substring(0, more.indexOf(' ') - 1), 1, text.length());
    }

    static void promise4SixChurches() {
        Edges.edge(4, "CHURCHES, 6 at most");
        dueSix("church # 1;", "", 6, 0);
    }

    static void promise4SixRelics() {
        Edges.edge(4, "RELICS, 6 at most");
        dueSix("relic r# a copy;", "church a 1;", 6, 2);
    }

    static void promise4FivePilgrims() {
        Edges.edge(4, "PILGRIMS, 5 at most");
        dueSix("pilgrim p# a 1 1;", "church a 1;", 5, 3);
    }

    static void promise4NineRoads() {
        Edges.edge(4, "ROADS, 9 at most");
        String six = many("church # 1;", 6);
        String nine = six + many("road a # 1;", 6).substring("road a a 1;".length())
                + many("road b # 1;", 6).substring("road b a 1;road b b 1;".length());
        Edges.dueRight(nine);
        Edges.due("how many", Texts.of(nine).count(1), 9);
        Edges.dueFault(nine + "road c d 1;", 2, nine.length());
        // One that is told twice is one more all the same.
        Edges.dueFault(nine + "road a b 1;", 2, nine.length());
        Edges.dueFault(nine + "road", 2, nine.length());
    }

    static void promise4Watchers() {
        Edges.edge(4, "WATCHERS 0 .. 9");
        for (int many = 0; many <= 9; many++) {
            Edges.due("watchers", Texts.of("church a " + many + ";").church(0, 0), many);
        }
        for (int many : new int[] {10, 11, 99, 100, 1000, 9999}) {
            Edges.dueFault("church a " + many + ";", 5, 9);
        }
    }

    static void promise4Lengths() {
        Edges.edge(4, "LENGTH 1 .. 99");
        for (int length = 1; length <= 99; length++) {
            SaintTheft x = Texts.of("church a 1; church b 1; pilgrim p a 1 1; road b a " + length + ";");
            Edges.due("length", x.tells(0, 1, 2), length);
        }
        for (String length : new String[] {"0", "0000", "100", "999", "9999"}) {
            Edges.dueFault("church a 1; church b 1; road a b " + length + ";", 5, 33);
        }
    }

    static void promise4NeedAndGift() {
        Edges.edge(4, "NEED, GIFT 0 .. 9 each");
        for (int number = 0; number <= 9; number++) {
            SaintTheft x = Texts.of("church a 1; pilgrim p a " + number + " " + (9 - number) + ";");
            Edges.due("need", x.pilgrim(0, 1), number);
            Edges.due("gift", x.pilgrim(0, 2), 9 - number);
        }
        for (int number : new int[] {10, 99, 100, 9999}) {
            Edges.dueFault("church a 1; pilgrim p a " + number + " 9;", 5, 24);
            Edges.dueFault("church a 1; pilgrim p a 9 " + number + ";", 5, 26);
        }
    }

    static void promise4NumberedFromZero() {
        Edges.edge(4, "numbered each from 0 on as they stand");
        SaintTheft x = Texts.of("church z 4; relic y z true; pilgrim x z 1 2; church w 6; relic v w copy; "
                + "pilgrim u w 3 4; pilgrim t z 5 6;");
        Edges.due("church 0", x.church(0, 0), 4);
        Edges.due("church 1", x.church(1, 0), 6);
        Edges.due("relic 0", x.relic(0, 0), 0);
        Edges.due("relic 1", x.relic(1, 0), 1);
        Edges.due("pilgrim 0", x.pilgrim(0, 2), 2);
        Edges.due("pilgrim 1", x.pilgrim(1, 2), 4);
        Edges.due("pilgrim 2", x.pilgrim(2, 2), 6);
    }

    private static final String ONE = "church a 7; relic r a true; relic s a copy; relic t a true; pilgrim p a 1 8; ";

    static void promise4LawsNotTold() {
        Edges.edge(4, "LAWS: DRAWS (relics), HEALS (truth * 50), GIVES (gift), LEAVE (nights * 10), CAUGHT (watch * 10), "
                + "if not told");
        SaintTheft x = Texts.of(ONE);
        Edges.due("DRAWS", x.tells(0, 0, 0), 3);
        Edges.due("HEALS of a TRUE one", x.heals(0, 0), 50);
        Edges.due("HEALS of a COPY", x.heals(1, 0), 0);
        Edges.due("GIVES", x.tells(0, 0, 1), 8);
        Edges.due("LEAVE and CAUGHT", x.theft(0, 4), 40 * 30);
        // Those of the text ahead are not told by the next one.
        Edges.due("read", Texts.read(x, ONE + "draws = 1; heals = 2; gives = 3; leave = 4; caught = 5;"), 0);
        Edges.due("read", Texts.read(x, ONE), 0);
        Edges.due("DRAWS", x.tells(0, 0, 0), 3);
        Edges.due("HEALS", x.heals(0, 0), 50);
        Edges.due("GIVES", x.tells(0, 0, 1), 8);
        Edges.due("LEAVE and CAUGHT", x.theft(0, 4), 40 * 30);
    }

    static void promise4LastLaw() {
        Edges.edge(4, "if not told; the last one.");
        SaintTheft x = Texts.of("draws = 1; heals = 2; gives = 3; leave = 4; caught = 5;" + ONE
                + "draws = 11; heals = 12; gives = 13; leave = 14; caught = 15;");
        Edges.due("DRAWS", x.tells(0, 0, 0), 11);
        Edges.due("HEALS", x.heals(0, 0), 12);
        Edges.due("GIVES", x.tells(0, 0, 1), 13);
        Edges.due("LEAVE and CAUGHT", x.theft(0, 1), 14 * 85);
    }

    /** By LOT 100 of a seed and 1,000,000, which is 68 for 0, 89 for 1, 78 for 9999. */
    private static void dueSeed(String seeds, int lot) {
        String text = "church a 0; church b 0; relic r a true; " + seeds + " caught = ";
        Edges.due("not caught by " + lot, Texts.of(text + lot + "; leave = 0;").steal(0, 1, 1), 0);
        Edges.due("caught by one more than " + lot, Texts.of(text + (lot + 1) + "; leave = 0;").steal(0, 1, 1), 2);
    }

    static void promise4Seeds() {
        Edges.edge(4, "SEED 0 .. 9999 (0)");
        dueSeed("", 68);
        dueSeed("seed 0;", 68);
        dueSeed("seed 0000;", 68);
        dueSeed("seed 1;", 89);
        dueSeed("seed 9999;", 78);
        Edges.dueFault("seed 10000;", 1, 5);
        Edges.dueFault("seed;", 1, 4);
        Edges.dueFault("seed -1;", 1, 5);
    }

    static void promise4LastSeed() {
        Edges.edge(4, "(0), the last one.");
        dueSeed("seed 1; seed 9999;", 78);
        dueSeed("seed 9999; seed 1;", 89);
        dueSeed("seed 9999; seed 1; seed 0;", 68);
        SaintTheft x = Texts.of("seed 1;");
        Texts.read(x, "church a 0; church b 0; relic r a true; caught = 69; leave = 0;");
        Edges.due("the seed of the text ahead is not told by the next one", x.steal(0, 1, 1), 2);
    }

    static void promise4NoTells() {
        Edges.edge(4, "text: {TELL}.");
        Edges.dueRight("");
        Edges.dueRight(" ");
        Edges.dueRight("seed 1;seed 1;seed 1;");
        Edges.dueFault(";", 1, 0);
        Edges.dueFault("seed 1;;", 1, 7);
        Edges.dueFault("seed 1", 1, 6);
        Edges.dueFault("seed 1 seed 1;", 1, 7);
    }

    static void promise4NoIfs() {
        Edges.edge(4, "LAW: '=' {'if' E '<' E 'then' E 'else'} E.");
        Edges.dueRight("draws = 1;");
        Edges.dueFault("draws 1;", 1, 6);
        Edges.dueFault("draws = ;", 1, 8);
        Edges.dueFault("draws = 1 < 2;", 1, 10);
        Edges.dueFault("draws = if 1 then 2 else 3;", 1, 13);
        Edges.dueFault("draws = if 1 < 2 < 3 then 2 else 3;", 1, 17);
        Edges.dueFault("draws = if 1 < 2 then 3;", 1, 23);
        Edges.dueFault("draws = if 1 < 2 then 3 else;", 1, 28);
        Edges.dueFault("draws = if 1 < 2 else 3;", 1, 17);
        Edges.dueFault("draws = if 1 < 2 then if 3 < 4 then 5 else 6 else 7;", 1, 22);
        Edges.dueFault("draws = (if 1 < 2 then 3 else 4);", 1, 9);
    }

    static void promise4Units() {
        Edges.edge(4, "E: PART {('+' | '-') PART}. PART: UNIT {('*' | '/') UNIT}. UNIT: INT | VAR | '(' E ')'.");
        Edges.dueFault("draws = -1;", 1, 8);
        Edges.dueFault("draws = 1 +;", 1, 11);
        Edges.dueFault("draws = 1 * / 2;", 1, 12);
        Edges.dueFault("draws = ();", 1, 9);
        Edges.dueFault("draws = (1;", 1, 10);
        Edges.dueFault("draws = 1);", 1, 9);
        Edges.dueFault("draws = (1 < 2);", 1, 11);
        Edges.dueFault("draws = gold;", 1, 8);
        Edges.dueFault("draws = church;", 1, 8);
        for (String name : Model.VARS) {
            Edges.dueRight("draws = " + name + " + (" + name + ") * " + name + ";");
        }
    }

    static void promise5Latest() {
        Edges.edge(5, "The byte of the latest read()'s FAULT; NONE without.");
        SaintTheft x = new SaintTheft();
        Edges.due("place ahead of any read", x.place(), -1);
        Texts.read(x, "@");
        Edges.due("place of the first byte", x.place(), 0);
        Texts.feed(x, " ".repeat(1999) + "@");
        Edges.due("place until the next read", x.place(), 0);
        x.read();
        Edges.due("place of the last byte", x.place(), 1999);
        Texts.read(x, " ".repeat(1996) + "seed");
        Edges.due("place of the longest text's end", x.place(), 2000);
        x.read();
        Edges.due("place without a FAULT", x.place(), -1);
        Texts.read(x, "church a 10;");
        x.years(1);
        x.undo();
        Edges.due("place, whatever was done since", x.place(), 9);
    }
}
