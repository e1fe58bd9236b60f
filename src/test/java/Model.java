import java.math.BigInteger;
import java.util.ArrayDeque;
import java.util.ArrayList;
import java.util.Arrays;
import java.util.Deque;
import java.util.HashMap;
import java.util.HashSet;
import java.util.LinkedHashMap;
import java.util.LinkedHashSet;
import java.util.List;
import java.util.Map;
import java.util.Set;
import java.util.function.ToIntFunction;
import java.util.regex.Matcher;
import java.util.regex.Pattern;

/**
 * The document told a second time, as plainly as it can be and with none of the class's own ways: texts are
 * judged by an Earley recogniser over the grammar as data, laws are trees, all that goes on is cloned whole.
 * RandomRunsTest holds the class against it.
 */
final class Model {
    static final List<String> WORDS = List.of("church", "road", "relic", "true", "copy", "pilgrim", "draws", "heals",
            "gives", "leave", "caught", "seed", "if", "then", "else", "relics", "wonders", "far", "need", "gift",
            "nights", "watch", "years", "truth");
    static final List<String> VARS = WORDS.subList(15, 24);

    /** Each row: a left side and what may stand for it; words in capitals are left sides, or NAME and INT. */
    private static final String[] GRAMMAR = {
        "TEXT :", "TEXT : TEXT TELL",
        "TELL : church NAME INT ;", "TELL : road NAME NAME INT ;",
        "TELL : relic NAME NAME true ;", "TELL : relic NAME NAME copy ;",
        "TELL : pilgrim NAME NAME INT INT ;",
        "TELL : draws LAW ;", "TELL : heals LAW ;", "TELL : gives LAW ;", "TELL : leave LAW ;",
        "TELL : caught LAW ;", "TELL : seed INT ;",
        "LAW : = CHOICE", "CHOICE : E", "CHOICE : if E < E then E else CHOICE",
        "E : PART", "E : E + PART", "E : E - PART",
        "PART : UNIT", "PART : PART * UNIT", "PART : PART / UNIT",
        "UNIT : INT", "UNIT : ( E )",
        "UNIT : relics", "UNIT : wonders", "UNIT : far", "UNIT : need", "UNIT : gift", "UNIT : nights",
        "UNIT : watch", "UNIT : years", "UNIT : truth",
    };
    private static final Map<String, List<List<String>>> RULES = new LinkedHashMap<>();

    static {
        for (String row : GRAMMAR) {
            String[] sides = row.split(" :");
            List<String> right = sides.length < 2 ? List.of() : List.of(sides[1].trim().split(" "));
            RULES.computeIfAbsent(sides[0], key -> new ArrayList<>()).add(right);
        }
    }

    record Token(String kind, String letters, int place) {
        int number() {
            return Integer.parseInt(letters);
        }
    }

    record Fault(int place, int number) {
    }

    record Item(String left, List<String> right, int dot, int from) {
        String next() {
            return dot < right.size() ? right.get(dot) : null;
        }

        Item on() {
            return new Item(left, right, dot + 1, from);
        }
    }

    /** What a text told. */
    static final class World {
        final List<String> churches = new ArrayList<>();
        final List<Integer> watchers = new ArrayList<>();
        final List<int[]> roads = new ArrayList<>();
        final List<Integer> relicHomes = new ArrayList<>();
        final List<Boolean> isTrue = new ArrayList<>();
        final List<int[]> pilgrims = new ArrayList<>();
        final Map<String, List<Token>> laws = new HashMap<>();
        int seed;

        int far(int from, int to) {
            int[] least = new int[churches.size()];
            Arrays.fill(least, 999);
            least[from] = 0;
            for (int round = 0; round < churches.size(); round++) {
                for (int[] road : roads) {
                    least[road[0]] = Math.min(least[road[0]], least[road[1]] + road[2]);
                    least[road[1]] = Math.min(least[road[1]], least[road[0]] + road[2]);
                }
            }
            return Math.min(999, least[to]);
        }
    }

    /** All that goes on. */
    static final class Going implements Cloneable {
        int year;
        int tried;
        int caught;
        int[] watchers;
        int[] where;
        int[] churchWonders;
        int[] took;
        int[] relicWonders;
        int[] carried;
        int[] given;
        int[] healed;

        Going(World world) {
            int churches = world.churches.size();
            int relics = world.relicHomes.size();
            int pilgrims = world.pilgrims.size();
            watchers = world.watchers.stream().mapToInt(i -> i).toArray();
            where = world.relicHomes.stream().mapToInt(i -> i).toArray();
            churchWonders = new int[churches];
            took = new int[churches];
            relicWonders = new int[relics];
            carried = new int[relics];
            given = new int[pilgrims];
            healed = new int[pilgrims];
        }

        Going copy() {
            try {
                Going other = (Going) clone();
                other.watchers = watchers.clone();
                other.where = where.clone();
                other.churchWonders = churchWonders.clone();
                other.took = took.clone();
                other.relicWonders = relicWonders.clone();
                other.carried = carried.clone();
                other.given = given.clone();
                other.healed = healed.clone();
                return other;
            } catch (CloneNotSupportedException e) {
                throw new IllegalStateException(e);
            }
        }
    }

    private String tape = "";
    private int place = -1;
    private World world = new World();
    private Going now = new Going(world);
    private final Deque<Going> done = new ArrayDeque<>();
    private final Going[] slots = new Going[3];
    private final List<int[]> told = new ArrayList<>();

    // ---- I. the text

    int feed(int... words) {
        StringBuilder more = new StringBuilder();
        for (int word : words) {
            for (int shift = 24; shift >= 0; shift -= 8) {
                more.append((char) (word >> shift & 255));
            }
        }
        if (tape.length() + more.length() > 2000) {
            return -1;
        }
        tape += more;
        return tape.length();
    }

    int back(int n) {
        if (n < 0 || n > tape.length()) {
            return -1;
        }
        tape = tape.substring(0, tape.length() - n);
        return tape.length();
    }

    int read() {
        String text = tape;
        tape = "";
        List<Token> tokens = tokensOf(text);
        Fault fault = least(early(tokens, text.length()));
        World next = new World();
        if (fault == null) {
            fault = least(build(tokens, next));
        }
        place = fault == null ? -1 : fault.place();
        if (fault != null) {
            return fault.number();
        }
        world = next;
        now = new Going(world);
        done.clear();
        Arrays.fill(slots, null);
        told.clear();
        return 0;
    }

    int place() {
        return place;
    }

    private static Fault least(List<Fault> faults) {
        Fault best = null;
        for (Fault fault : faults) {
            if (best == null || fault.place() < best.place()
                    || fault.place() == best.place() && fault.number() < best.number()) {
                best = fault;
            }
        }
        return best;
    }

    static List<Token> tokensOf(String text) {
        List<Token> tokens = new ArrayList<>();
        Matcher matcher = Pattern.compile("[a-z]+|[0-9]+|[^ \\t\\n\\r]", Pattern.DOTALL).matcher(text);
        while (matcher.find()) {
            String letters = matcher.group();
            String kind;
            if (letters.matches("[a-z]+")) {
                kind = letters.length() > 8 ? "?" : WORDS.contains(letters) ? letters : "NAME";
            } else if (letters.matches("[0-9]+")) {
                kind = letters.length() > 4 ? "?" : "INT";
            } else {
                kind = List.of(";", "=", "+", "-", "*", "/", "<", "(", ")").contains(letters) ? letters : "?";
            }
            tokens.add(new Token(kind, letters, matcher.start()));
        }
        return tokens;
    }

    private static List<Fault> early(List<Token> tokens, int length) {
        List<Fault> faults = new ArrayList<>();
        int syntax = syntaxPlace(tokens, length);
        if (syntax >= 0) {
            faults.add(new Fault(syntax, 1));
        }
        Map<String, Integer> most = Map.of("church", 6, "road", 9, "relic", 6, "pilgrim", 5);
        Map<String, Integer> seen = new HashMap<>();
        int ifs = 0;
        int deep = 0;
        for (int i = 0; i < tokens.size(); i++) {
            String kind = tokens.get(i).kind();
            boolean tooMany = i == 400;
            if (most.containsKey(kind)) {
                tooMany |= seen.merge(kind, 1, Integer::sum) > most.get(kind);
            }
            if (kind.equals("=")) {
                ifs = 0;
                deep = 0;
            }
            ifs += kind.equals("if") ? 1 : 0;
            deep += kind.equals("(") ? 1 : kind.equals(")") ? -1 : 0;
            tooMany |= kind.equals("if") && ifs > 4;
            tooMany |= kind.equals("(") && deep > 6;
            if (tooMany) {
                faults.add(new Fault(tokens.get(i).place(), 2));
            }
        }
        return faults;
    }

    /** The first place where no text of the grammar goes on, or -1. */
    private static int syntaxPlace(List<Token> tokens, int length) {
        Set<Item> start = new LinkedHashSet<>();
        start.add(new Item("START", List.of("TEXT"), 0, 0));
        List<Set<Item>> sets = new ArrayList<>();
        sets.add(start);
        for (int i = 0;; i++) {
            close(sets, i);
            if (i == tokens.size()) {
                Item whole = new Item("START", List.of("TEXT"), 1, 0);
                return sets.get(i).contains(whole) ? -1 : length;
            }
            Set<Item> next = new LinkedHashSet<>();
            for (Item item : sets.get(i)) {
                if (tokens.get(i).kind().equals(item.next())) {
                    next.add(item.on());
                }
            }
            if (next.isEmpty()) {
                return tokens.get(i).place();
            }
            sets.add(next);
        }
    }

    private static void close(List<Set<Item>> sets, int at) {
        Deque<Item> open = new ArrayDeque<>(sets.get(at));
        while (!open.isEmpty()) {
            Item item = open.poll();
            List<Item> more = new ArrayList<>();
            if (item.next() == null) {
                for (Item waiting : new ArrayList<>(sets.get(item.from()))) {
                    if (item.left().equals(waiting.next())) {
                        more.add(waiting.on());
                    }
                }
            } else if (RULES.containsKey(item.next())) {
                for (List<String> right : RULES.get(item.next())) {
                    more.add(new Item(item.next(), right, 0, at));
                    if (right.isEmpty()) {
                        more.add(item.on());
                    }
                }
            }
            for (Item one : more) {
                if (sets.get(at).add(one)) {
                    open.add(one);
                }
            }
        }
    }

    private static List<Fault> build(List<Token> tokens, World world) {
        List<Fault> faults = new ArrayList<>();
        Set<String> names = new HashSet<>();
        List<Token> tell = new ArrayList<>();
        for (Token token : tokens) {
            if (!token.kind().equals(";")) {
                tell.add(token);
                continue;
            }
            String sort = tell.get(0).kind();
            switch (sort) {
                case "church" -> {
                    name(tell.get(1), names, faults);
                    range(tell.get(2), 0, 9, faults);
                    world.churches.add(tell.get(1).letters());
                    world.watchers.add(tell.get(2).number());
                }
                case "road" -> {
                    int from = church(tell.get(1), world, faults);
                    int to = church(tell.get(2), world, faults);
                    for (int[] road : world.roads) {
                        if (road[0] == from && road[1] == to || road[0] == to && road[1] == from) {
                            faults.add(new Fault(tell.get(2).place(), 3));
                        }
                    }
                    if (from == to) {
                        faults.add(new Fault(tell.get(2).place(), 3));
                    }
                    range(tell.get(3), 1, 99, faults);
                    world.roads.add(new int[] {from, to, tell.get(3).number()});
                }
                case "relic" -> {
                    name(tell.get(1), names, faults);
                    world.relicHomes.add(church(tell.get(2), world, faults));
                    world.isTrue.add(tell.get(3).kind().equals("true"));
                }
                case "pilgrim" -> {
                    name(tell.get(1), names, faults);
                    int home = church(tell.get(2), world, faults);
                    range(tell.get(3), 0, 9, faults);
                    range(tell.get(4), 0, 9, faults);
                    world.pilgrims.add(new int[] {home, tell.get(3).number(), tell.get(4).number()});
                }
                case "seed" -> world.seed = tell.get(1).number();
                default -> world.laws.put(sort, List.copyOf(tell.subList(2, tell.size())));
            }
            tell.clear();
        }
        return faults;
    }

    private static void name(Token token, Set<String> names, List<Fault> faults) {
        if (!names.add(token.letters())) {
            faults.add(new Fault(token.place(), 3));
        }
    }

    private static int church(Token token, World world, List<Fault> faults) {
        int number = world.churches.indexOf(token.letters());
        if (number < 0) {
            faults.add(new Fault(token.place(), 4));
        }
        return number;
    }

    private static void range(Token token, int least, int most, List<Fault> faults) {
        if (token.number() < least || token.number() > most) {
            faults.add(new Fault(token.place(), 5));
        }
    }

    // ---- II. laws and years

    private static final class ByZero extends RuntimeException {
        private static final long serialVersionUID = 1L;
    }

    /** Works a law out from its tokens, looking only at what its ifs let it look at. */
    private static final class Law {
        final List<Token> tokens;
        final Map<String, Integer> vars;
        int at;

        Law(List<Token> tokens, Map<String, Integer> vars) {
            this.tokens = tokens;
            this.vars = vars;
        }

        String kind() {
            return at < tokens.size() ? tokens.get(at).kind() : "";
        }

        int value() {
            try {
                while (kind().equals("if")) {
                    at++;
                    int left = sum();
                    at++;
                    int right = sum();
                    at++;
                    if (left < right) {
                        return sum();
                    }
                    while (!kind().equals("else")) {
                        at++;
                    }
                    at++;
                }
                return sum();
            } catch (ByZero e) {
                return 0;
            }
        }

        int sum() {
            int value = part();
            while (kind().equals("+") || kind().equals("-")) {
                boolean plus = tokens.get(at++).kind().equals("+");
                int other = part();
                value = plus ? value + other : value - other;
            }
            return value;
        }

        int part() {
            int value = unit();
            while (kind().equals("*") || kind().equals("/")) {
                boolean times = tokens.get(at++).kind().equals("*");
                int other = unit();
                if (!times && other == 0) {
                    throw new ByZero();
                }
                value = times ? value * other : value / other;
            }
            return value;
        }

        int unit() {
            Token token = tokens.get(at++);
            if (token.kind().equals("(")) {
                int value = sum();
                at++;
                return value;
            }
            return token.kind().equals("INT") ? token.number() : vars.getOrDefault(token.kind(), 0);
        }
    }

    private int law(String name, Map<String, Integer> vars) {
        Map<String, String> untold = Map.of("draws", "relics", "heals", "truth * 50", "gives", "gift",
                "leave", "nights * 10", "caught", "watch * 10");
        List<Token> tokens = world.laws.containsKey(name) ? world.laws.get(name) : tokensOf(untold.get(name));
        return new Law(tokens, vars).value();
    }

    private static int held(int value, int most) {
        return value < 0 ? 0 : value > most ? most : value;
    }

    private static int relicsAt(Going going, int church) {
        int many = 0;
        for (int at : going.where) {
            many += at == church ? 1 : 0;
        }
        return many;
    }

    private Map<String, Integer> pilgrimVars(Going going, int pilgrim, int church) {
        Map<String, Integer> vars = new HashMap<>();
        vars.put("years", going.year);
        vars.put("relics", relicsAt(going, church));
        vars.put("wonders", going.churchWonders[church]);
        vars.put("far", world.far(world.pilgrims.get(pilgrim)[0], church));
        vars.put("need", world.pilgrims.get(pilgrim)[1]);
        vars.put("gift", world.pilgrims.get(pilgrim)[2]);
        return vars;
    }

    private Map<String, Integer> visitVars(Going going, int pilgrim, int church) {
        Map<String, Integer> vars = pilgrimVars(going, pilgrim, church);
        vars.put("watch", going.watchers[church]);
        int truth = 0;
        for (int relic = 0; relic < going.where.length; relic++) {
            truth += going.where[relic] == church && world.isTrue.get(relic) ? 1 : 0;
        }
        vars.put("truth", truth);
        return vars;
    }

    private int draws(Going going, int pilgrim, int church) {
        return law("draws", visitVars(going, pilgrim, church));
    }

    private int gives(Going going, int pilgrim, int church) {
        return held(law("gives", visitVars(going, pilgrim, church)), 99);
    }

    private int heals(Going going, int relic, int pilgrim, boolean isTrue) {
        Map<String, Integer> vars = pilgrimVars(going, pilgrim, going.where[relic]);
        vars.put("truth", isTrue ? 1 : 0);
        return held(law("heals", vars), 100);
    }

    private int leave(Going going, int relic, int nights) {
        return held(law("leave", Map.of("years", going.year, "nights", nights,
                "relics", relicsAt(going, going.where[relic]),
                "wonders", going.churchWonders[going.where[relic]],
                "truth", world.isTrue.get(relic) ? 1 : 0)), 100);
    }

    private int caught(Going going, int church, int watchers, int nights) {
        return held(law("caught", Map.of("years", going.year, "nights", nights, "watch", watchers,
                "relics", relicsAt(going, church))), 100);
    }

    static int lot(int n, int seed, int which) {
        int h = seed;
        for (int it : new int[] {111, which}) {
            h = (h ^ it) * 1103515245 + 12345;
            h = h ^ (h >>> 15);
        }
        return (h >>> 1) % n;
    }

    private int goal(Going going, int pilgrim) {
        int best = -2;
        for (int church = 0; church < world.churches.size(); church++) {
            boolean can = world.far(world.pilgrims.get(pilgrim)[0], church) < 999 && relicsAt(going, church) > 0;
            if (can && (best < 0 || draws(going, pilgrim, church) > draws(going, pilgrim, best))) {
                best = church;
            }
        }
        return best;
    }

    /** A year goes by: whether a wonder was written, for each pilgrim and relic. */
    private boolean[][] pass(Going going, int seed) {
        Going began = going.copy();
        boolean[][] written = new boolean[going.given.length][going.where.length];
        for (int pilgrim = 0; pilgrim < going.given.length; pilgrim++) {
            int church = goal(began, pilgrim);
            if (church < 0) {
                continue;
            }
            for (int relic = 0; relic < going.where.length; relic++) {
                if (going.where[relic] == church && lot(100, seed, 64 * going.year + 8 * pilgrim + relic)
                        < heals(going, relic, pilgrim, world.isTrue.get(relic))) {
                    written[pilgrim][relic] = true;
                    going.churchWonders[church]++;
                    going.relicWonders[relic]++;
                    going.healed[pilgrim]++;
                }
            }
            int gives = gives(going, pilgrim, church);
            going.took[church] += gives;
            going.given[pilgrim] += gives;
        }
        going.year++;
        return written;
    }

    private Going after(Going from, int seed, int n) {
        Going going = from.copy();
        for (int i = 0; i < n; i++) {
            pass(going, seed);
        }
        return going;
    }

    private boolean isChurch(int church) {
        return church >= 0 && church < world.churches.size();
    }

    private boolean isRelic(int relic) {
        return relic >= 0 && relic < world.relicHomes.size();
    }

    private boolean isPilgrim(int pilgrim) {
        return pilgrim >= 0 && pilgrim < world.pilgrims.size();
    }

    private int trueBits() {
        int bits = 0;
        for (int relic = 0; relic < world.isTrue.size(); relic++) {
            bits |= world.isTrue.get(relic) ? 1 << relic : 0;
        }
        return bits;
    }

    private int bitsAt(int church) {
        int bits = 0;
        for (int relic = 0; relic < now.where.length; relic++) {
            bits |= now.where[relic] == church ? 1 << relic : 0;
        }
        return bits;
    }

    int church(int church, int what) {
        if (!isChurch(church) || what < 0 || what > 4) {
            return -1;
        }
        return new int[] {now.watchers[church], bitsAt(church), now.churchWonders[church], now.took[church],
            Integer.bitCount(bitsAt(church) & trueBits())}[what];
    }

    int relic(int relic, int what) {
        if (!isRelic(relic) || what < 0 || what > 3) {
            return -1;
        }
        return new int[] {now.where[relic], world.isTrue.get(relic) ? 1 : 0, now.relicWonders[relic],
            now.carried[relic]}[what];
    }

    int pilgrim(int pilgrim, int what) {
        if (!isPilgrim(pilgrim) || what < 0 || what > 4) {
            return -1;
        }
        return what < 3 ? world.pilgrims.get(pilgrim)[what] : what == 3 ? now.given[pilgrim] : now.healed[pilgrim];
    }

    int tells(int pilgrim, int church, int what) {
        if (!isPilgrim(pilgrim) || !isChurch(church) || what < 0 || what > 2) {
            return -100000;
        }
        return what == 0 ? draws(now, pilgrim, church) : what == 1 ? gives(now, pilgrim, church)
                : world.far(world.pilgrims.get(pilgrim)[0], church);
    }

    int heals(int relic, int pilgrim) {
        return isRelic(relic) && isPilgrim(pilgrim) ? heals(now, relic, pilgrim, world.isTrue.get(relic)) : -1;
    }

    private void keep() {
        done.push(now.copy());
        if (done.size() > 40) {
            done.removeLast();
        }
    }

    int steal(int relic, int church, int n) {
        if (!isRelic(relic) || !isChurch(church) || n < 1 || n > 9) {
            return -1;
        }
        int from = now.where[relic];
        if (from == church) {
            return -2;
        }
        keep();
        int tried = now.tried++;
        if (lot(100, world.seed, 1000000 + tried) < caught(now, from, now.watchers[from], n)) {
            now.caught++;
            now.watchers[from] = Math.min(9, now.watchers[from] + 1);
            return 2;
        }
        if (lot(100, world.seed, 2000000 + tried) < leave(now, relic, n)) {
            now.where[relic] = church;
            now.carried[relic]++;
            return 1;
        }
        return 0;
    }

    boolean swap(int relic, int other) {
        if (!isRelic(relic) || !isRelic(other) || relic == other || now.where[relic] == now.where[other]) {
            return false;
        }
        keep();
        now = swapped(now, relic, other);
        return true;
    }

    private static Going swapped(Going going, int relic, int other) {
        Going next = going.copy();
        next.where[relic] = going.where[other];
        next.where[other] = going.where[relic];
        return next;
    }

    boolean watch(int church, int many) {
        if (!isChurch(church) || many < 0 || many > 9 || now.watchers[church] == many) {
            return false;
        }
        keep();
        now.watchers[church] = many;
        return true;
    }

    int years(int n) {
        if (n < 0 || n > 60) {
            return -1;
        }
        if (n > 0) {
            keep();
            now = after(now, world.seed, n);
        }
        return now.year;
    }

    boolean undo() {
        if (done.isEmpty()) {
            return false;
        }
        now = done.pop();
        return true;
    }

    // ---- III. what would be

    int goes(int pilgrim) {
        return isPilgrim(pilgrim) ? goal(now, pilgrim) : -1;
    }

    int theft(int relic, int n) {
        if (!isRelic(relic) || n < 1 || n > 9) {
            return -1;
        }
        int church = now.where[relic];
        return leave(now, relic, n) * (100 - caught(now, church, now.watchers[church], n));
    }

    /** The number below an end for which a value is most, the first of alike ones; -2 if there is none. */
    private static int most(int from, int end, ToIntFunction<Integer> value) {
        int best = -2;
        for (int i = from; i < end; i++) {
            if (best < 0 || value.applyAsInt(i) > value.applyAsInt(best)) {
                best = i;
            }
        }
        return best;
    }

    int nights(int relic) {
        return isRelic(relic) ? most(1, 10, n -> theft(relic, n)) : -1;
    }

    int worth(int relic, int n, int what) {
        if (!isRelic(relic) || n < 1 || n > 24 || what < 0 || what > 1) {
            return -100000;
        }
        int[] more = new int[world.churches.size()];
        Going nowhere = now.copy();
        nowhere.where[relic] = -1;
        for (int church = 0; church < more.length; church++) {
            Going there = now.copy();
            there.where[relic] = church;
            more[church] = after(there, world.seed, n).took[church] - after(nowhere, world.seed, n).took[church];
        }
        int best = most(0, more.length, church -> more[church]);
        return what == 0 ? best : more[best];
    }

    int guard(int church, int p, int n) {
        if (!isChurch(church) || p < 1 || p > 100 || n < 1 || n > 9) {
            return -1;
        }
        for (int many = 0; many <= 9; many++) {
            if (caught(now, church, many, n) >= p) {
                return many;
            }
        }
        return -2;
    }

    int guards(int p, int n) {
        if (p < 1 || p > 100 || n < 1 || n > 9) {
            return -1;
        }
        int all = 0;
        for (int church : Arrays.stream(now.where).distinct().toArray()) {
            int many = guard(church, p, n);
            if (many < 0) {
                return -2;
            }
            all += many;
        }
        return all;
    }

    int weak(int what) {
        if (what < 0 || what > 2) {
            return -1;
        }
        int relic = most(0, now.where.length, r -> theft(r, nights(r)));
        if (relic < 0) {
            return -2;
        }
        return what == 0 ? relic : what == 1 ? nights(relic) : theft(relic, nights(relic));
    }

    int barter(int n, int what) {
        if (n < 1 || n > 24 || what < 0 || what > 1) {
            return -1;
        }
        List<Integer> pairs = new ArrayList<>();
        int[] took = after(now, world.seed, n).took;
        for (int a = 0; a < now.where.length; a++) {
            for (int b = a + 1; b < now.where.length; b++) {
                if (now.where[a] != now.where[b]) {
                    int[] then = after(swapped(now, a, b), world.seed, n).took;
                    if (then[now.where[a]] > took[now.where[a]] && then[now.where[b]] > took[now.where[b]]) {
                        pairs.add(10 * a + b);
                    }
                }
            }
        }
        return what == 0 ? pairs.size() : pairs.isEmpty() ? -2 : pairs.get(0);
    }

    private static boolean isIn(int n) {
        return n >= 0 && n <= 60;
    }

    int took(int church, int n) {
        return isChurch(church) && isIn(n) ? after(now, world.seed, n).took[church] - now.took[church] : -1;
    }

    int wonders(int relic, int n) {
        return isRelic(relic) && isIn(n) ? after(now, world.seed, n).relicWonders[relic] - now.relicWonders[relic] : -1;
    }

    int goesIn(int pilgrim, int n) {
        return isPilgrim(pilgrim) && isIn(n) ? goal(after(now, world.seed, n), pilgrim) : -1;
    }

    int rich(int n, int what) {
        if (!isIn(n) || what < 0 || what > 1) {
            return -1;
        }
        Going then = after(now, world.seed, n);
        int best = most(0, then.took.length, church -> then.took[church] - now.took[church]);
        return best < 0 || what == 0 ? best : then.took[best] - now.took[best];
    }

    int hub() {
        return most(0, world.churches.size(), church -> {
            int all = 0;
            for (int other = 0; other < world.churches.size(); other++) {
                all += world.far(church, other);
            }
            return -all;
        });
    }

    int crowd(int church) {
        if (!isChurch(church)) {
            return -1;
        }
        int bits = 0;
        for (int pilgrim = 0; pilgrim < world.pilgrims.size(); pilgrim++) {
            bits += goal(now, pilgrim) == church ? 1 << pilgrim : 0;
        }
        return bits;
    }

    int healed(int pilgrim, int n) {
        return isPilgrim(pilgrim) && isIn(n) ? after(now, world.seed, n).healed[pilgrim] - now.healed[pilgrim] : -1;
    }

    int famed(int n) {
        if (!isIn(n)) {
            return -1;
        }
        Going then = after(now, world.seed, n);
        return most(0, then.took.length, church -> then.churchWonders[church]);
    }

    int year(int relic, int n, int s) {
        if (!isRelic(relic) || !isIn(n) || s < 1 || s > 20) {
            return -1;
        }
        int many = 0;
        for (int seed = world.seed; seed < world.seed + s; seed++) {
            many += after(now, seed, n).relicWonders[relic] > now.relicWonders[relic] ? 1 : 0;
        }
        return many;
    }

    /** Upper and lower part. */
    private BigInteger[] believed(int relic, int pilgrim, int n, int k) {
        BigInteger[] way = new BigInteger[2];
        for (int truth = 0; truth < 2; truth++) {
            int heals = heals(now, relic, pilgrim, truth == 1);
            way[truth] = BigInteger.valueOf(heals).pow(k).multiply(BigInteger.valueOf(100 - heals).pow(n - k));
        }
        BigInteger all = way[0].add(way[1]);
        if (all.signum() == 0) {
            return new BigInteger[] {BigInteger.ONE, BigInteger.TWO};
        }
        BigInteger common = way[1].gcd(all);
        return new BigInteger[] {way[1].divide(common), all.divide(common)};
    }

    int belief(int relic, int pilgrim, int n, int k, boolean below) {
        if (!isRelic(relic) || !isPilgrim(pilgrim) || n < 0 || n > 4 || k < 0 || k > n) {
            return -1;
        }
        return believed(relic, pilgrim, n, k)[below ? 1 : 0].intValueExact();
    }

    int certain(int relic, int pilgrim, int p) {
        if (!isRelic(relic) || !isPilgrim(pilgrim) || p < 0 || p > 100) {
            return -1;
        }
        for (int n = 0; n <= 4; n++) {
            BigInteger[] parts = believed(relic, pilgrim, n, n);
            if (parts[0].multiply(BigInteger.valueOf(100)).compareTo(parts[1].multiply(BigInteger.valueOf(p))) >= 0) {
                return n;
            }
        }
        return -2;
    }

    // ---- IV. what is told

    int tell(int pilgrim, boolean wonder) {
        if (!isPilgrim(pilgrim) || told.size() == 20) {
            return -1;
        }
        told.add(new int[] {pilgrim, wonder ? 1 : 0});
        return told.size() - 1;
    }

    int forget() {
        int many = told.size();
        told.clear();
        return many;
    }

    private List<Integer> left(List<int[]> known) {
        boolean[][] written = pass(now.copy(), world.seed);
        List<Integer> relics = new ArrayList<>();
        for (int relic = 0; relic < now.where.length; relic++) {
            boolean so = true;
            for (int[] one : known) {
                so &= written[one[0]][relic] == (one[1] == 1);
            }
            if (so) {
                relics.add(relic);
            }
        }
        return relics;
    }

    int whose(int k, int what) {
        if (k < 0 || k > told.size() || what < 0 || what > 1) {
            return -1;
        }
        List<Integer> relics = left(told.subList(0, k));
        return what == 0 ? relics.size() : relics.stream().mapToInt(relic -> 1 << relic).sum();
    }

    int ask(int k) {
        if (k < 0 || k > told.size()) {
            return -1;
        }
        if (left(told.subList(0, k)).isEmpty()) {
            return -2;
        }
        return most(0, world.pilgrims.size(), pilgrim -> {
            int worst = 0;
            for (int wonder = 0; wonder < 2; wonder++) {
                List<int[]> known = new ArrayList<>(told.subList(0, k));
                known.add(new int[] {pilgrim, wonder});
                worst = Math.max(worst, left(known).size());
            }
            return -worst;
        });
    }

    boolean hold(int slot) {
        if (slot < 0 || slot > 2) {
            return false;
        }
        slots[slot] = now.copy();
        return true;
    }

    boolean restore(int slot) {
        if (slot < 0 || slot > 2 || slots[slot] == null) {
            return false;
        }
        now = slots[slot].copy();
        done.clear();
        return true;
    }

    int count(int what) {
        if (what < 0 || what > 15) {
            return -1;
        }
        int held = 0;
        for (Going slot : slots) {
            held += slot == null ? 0 : 1;
        }
        return new int[] {world.churches.size(), world.roads.size(), world.relicHomes.size(), world.pilgrims.size(),
            now.year, Arrays.stream(now.took).sum(), Arrays.stream(now.relicWonders).sum(), now.tried, now.caught,
            Arrays.stream(now.carried).sum(), tape.length(), done.size(), told.size(), held,
            Arrays.stream(now.watchers).sum(), trueBits()}[what];
    }
}
