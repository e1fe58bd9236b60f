import java.util.ArrayList;
import java.util.List;
import java.util.Random;

/** Texts made at random: right ones, and ones spoilt in one or two places. */
final class RandomTexts {
    private static final String[] NAMES = {"a", "b", "c", "d", "e", "f", "g", "rome", "bari", "pisa", "longname",
        "arm", "head", "tooth", "ann", "bob", "cid", "dan", "eve", "z"};
    private static final String[] LAWS = {"draws", "heals", "gives", "leave", "caught"};
    private static final String[] STRAYS = {";", "=", "+", "-", "*", "/", "<", "(", ")", "@", "A", "\u00e9", "\0",
        "church", "road", "relic", "pilgrim", "seed", "true", "copy", "if", "then", "else", "draws", "truth", "far",
        "0", "9", "10", "99", "100", "9999", "12345", "nosuch", "ninechars", "\t", "\n", "\r", "\u000b", " "};

    private final Random random;

    RandomTexts(Random random) {
        this.random = random;
    }

    private int upTo(int most) {
        return random.nextInt(most + 1);
    }

    private String pick(String... of) {
        return of[random.nextInt(of.length)];
    }

    String right() {
        for (int tries = 0; tries < 100; tries++) {
            String text = String.join(" ", tells());
            if (text.length() <= 2000) {
                return text;
            }
        }
        return "";
    }

    private List<String> tells() {
        List<String> names = new ArrayList<>(List.of(NAMES));
        java.util.Collections.shuffle(names, random);
        List<String> tells = new ArrayList<>();
        int churches = random.nextInt(10) == 0 ? 0 : 1 + upTo(5);
        for (int i = 0; i < churches; i++) {
            tells.add("church " + names.get(i) + " " + upTo(9) + ";");
        }
        if (churches > 0) {
            addRoads(tells, names, churches);
            int next = churches;
            for (int relics = upTo(6); relics > 0; relics--) {
                int church = random.nextInt(churches);
                addBehind(tells, names.get(church), "relic " + names.get(next++) + " " + names.get(church) + " "
                        + pick("true", "copy") + ";");
            }
            for (int pilgrims = upTo(5); pilgrims > 0; pilgrims--) {
                int church = random.nextInt(churches);
                addBehind(tells, names.get(church), "pilgrim " + names.get(next++) + " " + names.get(church) + " "
                        + upTo(9) + " " + upTo(9) + ";");
            }
        }
        for (int laws = upTo(6); laws > 0; laws--) {
            String name = pick(LAWS);
            tells.add(upTo(tells.size()), name + " = " + law(name) + ";");
        }
        if (random.nextInt(4) > 0) {
            tells.add(upTo(tells.size()), "seed " + (random.nextInt(5) == 0 ? 9999 - upTo(9) : upTo(9999)) + ";");
        }
        return tells;
    }

    private void addRoads(List<String> tells, List<String> names, int churches) {
        List<String> there = new ArrayList<>();
        for (int roads = upTo(9); roads > 0; roads--) {
            int a = random.nextInt(churches);
            int b = random.nextInt(churches);
            String pair = Math.min(a, b) + "-" + Math.max(a, b);
            if (a != b && !there.contains(pair)) {
                there.add(pair);
                int length = random.nextBoolean() ? 1 + upTo(98) : 1 + upTo(5);
                addBehind(tells, names.get(Math.max(a, b)), "road " + names.get(a) + " " + names.get(b) + " " + length
                        + ";");
            }
        }
    }

    /** Anywhere behind the church that it names, so that sorts stand among one another. */
    private void addBehind(List<String> tells, String church, String tell) {
        int from = 0;
        while (!tells.get(from).startsWith("church " + church + " ")) {
            from++;
        }
        tells.add(from + 1 + upTo(tells.size() - from - 1), tell);
    }

    private String law(String name) {
        StringBuilder law = new StringBuilder();
        for (int ifs = Math.max(0, upTo(6) - 2); ifs > 0; ifs--) {
            law.append("if ").append(sum(2)).append(" < ").append(sum(1)).append(" then ").append(sum(1))
                    .append(" else ");
        }
        // Laws that answer in their own range now and then, or all chances would be 0 or 100.
        switch (name) {
            case "heals":
                return law.append(pick("truth * 40 + need * 5", "30 + truth * 30 - wonders", sum(2))).toString();
            case "leave":
                return law.append(pick("nights * 9 + truth * 10", "50 - nights + wonders", sum(2))).toString();
            case "caught":
                return law.append(pick("watch * nights", "watch * 7 + relics", "20 + years", sum(2))).toString();
            case "gives":
                return pick("gift * 3 + relics + wonders", "if gift < 5 then truth else 9 - truth",
                        law.append(sum(2)).toString());
            default:
                return law.append(pick("relics * 10 + wonders - far", "truth * 9 + years * wonders", sum(2)))
                        .toString();
        }
    }

    private String sum(int deep) {
        StringBuilder sum = new StringBuilder(unit(deep));
        for (int more = random.nextInt(3); more > 0; more--) {
            sum.append(pick(" + ", "-", " *", "/ ", "*", "/", "+")).append(unit(deep));
        }
        return sum.toString();
    }

    private String unit(int deep) {
        if (deep > 0 && random.nextInt(4) == 0) {
            return "(" + sum(deep - 1) + ")";
        }
        return random.nextInt(3) == 0 ? "" + (random.nextInt(6) == 0 ? upTo(9999) : upTo(30))
                : Model.VARS.get(random.nextInt(Model.VARS.size()));
    }

    /** Spoilt in one place or two; by luck it may still be right. */
    String spoilt(String text) {
        String next = text;
        for (int times = 1 + random.nextInt(2); times > 0; times--) {
            next = spoiltOnce(next);
        }
        return next.length() <= 2000 ? next : next.substring(0, 2000);
    }

    private String spoiltOnce(String text) {
        int at = upTo(text.length());
        int end = Math.min(text.length(), at + random.nextInt(8));
        switch (random.nextInt(10)) {
            case 0:
                return text.substring(0, at);
            case 1:
                return text.substring(0, at) + text.substring(end);
            case 2:
                return text.substring(0, at) + pick(STRAYS) + text.substring(at);
            case 3:
                return text.substring(0, at) + " " + pick(STRAYS) + " " + text.substring(end);
            case 4:
                return withOther(text, null, random.nextBoolean() ? otherToken(text) : pick(STRAYS));
            case 5: case 6:
                return withOther(text, "INT", pick("0", "1", "9", "10", "99", "100", "0009"));
            case 7:
                int deep = 5 + random.nextInt(3);
                return withOther(text, "INT", "(".repeat(deep) + "1" + ")".repeat(deep));
            case 8:
                return withManyTokens(text);
            default:
                return withTellAgain(text);
        }
    }

    private String otherToken(String text) {
        List<Model.Token> tokens = Model.tokensOf(text);
        return tokens.isEmpty() ? "" : tokens.get(random.nextInt(tokens.size())).letters();
    }

    /** Another token in place of one of a kind, or of any kind. */
    private String withOther(String text, String kind, String by) {
        List<Model.Token> tokens = new ArrayList<>(Model.tokensOf(text));
        tokens.removeIf(token -> kind != null && !token.kind().equals(kind));
        if (tokens.isEmpty()) {
            return text;
        }
        Model.Token out = tokens.get(random.nextInt(tokens.size()));
        return text.substring(0, out.place()) + by + text.substring(out.place() + out.letters().length());
    }

    /** Some 400 tokens, where they still go into 2,000 bytes; a cut may leave just 400, or one more. */
    private String withManyTokens(String text) {
        StringBuilder more = new StringBuilder(text);
        int many = Model.tokensOf(text).size();
        int end = 396 + random.nextInt(7);
        more.append("draws=1");
        for (many += 3; many < end; many += 2) {
            more.append(pick("+", "-", "*")).append(upTo(9));
        }
        return more.append(random.nextInt(3) == 0 ? "" : ";").toString();
    }

    private String withTellAgain(String text) {
        String[] tells = text.split("(?<=;)");
        String again = tells[random.nextInt(tells.length)];
        return random.nextBoolean() ? text + again : again + text;
    }
}
