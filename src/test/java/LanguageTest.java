import java.io.IOException;
import java.lang.reflect.Constructor;
import java.lang.reflect.Field;
import java.lang.reflect.Method;
import java.lang.reflect.Modifier;
import java.nio.charset.StandardCharsets;
import java.nio.file.Files;
import java.nio.file.Path;
import java.util.Arrays;
import java.util.Set;
import java.util.TreeSet;
import java.util.regex.Matcher;
import java.util.regex.Pattern;

/** The document's public face, and what LANGUAGE.md rules out as far as it can be seen from the outside. */
public final class LanguageTest {
    private static final String FACE = "feed(int,int,int,int,int)int back(int)int read()int place()int church(int,int)int "
            + "relic(int,int)int pilgrim(int,int)int tells(int,int,int)int heals(int,int)int steal(int,int,int)int "
            + "swap(int,int)boolean watch(int,int)boolean years(int)int undo()boolean goes(int)int theft(int,int)int "
            + "nights(int)int worth(int,int,int)int guard(int,int,int)int guards(int,int)int weak(int)int "
            + "barter(int,int)int took(int,int)int wonders(int,int)int goesIn(int,int)int rich(int,int)int hub()int "
            + "crowd(int)int healed(int,int)int famed(int)int year(int,int,int)int belief(int,int,int,int,boolean)int "
            + "certain(int,int,int)int tell(int,boolean)int forget()int whose(int,int)int ask(int)int hold(int)boolean "
            + "restore(int)boolean count(int)int";
    private static final String[] RULED_OUT = {"\\bthrows?\\b", "\\btry\\b", "\\bcatch\\b", "\\bfinally\\b",
        "\\bsynchronized\\b", "\\bassert\\b", "\\bimport\\b", "\\bpackage\\b", "->", "::", "\\bstatic\\s*\\{",
        "\\binstanceof\\b", "\\bThread\\b", "\\bSystem\\b", "\\bRandom\\b", "Exact\\(", "\\bObject\\b", "\\bvar\\b",
        "\\bprotected\\b", "@"};

    private static int wrong;

    private static void due(String what, Object got, Object want) {
        if (!got.equals(want)) {
            wrong++;
            System.out.println(what + " is " + got + ", due is " + want);
        }
    }

    public static void main(String[] args) throws IOException {
        face();
        insides(SaintTheft.class);
        for (Class<?> inside : SaintTheft.class.getDeclaredClasses()) {
            due(inside + " is static", Modifier.isStatic(inside.getModifiers()), true);
            due(inside + " is public", Modifier.isPublic(inside.getModifiers()), false);
            insides(inside);
        }
        due("at most twelve classes", SaintTheft.class.getDeclaredClasses().length < 12, true);
        source(Files.readString(Path.of("src/main/java/SaintTheft.java"), StandardCharsets.ISO_8859_1));
        System.out.println(wrong == 0 ? "the language is kept to" : wrong + " rules are not kept to");
        if (wrong != 0) {
            System.exit(1);
        }
    }

    private static void face() {
        Set<String> got = new TreeSet<>();
        Set<String> open = new TreeSet<>();
        for (Method method : SaintTheft.class.getDeclaredMethods()) {
            StringBuilder row = new StringBuilder(method.getName()).append('(');
            for (Class<?> type : method.getParameterTypes()) {
                row.append(row.charAt(row.length() - 1) == '(' ? "" : ",").append(type.getName());
            }
            row.append(')').append(method.getReturnType().getName());
            if (Modifier.isPublic(method.getModifiers())) {
                got.add(row.toString());
                open.add(method.getName());
            } else {
                due(row + " is private", Modifier.isPrivate(method.getModifiers()), true);
            }
        }
        due("the face", got, new TreeSet<>(Arrays.asList(FACE.split(" "))));
        due("the class is public and final", SaintTheft.class.getModifiers(), Modifier.PUBLIC | Modifier.FINAL);
        Constructor<?>[] constructors = SaintTheft.class.getDeclaredConstructors();
        due("constructors", constructors.length, 1);
        due("the constructor is public", Modifier.isPublic(constructors[0].getModifiers()), true);
        due("it takes nothing", constructors[0].getParameterCount(), 0);
        for (Field field : SaintTheft.class.getDeclaredFields()) {
            due(field + " is open", !Modifier.isPrivate(field.getModifiers()), field.getName().equals("NONE"));
        }
        for (Class<?> inside : SaintTheft.class.getDeclaredClasses()) {
            for (Method method : inside.getDeclaredMethods()) {
                due(method + " bears a name of the face", open.contains(method.getName()), false);
            }
        }
        for (Method method : SaintTheft.class.getDeclaredMethods()) {
            boolean hidden = Modifier.isPrivate(method.getModifiers());
            due(method + " bears a name of the face", hidden && open.contains(method.getName()), false);
        }
    }

    private static void insides(Class<?> type) {
        int fields = 0;
        for (Field field : type.getDeclaredFields()) {
            boolean isStatic = Modifier.isStatic(field.getModifiers());
            due(field + " is final, if static", !isStatic || Modifier.isFinal(field.getModifiers()), true);
            fields += isStatic ? 0 : 1;
        }
        due(type + " has at most twenty fields", fields <= 20, true);
        for (Method method : type.getDeclaredMethods()) {
            due(method + " takes at most seven", method.getParameterCount() <= 7, true);
        }
    }

    private static void source(String whole) {
        String bare = Pattern.compile("/\\*.*?\\*/", Pattern.DOTALL).matcher(whole).replaceAll("");
        bare = bare.replaceAll("//[^\n]*", "").replaceAll("\"[^\"\n]*\"", "\"\"").replaceAll("'[^'\n]*'", "' '");
        for (String pattern : RULED_OUT) {
            Matcher matcher = Pattern.compile(pattern).matcher(bare);
            due("\"" + pattern + "\" in the source", matcher.find(), false);
        }
        due("texts joined by +", Pattern.compile("\"\\s*\\+|\\+\\s*\"").matcher(bare).find(), false);
        // All calls live in one room: objects and rows are made as an object is made, and by no call.
        for (String line : bare.split("\n")) {
            if (line.matches(".*\\bnew\\b.*")) {
                due("only fields are made: " + line.trim(), line.matches(" +private (final )?[\\w\\[\\]]+ \\w+ = new .*"),
                        true);
            }
        }
        int longest = 0;
        int since = 0;
        for (String line : bare.split("\n")) {
            since = line.matches("( {4}| {8})\\S.*\\) \\{") ? 0 : since + 1;
            longest = line.matches("( {4}| {8})\\}") ? Math.max(longest, since) : longest;
        }
        due("methods of at most sixty lines", longest <= 60, true);
        for (int i = 0; i < whole.length(); i++) {
            char sign = whole.charAt(i);
            if (sign != '\n' && (sign < ' ' || sign > '~')) {
                due("signs of the source, at " + i, (int) sign, (int) ' ');
            }
        }
    }
}
