import java.io.IOException;
import java.lang.reflect.InvocationTargetException;
import java.lang.reflect.Method;
import java.util.Arrays;
import java.util.Comparator;

/** Runs every edge test: each is about one boundary case, bears its promise's number and quotes its words. */
public final class EdgesTest {
    private static final Class<?>[] WHERE = {TextEdges.class, FaultEdges.class, LawEdges.class, DeedEdges.class,
        QuestionEdges.class, ForecastEdges.class, ToldEdges.class, FullEdges.class};

    public static void main(String[] args) throws IOException, IllegalAccessException {
        Edges.openDocument();
        int many = 0;
        for (Class<?> where : WHERE) {
            Method[] methods = where.getDeclaredMethods();
            Arrays.sort(methods, Comparator.comparing(Method::getName));
            for (Method method : methods) {
                if (method.getName().startsWith("promise")) {
                    run(method);
                    many++;
                    String number = method.getName().replaceAll("^promise(\\d+).*", "$1");
                    Edges.due(method + " names its promise", Edges.promiseOfEdge(), Integer.parseInt(number));
                }
            }
        }
        Edges.closeDocument();
        int wrong = Edges.wrongOnes();
        System.out.println(wrong == 0 ? many + " edges hold" : wrong + " answers at edges are not as due");
        if (wrong != 0) {
            System.exit(1);
        }
    }

    /** What a test throws is a failure of that test; the others still run. */
    private static void run(Method method) throws IllegalAccessException {
        try {
            method.invoke(null);
        } catch (InvocationTargetException e) {
            Edges.fail(method.getName() + " was ended by " + e.getCause());
        }
    }
}
