import java.lang.reflect.InvocationTargetException;
import java.lang.reflect.Method;
import java.util.ArrayList;
import java.util.Comparator;
import java.util.List;

/** Runs a class of edge tests: each of its methods that takes a Check tests the one sentence that its @Says quotes. */
final class Edges {
  private Edges() {
  }

  static void run(Class<?> tests) {
    List<Method> edges = edgesOf(tests);
    int broken = 0;
    for (Method edge : edges) {
      Says says = edge.getAnnotation(Says.class);
      boolean holds = holds(edge);
      broken += holds ? 0 : 1;
      System.out.println((holds ? "  holds   " : "  BROKEN  ") + edge.getName() + " - " + says.in() + ": "
          + says.value());
    }
    System.out.println(edges.size() + " edges looked at, " + broken + " broken");
    System.exit(broken == 0 && !edges.isEmpty() ? 0 : 1);
  }

  private static List<Method> edgesOf(Class<?> tests) {
    List<Method> edges = new ArrayList<>();
    for (Method method : tests.getDeclaredMethods()) {
      Class<?>[] takes = method.getParameterTypes();
      if (takes.length != 1 || takes[0] != Check.class) {
        continue;
      }
      if (method.getAnnotation(Says.class) == null) {
        throw new IllegalStateException(method + " quotes no sentence");
      }
      edges.add(method);
    }
    // the shorter text first, so that promise 2 stands before promise 10
    edges.sort(Comparator.comparing((Method edge) -> placeOf(edge).length()).thenComparing(Edges::placeOf)
        .thenComparing(Method::getName));
    return edges;
  }

  private static String placeOf(Method edge) {
    return edge.getAnnotation(Says.class).in();
  }

  private static boolean holds(Method edge) {
    Check check = new Check();
    try {
      edge.setAccessible(true);
      edge.invoke(null, check);
    } catch (InvocationTargetException e) {
      System.out.println(edge.getName() + " threw " + e.getCause());
      return false;
    } catch (IllegalAccessException e) {
      throw new IllegalStateException(e);
    }
    return check.allAsDue();
  }
}
