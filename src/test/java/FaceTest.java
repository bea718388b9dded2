import java.lang.reflect.Constructor;
import java.lang.reflect.Field;
import java.lang.reflect.Member;
import java.lang.reflect.Method;
import java.lang.reflect.Modifier;
import java.util.Set;
import java.util.TreeSet;

/** The public face: all of the document's members, no other one that can be seen from outside. */
public final class FaceTest {
  public static void main(String[] args) {
    Check check = new Check();
    Set<String> want = new TreeSet<>(Set.of(
        "public static final int PurseCard.NONE", "public PurseCard(int)",
        "public boolean PurseCard.put(int)", "public int PurseCard.wipe()", "public int PurseCard.send()",
        "public int PurseCard.answered()", "public int PurseCard.answer(int)", "public int PurseCard.find(int)",
        "public int PurseCard.keep(int)"));
    want.addAll(Set.of(
        "public void PurseCard.key(long,long)", "public boolean PurseCard.code(int)",
        "public boolean PurseCard.advance(int)", "public int PurseCard.seal(int)",
        "public boolean PurseCard.genuine(long,int,boolean)",
        "public int PurseCard.pay(long,long,int,int,boolean)", "public int PurseCard.stage()",
        "public int PurseCard.counter()", "public int PurseCard.tries()"));
    Set<String> got = new TreeSet<>();
    Set<String> hidden = new TreeSet<>();
    for (Field f : PurseCard.class.getDeclaredFields()) {
      sort(f, f.toString(), got, hidden);
    }
    for (Constructor<?> c : PurseCard.class.getDeclaredConstructors()) {
      sort(c, c.toString(), got, hidden);
    }
    for (Method m : PurseCard.class.getDeclaredMethods()) {
      sort(m, m.toString(), got, new TreeSet<>());
      if (Modifier.isPrivate(m.getModifiers())) {
        hidden.add(m.getName());
      }
    }
    check.due("the face", got.toString(), want.toString());
    for (Method m : PurseCard.class.getMethods()) {
      check.due("a private method " + m.getName(), hidden.contains(m.getName()), false);
    }
    check.due("NONE", PurseCard.NONE, -1);
    check.due("final", Modifier.isFinal(PurseCard.class.getModifiers()), true);
    for (Class<?> inside : PurseCard.class.getDeclaredClasses()) {
      int how = inside.getModifiers();
      check.due(inside + " is static", Modifier.isStatic(how), true);
      check.due(inside + " is seen outside", Modifier.isPublic(how) || Modifier.isProtected(how), false);
    }
    check.end();
  }

  private static void sort(Member member, String text, Set<String> seen, Set<String> hidden) {
    (Modifier.isPrivate(member.getModifiers()) ? hidden : seen).add(text);
  }
}
