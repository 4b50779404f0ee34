import java.lang.reflect.Constructor;
import java.lang.reflect.Field;
import java.lang.reflect.Method;
import java.lang.reflect.Modifier;
import java.util.Arrays;
import java.util.Set;
import java.util.TreeSet;

/** The class bears the document's face, and nothing else that others can see. */
public final class FaceTest {
  private static final String[] FACE = {
    "int rain(int,int)", "int land(int,int,int)", "int work(int,int,int)", "int as(int,int)",
    "int workIs(int,int)", "int fell(int)", "int lay(int,int)", "int mileIs(int,int)",
    "int soils(int,int)", "int party(int,int,int,int)", "int partyIs(int,int)",
    "int give(int,int,int)", "int rest(int,boolean)", "int turn(int)", "int hand(int,int,int)",
    "int reach(int)", "int reads(int,int)", "int hands(int,int,int)", "int slip(int,int,int,int)",
    "int broke(int,int,int,int,int,int)", "int feed(long,int)", "int rate(int,int)",
    "int force(int,int)", "int price(int,int,int,int)", "int owed(int)", "int load(int,int,int)",
    "int meeting(int,int,int,int)", "int judge(int,int,int,int,int)", "int days(int)",
    "int ahead(int,int,int)", "int joined(int,int)", "int voice(int,int,int)", "int trace(int)",
    "int sheet(int,int,int)", "int put(int,int,int)", "int move(int,int,int,int,int)",
    "int image()", "int restore()", "int tell(int)", "int check()", "int count(int)",
    "int found(int)",
  };

  private static int wrong = 0;

  private static void need(boolean holds, String what) {
    if (!holds) {
      wrong++;
      System.out.println("FaceTest: " + what);
    }
  }

  private static String signed(Method m) {
    StringBuilder b = new StringBuilder(m.getReturnType().getName() + " " + m.getName() + "(");
    for (Class<?> c : m.getParameterTypes()) {
      b.append(b.charAt(b.length() - 1) == '(' ? "" : ",").append(c.getName());
    }
    return b.append(")").toString();
  }

  public static void main(String[] args) {
    Class<?> c = DesertWire.class;
    need(Modifier.isPublic(c.getModifiers()) && Modifier.isFinal(c.getModifiers()), "public final");
    Set<String> told = new TreeSet<>();
    Set<String> names = new TreeSet<>();
    for (Method m : c.getDeclaredMethods()) {
      if (!Modifier.isPrivate(m.getModifiers())) {
        need(Modifier.isPublic(m.getModifiers()) && !Modifier.isStatic(m.getModifiers()), m + "");
        told.add(signed(m));
        names.add(m.getName());
      }
    }
    need(told.equals(new TreeSet<>(Arrays.asList(FACE))), "the face is " + told);
    for (Method m : c.getDeclaredMethods()) {
      need(!Modifier.isPrivate(m.getModifiers()) || !names.contains(m.getName()), "a name twice: " + m);
    }
    for (Field f : c.getDeclaredFields()) {
      need(Modifier.isPrivate(f.getModifiers()), "a field that shows: " + f);
    }
    Constructor<?>[] made = c.getDeclaredConstructors();
    need(made.length == 1 && made[0].getParameterCount() == 0, "one constructor");
    need(made.length == 1 && Modifier.isPublic(made[0].getModifiers()), "a public constructor");
    need(c.getDeclaredClasses().length <= 11, "too many classes");
    for (Class<?> inside : c.getDeclaredClasses()) {
      need(Modifier.isStatic(inside.getModifiers()), "a class that isn't static: " + inside);
      for (Field f : inside.getDeclaredFields()) {
        int is = f.getModifiers();
        need(!Modifier.isStatic(is) || Modifier.isFinal(is), "a static that isn't final: " + f);
      }
    }
    System.out.println(wrong == 0 ? "FaceTest: all is as due" : "FaceTest: " + wrong + " wrong");
    if (wrong != 0) {
      System.exit(1);
    }
  }
}
