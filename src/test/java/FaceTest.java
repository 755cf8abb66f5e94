import java.lang.reflect.Constructor;
import java.lang.reflect.Field;
import java.lang.reflect.Method;
import java.lang.reflect.Modifier;
import java.util.Set;
import java.util.TreeSet;

/** The class shows the document's face and nothing else. */
public final class FaceTest {
  public static void main(String[] args) {
    Set<String> want = new TreeSet<>(Set.of(
        "public RoadTurns()",
        "public boolean RoadTurns.size(int)",
        "public int RoadTurns.road(int,int,int)",
        "public boolean RoadTurns.close(int,int,boolean)",
        "public int RoadTurns.cost(int,int)",
        "public int RoadTurns.bar(int,int,int,boolean)",
        "public long RoadTurns.route(int,int)",
        "public int RoadTurns.length()",
        "public int RoadTurns.node(int)",
        "public int RoadTurns.within(int,long)"));
    Set<String> got = new TreeSet<>();
    for (Constructor<?> c : RoadTurns.class.getDeclaredConstructors()) {
      if (!Modifier.isPrivate(c.getModifiers())) got.add(c.toString());
    }
    for (Method m : RoadTurns.class.getDeclaredMethods()) {
      if (!Modifier.isPrivate(m.getModifiers())) got.add(m.toString());
    }
    for (Field f : RoadTurns.class.getDeclaredFields()) {
      if (!Modifier.isPrivate(f.getModifiers())) got.add(f.toString());
    }
    boolean right = got.equals(want) && Modifier.isFinal(RoadTurns.class.getModifiers());
    System.out.println(right ? "the face is as due" : "the face is " + got + ", due is " + want + ", and the class final");
    if (!right) System.exit(1);
  }
}
