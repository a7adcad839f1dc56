import java.lang.reflect.Array;
import java.lang.reflect.Constructor;
import java.lang.reflect.Field;
import java.lang.reflect.Method;
import java.lang.reflect.Modifier;
import java.nio.file.Files;
import java.nio.file.Path;
import java.util.Arrays;
import java.util.Collections;
import java.util.IdentityHashMap;
import java.util.Map;
import java.util.Set;
import java.util.TreeMap;
import java.util.TreeSet;
import java.util.regex.Matcher;
import java.util.regex.Pattern;

/** The public face of the document, the words that LANGUAGE.md leaves out, and the room. */
public final class CaptureSubtypesFace {
  private static int wrong = 0;

  private static void expect(boolean holds, String what) {
    if (!holds) {
      wrong++;
      System.out.println("does not hold: " + what);
    }
  }

  public static void main(String[] args) throws Exception {
    constants();
    methods();
    nestedClasses();
    source();
    room();
    System.out.println(wrong == 0 ? "the face is as due" : wrong + " faults of the face");
    if (wrong != 0) System.exit(1);
  }

  private static void constants() throws Exception {
    Map<String, Integer> due = new TreeMap<>(
        Map.of("NONE", -1, "BAD", -2, "FULL", -3, "DEEP", -4, "CLASH", -5));
    for (Field f : CaptureSubtypes.class.getDeclaredFields()) {
      boolean isPrivate = Modifier.isPrivate(f.getModifiers());
      expect(isPrivate || due.containsKey(f.getName()), "no field but the document's: " + f);
    }
    for (Map.Entry<String, Integer> e : due.entrySet()) {
      Field f = CaptureSubtypes.class.getField(e.getKey());
      int m = f.getModifiers();
      expect(Modifier.isStatic(m) && Modifier.isFinal(m) && f.getInt(null) == e.getValue(),
          e.getKey() + " is " + e.getValue());
    }
  }

  private static void methods() {
    String[] due = {
      "apart2", "as2", "below2", "bind3", "clear0", "count1", "declare2", "erased1", "good1",
      "inherit2", "is2", "known2", "may2", "of3", "plain1", "row1", "told2", "variable2", "wild2"
    };
    TreeSet<String> there = new TreeSet<>();
    TreeSet<String> hidden = new TreeSet<>();
    for (Method m : CaptureSubtypes.class.getDeclaredMethods()) {
      if (Modifier.isPrivate(m.getModifiers())) {
        hidden.add(m.getName());
        continue;
      }
      there.add(m.getName() + m.getParameterCount());
      expect(Modifier.isPublic(m.getModifiers()), m + " is public or private");
      expect(m.getReturnType() == int.class, m + " answers an int");
      for (Class<?> p : m.getParameterTypes()) expect(p == int.class, m + " takes ints");
    }
    expect(there.equals(new TreeSet<>(Arrays.asList(due))), "the methods are the document's: " + there);
    for (String d : due) {
      expect(!hidden.contains(d.substring(0, d.length() - 1)), "no private method is named " + d);
    }
    Constructor<?>[] made = CaptureSubtypes.class.getDeclaredConstructors();
    expect(made.length == 1 && made[0].getParameterCount() == 0
        && Modifier.isPublic(made[0].getModifiers()), "one public constructor without parameters");
    expect(Modifier.isFinal(CaptureSubtypes.class.getModifiers()), "the class is final");
  }

  private static void nestedClasses() {
    Class<?>[] inside = CaptureSubtypes.class.getDeclaredClasses();
    expect(inside.length <= 12, "some twelve classes at most");
    for (Class<?> c : inside) {
      int m = c.getModifiers();
      expect(Modifier.isStatic(m) && !Modifier.isPublic(m) && !Modifier.isProtected(m),
          c + " is static and not public");
      int fields = 0;
      for (Field f : c.getDeclaredFields()) if (!Modifier.isStatic(f.getModifiers())) fields++;
      expect(fields <= 20, c + " has some twenty fields at most");
      for (Method f : c.getDeclaredMethods()) {
        expect(f.getParameterCount() <= 7, f + " takes at most seven parameters");
      }
    }
  }

  private static void source() throws Exception {
    String text = Files.readString(Path.of("src/main/java/CaptureSubtypes.java"));
    String code = Pattern.compile("/\\*.*?\\*/", Pattern.DOTALL).matcher(text).replaceAll("");
    code = code.replaceAll("//.*", "");
    String[] words = {
      "throw", "throws", "try", "catch", "finally", "synchronized", "assert", "import", "package",
      "protected", "Exact", "System", "Thread", "Random", "->", "::", "\\bvar\\b", "@"
    };
    for (String w : words) {
      Matcher m = Pattern.compile(w.matches("\\w+") ? "\\b" + w + "\\b" : w).matcher(code);
      expect(!m.find(), "the source is without " + w);
    }
    expect(!Pattern.compile("[^\\x00-\\x7f]").matcher(text).find(), "the source is plain text");
  }

  /**
   * All calls of one run live in one room. Making an object is the dearest call, and no other one
   * makes anything that stays: even a run of nothing else has to go in.
   */
  private static void room() throws Exception {
    CaptureSubtypes o = new CaptureSubtypes();
    long[] before = size(o);
    for (int k = 0; k < 40; k++) {
      int c = o.declare(3, 1);
      int v = o.variable(c, 0);
      int t = o.of(c, o.wild(1, o.row(v)), 0);
      o.inherit(c, o.of(c - 1, v, 0));
      o.is(t, o.plain(1));
      o.may(t, o.of(1, o.wild(0, 0), 0));
      o.good(t);
    }
    expect(Arrays.equals(before, size(o)), "what an object holds does not grow");
    expect(before[0] * 512 < 600_000, "512 new objects are in the room: " + before[0]);
    expect(before[1] * 512 < 7_300_000, "and their fields and elements: " + before[1]);
  }

  /** How many objects and arrays an object holds, and how many fields and elements these have. */
  private static long[] size(Object root) throws Exception {
    Set<Object> seen = Collections.newSetFromMap(new IdentityHashMap<>());
    long[] size = new long[2];
    count(root, seen, size);
    return size;
  }

  private static void count(Object x, Set<Object> seen, long[] size) throws Exception {
    if (x == null || !seen.add(x)) return;
    size[0]++;
    if (x.getClass().isArray()) {
      size[1] += Array.getLength(x);
      return;
    }
    for (Field f : x.getClass().getDeclaredFields()) {
      if (Modifier.isStatic(f.getModifiers())) continue;
      size[1]++;
      if (f.getType().isPrimitive()) continue;
      f.setAccessible(true);
      count(f.get(x), seen, size);
    }
  }
}
