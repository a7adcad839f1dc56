import java.nio.file.Files;
import java.nio.file.Path;
import java.util.ArrayList;
import java.util.Arrays;
import java.util.LinkedHashMap;
import java.util.List;
import java.util.Map;

/**
 * For tests of the document sentence by sentence: each has a test of its own, with the sentence's
 * words as its name and a new object. After each call that is refused, or that only asks, all that
 * can be asked is asked of an object that got the call and of one that did not. At the end the
 * names are held against the document: no sentence may be without a test.
 */
abstract class Sentences {
  static final int NONE = -1, BAD = -2, FULL = -3, DEEP = -4, CLASH = -5;
  static final int OBJECT = 0, INT = 1, NULL = 2;
  static final int CLASS = 0, LAST = 1, SEALED = 2, FACE = 3, SEALED_FACE = 4;
  static final int ANY = 0, UP = 1, DOWN = 2;
  static final int MOST_CALLS = 512, MOST_TYPES = 150, MOST_CLASSES = 12;

  /** Numbers that no CLASS, TYPE, PARAMETER, KIND or what has. */
  static final int[] FAR = {
    -1, -2, -3, Integer.MIN_VALUE, Integer.MIN_VALUE + 1, 150, 151, 1023, 1024, 1025,
    65536, 1 << 30, Integer.MAX_VALUE, Integer.MAX_VALUE - 1
  };

  // ---------------------------------------------------------------- the calls

  static final String[] NAMES = {
    "declare", "inherit", "bind", "plain", "of", "wild", "variable", "row", "clear", "count",
    "told", "known", "below", "apart", "is", "may", "as", "erased", "good"
  };
  private static final int[] TAKES = {2, 2, 3, 1, 3, 2, 2, 1, 0, 1, 2, 2, 2, 2, 2, 2, 2, 1, 1};
  private static final int FIRST_ASKER = 9;

  static int ask(CaptureSubtypes o, int[] q) {
    switch (q[0]) {
      case 0: return o.declare(q[1], q[2]);
      case 1: return o.inherit(q[1], q[2]);
      case 2: return o.bind(q[1], q[2], q[3]);
      case 3: return o.plain(q[1]);
      case 4: return o.of(q[1], q[2], q[3]);
      case 5: return o.wild(q[1], q[2]);
      case 6: return o.variable(q[1], q[2]);
      case 7: return o.row(q[1]);
      case 8: return o.clear();
      case 9: return o.count(q[1]);
      case 10: return o.told(q[1], q[2]);
      case 11: return o.known(q[1], q[2]);
      case 12: return o.below(q[1], q[2]);
      case 13: return o.apart(q[1], q[2]);
      case 14: return o.is(q[1], q[2]);
      case 15: return o.may(q[1], q[2]);
      case 16: return o.as(q[1], q[2]);
      case 17: return o.erased(q[1]);
      default: return o.good(q[1]);
    }
  }

  private static String text(int[] q) {
    StringBuilder b = new StringBuilder(NAMES[q[0]]).append('(');
    for (int i = 1; i <= TAKES[q[0]]; i++) b.append(i > 1 ? ", " : "").append(q[i]);
    return b.append(')').toString();
  }

  /** An object, with a note of the calls that changed it, so that it can be made again. */
  static final class Run {
    final CaptureSubtypes object = new CaptureSubtypes();
    private final List<int[]> built = new ArrayList<>();
    private int[] last;
    int calls = 0;
    private int[] pictured;
    private int picturedAt = -1;

    int call(int method, int a, int b, int c) {
      last = new int[] {method, a, b, c};
      calls++;
      if (calls > MOST_CALLS) throw new IllegalStateException("more calls than one object is for");
      int answer = ask(object, last);
      if (method < FIRST_ASKER && answer >= 0) built.add(last);
      return answer;
    }

    int declare(int kind, int parameters) { return call(0, kind, parameters, 0); }
    int inherit(int c, int type) { return call(1, c, type, 0); }
    int bind(int c, int i, int type) { return call(2, c, i, type); }
    int plain(int c) { return call(3, c, 0, 0); }
    int of(int c, int a, int b) { return call(4, c, a, b); }
    int of(int c, int a) { return call(4, c, a, 0); }
    int wild(int kind, int type) { return call(5, kind, type, 0); }
    int variable(int c, int i) { return call(6, c, i, 0); }
    int row(int type) { return call(7, type, 0, 0); }
    int clear() { return call(8, 0, 0, 0); }
    int count(int what) { return call(9, what, 0, 0); }
    int told(int type, int what) { return call(10, type, what, 0); }
    int known(int c, int what) { return call(11, c, what, 0); }
    int below(int c, int d) { return call(12, c, d, 0); }
    int apart(int c, int d) { return call(13, c, d, 0); }
    int is(int s, int t) { return call(14, s, t, 0); }
    int may(int s, int t) { return call(15, s, t, 0); }
    int as(int type, int d) { return call(16, type, d, 0); }
    int erased(int type) { return call(17, type, 0, 0); }
    int good(int type) { return call(18, type, 0, 0); }

    /** The TYPE in so many ROWS. */
    int rows(int type, int times) {
      int t = type;
      for (int k = 0; k < times; k++) t = row(t);
      return t;
    }

    /** Of the last call: its answer, and that it changed nothing if it may not. */
    void due(String label, int got, int want) {
      if (got != want) {
        fail(label + ": " + text(last) + " answered " + got + ", due is " + want);
      } else if (want < 0 || last[0] >= FIRST_ASKER) {
        unchanged(label);
      }
    }

    private CaptureSubtypes again() {
      CaptureSubtypes o = new CaptureSubtypes();
      for (int[] q : built) ask(o, q);
      return o;
    }

    private void unchanged(String label) {
      CaptureSubtypes asked = again();
      List<int[]> questions = questions(asked.count(0), asked.count(1));
      if (picturedAt != built.size()) {
        pictured = answers(questions, null);
        picturedAt = built.size();
      }
      int[] after = answers(questions, last);
      for (int k = 0; k < after.length; k++) {
        if (after[k] != pictured[k]) {
          fail(label + ": " + text(last) + " changed " + text(questions.get(k)) + " from "
              + pictured[k] + " to " + after[k]);
          return;
        }
      }
    }

    /** The answers of objects made again, as many as 512 calls for each ask for. */
    int[] answers(List<int[]> questions, int[] call) {
      int[] all = new int[questions.size()];
      int room = MOST_CALLS - built.size() - 1;
      CaptureSubtypes o = null;
      for (int k = 0; k < all.length; k++) {
        boolean changes = questions.get(k)[0] < FIRST_ASKER;
        if (o == null || k % room == 0 || changes && questions.get(k - 1)[0] >= FIRST_ASKER) {
          o = again();
          if (call != null) ask(o, call);
        }
        all[k] = ask(o, questions.get(k));
      }
      return all;
    }
  }

  /** All that only asks (of many TYPES not each pair); then calls that change. */
  static List<int[]> questions(int classes, int types) {
    List<int[]> all = new ArrayList<>();
    for (int what = 0; what < 2; what++) all.add(new int[] {9, what, 0, 0});
    for (int c = 0; c < classes; c++) {
      for (int what = 0; what < 4; what++) all.add(new int[] {11, c, what, 0});
      for (int d = 0; d < classes; d++) all.add(new int[] {12, c, d, 0});
      for (int d = 0; d < classes; d++) all.add(new int[] {13, c, d, 0});
    }
    int step = types > 40 ? 29 : 1;
    for (int s = 0; s < types; s++) {
      for (int what = 0; what < 5; what++) all.add(new int[] {10, s, what, 0});
      for (int d = 0; d < classes; d++) all.add(new int[] {16, s, d, 0});
      all.add(new int[] {17, s, 0, 0});
      all.add(new int[] {18, s, 0, 0});
      for (int t = s % step; t < types; t += step) {
        all.add(new int[] {14, s, t, 0});
        all.add(new int[] {15, s, t, 0});
      }
    }
    all.addAll(changers(classes, types));
    return all;
  }

  private static List<int[]> changers(int classes, int types) {
    List<int[]> all = new ArrayList<>();
    for (int c = 0; c < classes; c++) {
      for (int i = 0; i < 2; i++) all.add(new int[] {6, c, i, 0});
      all.add(new int[] {3, c, 0, 0});
      for (int t = c % 3; t < types; t += 3) {
        all.add(new int[] {1, c, t, 0});
        all.add(new int[] {2, c, t % 2, t});
      }
    }
    all.add(new int[] {0, FACE, 1, 0});
    for (int t = 0; t < types; t += 2) {
      all.add(new int[] {7, t, 0, 0});
      all.add(new int[] {4, t % classes, t, t});
      all.add(new int[] {5, t % 3, t, 0});
    }
    while (all.size() > 200) all.remove(all.size() / 2);
    return all;
  }

  // ---------------------------------------------------------------- the tests

  interface Body {
    void run(Run x);
  }

  private static final Map<String, List<String>> quotes = new LinkedHashMap<>();
  private static String section = "";
  private static String sentence = "";
  private static int tests = 0;
  private static int wrong = 0;

  static void in(String name) {
    section = name;
    quotes.put(name, new ArrayList<>());
  }

  static void test(String words, Body body) {
    sentence = words;
    quotes.get(section).add(words);
    tests++;
    try {
      body.run(new Run());
    } catch (RuntimeException | StackOverflowError e) {
      fail("thrown: " + e);
    }
  }

  static void fail(String what) {
    wrong++;
    System.out.println(section + ", \"" + sentence + "\": " + what);
  }

  /** Puts in TYPES of two ARGUMENTS until there are so many. */
  static void fill(Run x, int two, int many) {
    x.plain(two);
    int there = x.count(1);
    for (int a = 3; there < many && a < many; a++) {
      for (int b = 3; b <= a && there < many; b++) {
        if (x.of(two, a, b) == there) there++;
      }
    }
    x.due("so many TYPES", x.count(1), many);
  }

  /** To be called last, with how the headings begin whose sentences all have to have a test. */
  static void finish(String... headings) throws Exception {
    Path document = Path.of("../shared/DOC.md");
    if (Files.isReadable(document)) {
      everySentenceHasTest(bodies(Files.readAllLines(document)), headings);
    } else {
      System.out.println("the document is not there: its words are not held against the tests");
    }
    System.out.println(tests + " sentences, " + (wrong == 0 ? "all hold" : wrong + " faults"));
    if (wrong != 0) System.exit(1);
  }

  // ---------------------------------------------------------------- the document's words

  private static void everySentenceHasTest(Map<String, String> bodies, String[] headings) {
    for (Map.Entry<String, List<String>> e : quotes.entrySet()) {
      section = e.getKey();
      String body = bodies.getOrDefault(section, "");
      boolean[] quoted = new boolean[body.length()];
      for (String words : e.getValue()) {
        sentence = words;
        if (!mark(body, words, quoted)) fail("the document has no such words");
      }
      sentence = "";
      for (String rest : left(body, quoted)) fail("no test has the words: " + rest);
    }
    for (String name : bodies.keySet()) {
      section = name;
      for (String heading : headings) {
        if (name.startsWith(heading) && !quotes.containsKey(name)) fail("no test is of it");
      }
    }
  }

  /** The texts under the headings, without the signatures, each in one line. */
  private static Map<String, String> bodies(List<String> lines) {
    Map<String, String> all = new LinkedHashMap<>();
    String name = "";
    for (String line : lines) {
      if (line.startsWith("## ")) {
        name = line.substring(3).replaceAll(":.*", "").trim();
      } else if (!line.startsWith("```") && !line.startsWith("# ")) {
        String words = line.replaceAll("^`[^`]*`:", "").replaceAll("={4,} ", " ");
        all.merge(name, words, (a, b) -> a + " " + b);
      }
    }
    all.replaceAll((n, body) -> body.replaceAll("\\s+", " ").trim());
    return all;
  }

  /** Marks the first place of the words that is not marked yet. */
  private static boolean mark(String body, String words, boolean[] quoted) {
    int at = body.indexOf(words);
    while (at >= 0 && quoted[at] && body.indexOf(words, at + 1) >= 0) {
      at = body.indexOf(words, at + 1);
    }
    if (at >= 0) Arrays.fill(quoted, at, at + words.length(), true);
    return at >= 0;
  }

  private static List<String> left(String body, boolean[] quoted) {
    List<String> all = new ArrayList<>();
    int from = 0;
    while (from < body.length()) {
      int to = from;
      while (to < body.length() && quoted[to] == quoted[from]) to++;
      String words = body.substring(from, to);
      if (!quoted[from] && words.matches(".*\\w.*")) all.add(words);
      from = to;
    }
    return all;
  }
}
