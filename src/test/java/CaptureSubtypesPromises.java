import java.util.Arrays;
import java.util.List;

/** The document's promises: each sentence has a test of its own, which bears its words. */
public final class CaptureSubtypesPromises extends Sentences {
  public static void main(String[] args) throws Exception {
    newObject();
    clear();
    declare();
    inherit();
    inheritRefused();
    bind();
    bindRefused();
    plain();
    of();
    wild();
    variable();
    row();
    count();
    told();
    known();
    below();
    apart();
    is();
    may();
    as();
    erased();
    good();
    finish("Promise");
  }

  // ---------------------------------------------------------------- promises 1 to 5

  private static void newObject() {
    in("Promise 1");
    test("OBJECT; TYPES 0, 1, 2.", x -> {
      x.due("one CLASS", x.count(0), 1);
      x.due("its KIND", x.known(0, 0), CLASS);
      x.due("its PARAMETERS", x.known(0, 1), 0);
      x.due("its HEIRS", x.known(0, 2), 0);
      x.due("BELOW it", x.known(0, 3), 1);
      x.due("three TYPES", x.count(1), 3);
      x.due("OBJECT", x.told(0, 0), 0);
      x.due("INT", x.told(1, 0), 6);
      x.due("NULL", x.told(2, 0), 7);
      Run other = new Run();
      other.declare(CLASS, 1);
      other.variable(1, 0);
      x.due("another object's CLASS", x.count(0), 1);
      x.due("another object's TYPE", x.count(1), 3);
    });
  }

  private static void clear() {
    in("Promise 2");
    test("All as at first:", x -> {
      int two = x.declare(FACE, 2), sub = x.declare(CLASS, 1), bare = x.plain(two);
      x.inherit(sub, bare);
      x.bind(sub, 0, bare);
      x.of(two, x.wild(ANY, 0), x.row(x.variable(sub, 0)));
      x.due("clear", x.clear(), 3);
      x.due("a CLASS that was there", x.of(two, OBJECT, OBJECT), BAD);
      List<int[]> questions = questions(3, 9);
      int[] then = x.answers(questions, null);
      int[] first = new Run().answers(questions, null);
      if (!Arrays.equals(then, first)) fail("the answers are not those of a new object");
      x.due("CLASSES begin again", x.declare(CLASS, 1), 1);
      x.due("and go on", x.declare(CLASS, 1), 2);
      x.due("TYPES begin again", x.variable(2, 0), 3);
      x.due("no BOUND is left", x.erased(3), OBJECT);
      x.due("no SUPER is left", x.below(2, 1), 0);
      x.due("nor a HEIR", x.known(1, 2), 0);
      x.due("as many SUPERS as at first", x.inherit(2, x.plain(1)), 1);
      x.due("as many BOUNDS as at first", x.bind(2, 0, x.plain(1)), 1);
    });
    test("how many CLASSES there were.", x -> {
      x.due("a new object", x.clear(), 1);
      x.declare(CLASS, 0);
      x.due("one more", x.clear(), 2);
      x.due("cleared already", x.clear(), 1);
      for (int c = 1; c < MOST_CLASSES; c++) x.declare(FACE, 2);
      fill(x, 1, 60);
      x.due("all", x.clear(), MOST_CLASSES);
      for (int c = 1; c < MOST_CLASSES; c++) x.due("room again", x.declare(FACE, 2), c);
      fill(x, 1, MOST_TYPES);
      x.due("all, with all TYPES", x.clear(), MOST_CLASSES);
      x.due("room for TYPES again", x.row(OBJECT), 3);
    });
  }

  private static void declare() {
    in("Promise 3");
    test("A CLASS more: its number.", x -> {
      for (int kind = 0; kind <= 4; kind++) {
        for (int parameters = 0; parameters <= 2; parameters += 2) {
          int due = kind * 2 + parameters / 2 + 1;
          x.due("its number", x.declare(kind, parameters), due);
          x.due("its KIND", x.known(due, 0), kind);
          x.due("its PARAMETERS", x.known(due, 1), parameters);
          x.due("one more", x.count(0), due + 1);
        }
      }
      x.due("no TYPE more", x.count(1), 3);
    });
    test("BAD;", x -> {
      for (int far : FAR) {
        x.due("KIND far off", x.declare(far, 0), BAD);
        x.due("PARAMETERS far off", x.declare(0, far), BAD);
      }
      x.due("KIND 5", x.declare(5, 0), BAD);
      x.due("PARAMETERS 3", x.declare(0, 3), BAD);
      x.due("the greatest of both", x.declare(4, 2), 1);
      x.due("the least of both", x.declare(0, 0), 2);
    });
    test("FULL.", x -> {
      for (int c = 1; c < MOST_CLASSES; c++) x.due("room", x.declare(c % 5, c % 3), c);
      for (int kind = 0; kind <= 4; kind++) x.due("no room", x.declare(kind, kind % 3), FULL);
      x.due("BAD is ahead", x.declare(-1, 0), BAD);
    });
  }

  private static void inherit() {
    in("Promise 4");
    test("A SUPER more of a CLASS", x -> {
      int face = x.declare(FACE, 1), base = x.declare(SEALED, 0), c = x.declare(CLASS, 1);
      int sub = x.declare(SEALED_FACE, 0), f = x.of(face, x.variable(c, 0)), b = x.plain(base);
      int bare = x.plain(face), a = x.of(c, b), faceB = x.of(face, b), subType = x.plain(sub);
      x.due("of ARGUMENTS", x.inherit(c, f), 1);
      x.due("BELOW it", x.below(c, face), 1);
      x.due("AS it", x.as(a, face), faceB);
      x.due("PLAIN", x.inherit(c, b), 2);
      x.due("BELOW it", x.below(c, base), 1);
      x.due("a HEIR", x.known(base, 2), 1);
      x.due("BARE", x.inherit(sub, bare), 1);
      x.due("IS it", x.is(subType, bare), 1);
      x.due("UNCHECKED", x.is(subType, faceB), 2);
    });
    test("(for KINDS 0 to 2 of KIND 0 or 2: in place of OBJECT)", x -> {
      int base = x.declare(CLASS, 0), sealed = x.declare(SEALED, 0), b = x.plain(base);
      int s = x.plain(sealed), face = x.declare(FACE, 0), f = x.plain(face);
      for (int kind = CLASS; kind <= SEALED; kind++) {
        int c = x.declare(kind, 0);
        x.due("an heir of OBJECT", x.known(0, 2), 3);
        x.due("an interface: not in its place", x.inherit(c, f), 1);
        x.due("an heir of OBJECT still", x.known(0, 2), 3);
        x.due("in place of it", x.inherit(c, kind == LAST ? b : s), 2);
        x.due("no heir of OBJECT", x.known(0, 2), 2);
        x.due("BELOW it still", x.below(c, 0), 1);
      }
    });
    test(": how many it has then that were put in.", x -> {
      int face = x.declare(FACE, 0), base = x.declare(CLASS, 0), f = x.plain(face);
      int b = x.plain(base), c = x.declare(CLASS, 0), d = x.declare(LAST, 0);
      x.due("the class", x.inherit(c, b), 1);
      x.due("an interface", x.inherit(c, f), 2);
      x.due("once more", x.inherit(c, f), 3);
      x.due("of another CLASS", x.inherit(d, f), 1);
      x.due("the class after it", x.inherit(d, b), 2);
    });
    test("FULL;", x -> {
      int face = x.declare(FACE, 0), base = x.declare(CLASS, 0), f = x.plain(face);
      int b = x.plain(base), c = x.declare(CLASS, 0), sub = x.declare(SEALED_FACE, 0);
      x.inherit(c, b);
      x.due("a second class", x.inherit(c, b), FULL);
      x.inherit(c, f);
      x.inherit(c, f);
      x.due("a third interface", x.inherit(c, f), FULL);
      x.inherit(sub, f);
      x.inherit(sub, f);
      x.due("a third one of an interface", x.inherit(sub, f), FULL);
    });
    test("CLASH: AS would not be one.", x -> {
      int root = x.declare(FACE, 1), base = x.declare(CLASS, 0), c = x.declare(CLASS, 0);
      int mid = x.declare(FACE, 0), low = x.declare(CLASS, 0), a = x.plain(base);
      int ofA = x.of(root, a), ofC = x.of(root, x.plain(c)), bare = x.plain(root);
      x.inherit(base, ofA);
      x.due("by the class and by itself", x.inherit(c, a), 1);
      x.due("another one", x.inherit(c, ofC), CLASH);
      x.due("a BARE one", x.inherit(c, bare), CLASH);
      x.due("the same", x.inherit(c, ofA), 2);
      x.due("two steps down", x.inherit(low, x.plain(c)), 1);
      x.due("with an interface that is free", x.inherit(low, x.plain(mid)), 2);
      x.due("then that is not free", x.inherit(mid, ofC), CLASH);
      x.due("but for the same", x.inherit(mid, ofA), 1);
    });
  }

  private static void inheritRefused() {
    test("BAD:", x -> {
      int face = x.declare(FACE, 0), c = x.declare(CLASS, 0), f = x.plain(face);
      for (int far : FAR) {
        x.due("no CLASS", x.inherit(far, f), BAD);
        x.due("no TYPE", x.inherit(c, far), BAD);
      }
      x.due("the next CLASS", x.inherit(c + 1, f), BAD);
      x.due("the next TYPE", x.inherit(c, f + 1), BAD);
      x.due("OBJECT gets none", x.inherit(0, f), BAD);
    });
    test("also the TYPE is not PLAIN, BARE or of ARGUMENTS,", x -> {
      int list = x.declare(FACE, 1), c = x.declare(CLASS, 1), bare = x.plain(list);
      int v = x.variable(c, 0), row = x.row(bare), any = x.wild(ANY, 0), up = x.wild(UP, bare);
      for (int t : new int[] {INT, NULL, v, row, any, up}) x.due("none", x.inherit(c, t), BAD);
    });
    test("or not of a lesser CLASS,", x -> {
      int one = x.declare(FACE, 0), two = x.declare(FACE, 1), three = x.declare(FACE, 1);
      int first = x.plain(one), own = x.plain(two), later = x.plain(three);
      x.due("itself, BARE", x.inherit(two, own), BAD);
      x.due("itself", x.inherit(two, x.of(two, x.variable(two, 0))), BAD);
      x.due("the next", x.inherit(two, later), BAD);
      x.due("the one before", x.inherit(two, first), 1);
    });
    test("or OBJECT,", x -> {
      int c = x.declare(CLASS, 0), face = x.declare(FACE, 0);
      x.due("a class", x.inherit(c, OBJECT), BAD);
      x.due("an interface", x.inherit(face, OBJECT), BAD);
      x.due("OBJECT itself", x.inherit(0, OBJECT), BAD);
    });
    test("or of KIND 1,", x -> {
      int last = x.declare(LAST, 0), more = x.declare(LAST, 1), l = x.plain(last);
      int m = x.plain(more), ofL = x.of(more, l);
      for (int kind = 0; kind <= 4; kind++) {
        int c = x.declare(kind, 0);
        for (int t : new int[] {l, m, ofL}) x.due("a last class", x.inherit(c, t), BAD);
      }
    });
    test("or has WILD parts,", x -> {
      int list = x.declare(FACE, 1), two = x.declare(FACE, 2), c = x.declare(CLASS, 0);
      int any = x.wild(ANY, 0), some = x.of(list, any), up = x.of(list, x.wild(UP, OBJECT));
      int down = x.of(list, x.wild(DOWN, OBJECT)), inner = x.of(list, some);
      int inRow = x.of(list, x.row(some)), second = x.of(two, OBJECT, any);
      for (int t : new int[] {some, up, down, inner, inRow, second}) {
        x.due("WILD", x.inherit(c, t), BAD);
      }
    });
    test("or VARIABLES of another CLASS;", x -> {
      int list = x.declare(FACE, 1), two = x.declare(FACE, 2), c = x.declare(CLASS, 1);
      int other = x.variable(list, 0), own = x.variable(c, 0), later = x.declare(FACE, 1);
      int direct = x.of(list, other), inner = x.of(list, direct), inRow = x.of(list, x.row(other));
      int second = x.of(two, own, other), greater = x.of(list, x.variable(later, 0));
      for (int t : new int[] {direct, inner, inRow, second, greater}) {
        x.due("another's", x.inherit(c, t), BAD);
      }
      x.due("its own", x.inherit(c, x.of(list, x.row(own))), 1);
    });
    test("KINDS do not go;", x -> {
      int base = x.declare(CLASS, 0), sealed = x.declare(SEALED, 1), b = x.plain(base);
      int s = x.plain(sealed), ofB = x.of(sealed, b), f = x.plain(x.declare(FACE, 0));
      int g = x.plain(x.declare(SEALED_FACE, 0));
      for (int kind = FACE; kind <= SEALED_FACE; kind++) {
        int c = x.declare(kind, 0);
        for (int t : new int[] {b, s, ofB}) x.due("an interface and a class", x.inherit(c, t), BAD);
        x.due("two interfaces", x.inherit(c, f), 1);
        x.due("a sealed interface", x.inherit(c, g), 2);
      }
      for (int kind = CLASS; kind <= SEALED; kind++) {
        int c = x.declare(kind, 0);
        x.due("a class and an interface", x.inherit(c, f), 1);
        x.due("a class and a sealed interface", x.inherit(c, g), 2);
        x.due("two classes", x.inherit(c, kind == LAST ? ofB : b), 3);
      }
    });
  }

  private static void bind() {
    in("Promise 5");
    test("A BOUND more of a PARAMETER: how many.", x -> {
      int face = x.declare(FACE, 1), last = x.declare(LAST, 0), c = x.declare(CLASS, 2);
      int sealed = x.declare(SEALED_FACE, 0), v = x.variable(c, 0), w = x.variable(c, 1);
      int l = x.plain(last), f = x.of(face, w), s = x.plain(sealed), bare = x.plain(face);
      x.due("a class", x.bind(c, 0, l), 1);
      x.due("IS it", x.is(v, l), 1);
      x.due("an interface of ARGUMENTS", x.bind(c, 0, f), 2);
      x.due("IS it", x.is(v, f), 1);
      x.due("another PARAMETER: a VARIABLE", x.bind(c, 1, v), 1);
      x.due("IS it", x.is(w, v), 1);
      x.due("a sealed interface", x.bind(c, 1, s), 2);
      x.due("IS it", x.is(w, s), 1);
      x.due("with itself inside", x.bind(face, 0, x.of(face, x.variable(face, 0))), 1);
      x.due("BARE", x.bind(face, 0, bare), 2);
    });
    test("FULL.", x -> {
      int face = x.declare(FACE, 0), other = x.declare(FACE, 0), c = x.declare(CLASS, 2);
      int f = x.plain(face), g = x.plain(other);
      x.due("one", x.bind(c, 1, f), 1);
      x.due("two", x.bind(c, 1, f), 2);
      x.due("the same", x.bind(c, 1, f), FULL);
      x.due("another", x.bind(c, 1, g), FULL);
      x.due("of another PARAMETER", x.bind(c, 0, g), 1);
    });
  }

  private static void bindRefused() {
    test("BAD:", x -> {
      int face = x.declare(FACE, 0), one = x.declare(CLASS, 1), two = x.declare(CLASS, 2);
      int f = x.plain(face);
      for (int far : FAR) {
        x.due("no CLASS", x.bind(far, 0, f), BAD);
        x.due("no PARAMETER", x.bind(two, far, f), BAD);
        x.due("no TYPE", x.bind(two, 0, far), BAD);
      }
      x.due("the next CLASS", x.bind(two + 1, 0, f), BAD);
      x.due("the next PARAMETER of one", x.bind(one, 1, f), BAD);
      x.due("the next PARAMETER of two", x.bind(two, 2, f), BAD);
      x.due("a PARAMETER of none", x.bind(face, 0, f), BAD);
      x.due("a PARAMETER of OBJECT", x.bind(0, 0, f), BAD);
      x.due("the next TYPE", x.bind(two, 0, f + 1), BAD);
    });
    test("also the TYPE is OBJECT, INT, NULL, WILD, a ROW,", x -> {
      int c = x.declare(CLASS, 1), bare = x.plain(c), any = x.wild(ANY, 0), up = x.wild(UP, bare);
      int down = x.wild(DOWN, bare), row = x.row(bare), ints = x.row(INT);
      for (int t : new int[] {OBJECT, INT, NULL, any, up, down, row, ints}) {
        x.due("none of these", x.bind(c, 0, t), BAD);
      }
    });
    test("or has WILD parts,", x -> {
      int list = x.declare(FACE, 1), two = x.declare(FACE, 2), c = x.declare(CLASS, 1);
      int any = x.wild(ANY, 0), some = x.of(list, any), up = x.of(list, x.wild(UP, OBJECT));
      int inner = x.of(list, some), inRow = x.of(list, x.row(some));
      int second = x.of(two, OBJECT, any);
      for (int t : new int[] {some, up, inner, inRow, second}) x.due("WILD", x.bind(c, 0, t), BAD);
    });
    test("or VARIABLES of another CLASS,", x -> {
      int list = x.declare(FACE, 1), two = x.declare(FACE, 2), c = x.declare(CLASS, 2);
      int other = x.variable(list, 0), first = x.variable(two, 0), own = x.variable(c, 1);
      int direct = x.of(list, other), inner = x.of(list, x.row(other));
      int second = x.of(two, own, other);
      for (int t : new int[] {other, first, direct, inner, second}) {
        x.due("another's", x.bind(c, 1, t), BAD);
      }
      x.due("its own", x.bind(c, 1, x.of(two, own, own)), 1);
    });
    test("or is itself a VARIABLE not of lesser number;", x -> {
      int c = x.declare(CLASS, 2), w = x.variable(c, 1), v = x.variable(c, 0);
      x.due("0 of 0", x.bind(c, 0, v), BAD);
      x.due("0 of 1", x.bind(c, 0, w), BAD);
      x.due("1 of 1", x.bind(c, 1, w), BAD);
      x.due("1 of 0", x.bind(c, 1, v), 1);
      x.due("not itself: a greater one as an ARGUMENT", x.bind(c, 0, x.of(c, w, v)), 1);
    });
    test("a second one that is not of KIND 3 or 4;", x -> {
      int face = x.declare(FACE, 0), c = x.declare(CLASS, 2), f = x.plain(face);
      int a = x.plain(x.declare(CLASS, 0)), l = x.plain(x.declare(LAST, 0));
      int s = x.plain(x.declare(SEALED, 0)), v = x.variable(c, 0);
      x.bind(c, 1, f);
      for (int t : new int[] {a, l, s, v}) x.due("after an interface", x.bind(c, 1, t), BAD);
      x.bind(c, 0, a);
      for (int t : new int[] {a, l, s}) x.due("after a class", x.bind(c, 0, t), BAD);
      x.due("of KIND 3", x.bind(c, 0, f), 2);
      x.due("of KIND 4", x.bind(c, 1, x.plain(x.declare(SEALED_FACE, 0))), 2);
      x.due("a third one", x.bind(c, 0, a), BAD);
    });
  }

  // ---------------------------------------------------------------- promises 6 to 10

  private static void plain() {
    in("Promise 6");
    test("PLAIN c, or BARE: its number,", x -> {
      int a = x.declare(CLASS, 0), b = x.declare(FACE, 1), c = x.declare(LAST, 2);
      x.due("BARE", x.plain(c), 3);
      x.due("its sort", x.told(3, 0), 1);
      x.due("its CLASS", x.told(3, 1), c);
      x.due("PLAIN", x.plain(a), 4);
      x.due("its sort", x.told(4, 0), 0);
      x.due("its CLASS", x.told(4, 1), a);
      x.due("BARE of one PARAMETER", x.plain(b), 5);
      x.due("its sort", x.told(5, 0), 1);
    });
    test("here and below as it is, if it is there.", x -> {
      int c = x.declare(CLASS, 2);
      x.due("OBJECT", x.plain(0), OBJECT);
      int plain = x.plain(c), any = x.wild(ANY, 0), up = x.wild(UP, plain), v = x.variable(c, 1);
      int of = x.of(c, up, any), row = x.row(of), many = x.count(1);
      for (int round = 0; round < 2; round++) {
        x.due("plain", x.plain(c), plain);
        x.due("wild any", x.wild(ANY, 0), any);
        x.due("wild", x.wild(UP, plain), up);
        x.due("variable", x.variable(c, 1), v);
        x.due("of", x.of(c, up, any), of);
        x.due("row", x.row(of), row);
        x.due("none more", x.count(1), many);
        fill(x, c, MOST_TYPES);
        many = MOST_TYPES;
      }
    });
    test("BAD;", x -> {
      int c = x.declare(CLASS, 0);
      for (int far : FAR) x.due("no CLASS", x.plain(far), BAD);
      x.due("the next CLASS", x.plain(c + 1), BAD);
      x.due("number 12", x.plain(12), BAD);
    });
    test("FULL: 150 TYPES.", x -> {
      int two = x.declare(FACE, 2), c = x.declare(CLASS, 0), d = x.declare(CLASS, 1);
      fill(x, two, MOST_TYPES - 1);
      x.due("the last number is 149", x.plain(c), 149);
      x.due("150 TYPES", x.count(1), 150);
      x.due("no room", x.plain(d), FULL);
      x.due("there already", x.plain(c), 149);
      x.due("OBJECT is there", x.plain(0), OBJECT);
      x.due("BAD is ahead", x.plain(d + 1), BAD);
      x.clear();
      x.declare(CLASS, 1);
      x.due("room again", x.plain(1), 3);
    });
  }

  private static void of() {
    in("Promise 7");
    test("c of ARGUMENTS", x -> {
      int one = x.declare(FACE, 1), two = x.declare(CLASS, 2), any = x.wild(ANY, 0);
      int a = x.of(one, any), b = x.of(two, any, a), c = x.of(two, a, any), same = x.of(two, a, a);
      x.due("its sort", x.told(a, 0), 2);
      x.due("its CLASS", x.told(b, 1), two);
      x.due("its first", x.told(b, 2), any);
      x.due("its second", x.told(b, 3), a);
      x.due("the other way round: its first", x.told(c, 2), a);
      x.due("the other way round: its second", x.told(c, 3), any);
      x.due("twice the same", x.told(same, 3), a);
      x.due("four numbers", x.count(1), same + 1);
    });
    test("(b does not count, if it has one PARAMETER).", x -> {
      int one = x.declare(FACE, 1), two = x.declare(FACE, 2), six = x.rows(OBJECT, 5);
      int t = x.of(one, OBJECT, 0);
      for (int b : new int[] {INT, NULL, six, t + 1, -7}) {
        x.due("as it is", x.of(one, OBJECT, b), t);
      }
      for (int far : FAR) x.due("as it is", x.of(one, OBJECT, far), t);
      x.due("no second", x.told(t, 3), NONE);
      x.due("not deep", x.told(t, 4), 2);
      x.due("with two it counts", x.of(two, OBJECT, INT), BAD);
    });
    test("BAD:", x -> {
      int one = x.declare(FACE, 1), two = x.declare(FACE, 2);
      for (int far : FAR) {
        x.due("no CLASS", x.of(far, OBJECT, OBJECT), BAD);
        x.due("no TYPE", x.of(one, far, OBJECT), BAD);
        x.due("no first TYPE", x.of(two, far, OBJECT), BAD);
        x.due("no second TYPE", x.of(two, OBJECT, far), BAD);
      }
      x.due("the next CLASS", x.of(two + 1, OBJECT, OBJECT), BAD);
      x.due("the next TYPE", x.of(one, 3), BAD);
      for (int t : new int[] {INT, NULL}) {
        x.due("INT, NULL of one", x.of(one, t), BAD);
        x.due("INT, NULL first", x.of(two, t, OBJECT), BAD);
        x.due("INT, NULL second", x.of(two, OBJECT, t), BAD);
      }
    });
    test("also it has none;", x -> {
      int c = x.declare(CLASS, 0), face = x.declare(SEALED_FACE, 0);
      x.due("OBJECT", x.of(0, OBJECT, OBJECT), BAD);
      x.due("a class", x.of(c, OBJECT, OBJECT), BAD);
      x.due("an interface", x.of(face, OBJECT, OBJECT), BAD);
    });
    test("FULL;", x -> {
      int two = x.declare(FACE, 2), one = x.declare(FACE, 1), six = x.rows(OBJECT, 5);
      fill(x, two, MOST_TYPES - 1);
      x.due("the last number is 149", x.of(one, OBJECT), 149);
      x.due("no room", x.of(one, 149), FULL);
      x.due("FULL ahead of DEEP", x.of(one, six), FULL);
      x.due("there already", x.of(one, OBJECT), 149);
      x.due("BAD is ahead", x.of(one, NULL), BAD);
    });
    test("DEEP.", x -> {
      int one = x.declare(FACE, 1), two = x.declare(FACE, 2), t = x.wild(ANY, 0);
      for (int deep = 2; deep <= 6; deep++) {
        t = x.of(one, t);
        x.due("so deep", x.told(t, 4), deep);
      }
      x.due("7 deep", x.of(one, t), DEEP);
      x.due("7 deep by the first", x.of(two, t, OBJECT), DEEP);
      x.due("7 deep by the second", x.of(two, OBJECT, t), DEEP);
      int wide = x.of(two, t - 1, OBJECT);
      x.due("6 deep by the first", x.told(wide, 4), 6);
    });
  }

  private static void wild() {
    in("Promise 8");
    test("WILD: kind 0 any (the TYPE does not count),", x -> {
      x.due("any", x.wild(ANY, 0), 3);
      for (int t : new int[] {OBJECT, INT, NULL, 3, 4}) x.due("as it is", x.wild(ANY, t), 3);
      for (int far : FAR) x.due("as it is", x.wild(ANY, far), 3);
      x.due("its kind", x.told(3, 1), ANY);
      x.due("no TYPE", x.told(3, 2), NONE);
      x.due("1 deep", x.told(3, 4), 1);
    });
    test("1 up to, 2 down to a TYPE,", x -> {
      int c = x.declare(CLASS, 0), a = x.plain(c), any = x.wild(ANY, 0), up = x.wild(UP, a);
      int down = x.wild(DOWN, a);
      x.due("up to OBJECT is not any", x.wild(UP, OBJECT), down + 1);
      x.due("down to OBJECT", x.wild(DOWN, OBJECT), down + 2);
      x.due("up", x.told(up, 1), UP);
      x.due("to a TYPE", x.told(up, 2), a);
      x.due("down", x.told(down, 1), DOWN);
      x.due("to a TYPE", x.told(down, 2), a);
      x.due("no second", x.told(down, 3), NONE);
      x.due("any", x.told(any, 1), ANY);
    });
    test("that may be an ARGUMENT and is not WILD.", x -> {
      int c = x.declare(CLASS, 1), bare = x.plain(c), v = x.variable(c, 0), ints = x.row(INT);
      int any = x.wild(ANY, 0), of = x.of(c, any), next = x.count(1);
      for (int kind = UP; kind <= DOWN; kind++) {
        for (int t : new int[] {OBJECT, bare, v, ints, of}) x.due("may", x.wild(kind, t), next++);
        for (int t : new int[] {INT, NULL, any, of + 1, next - 1}) {
          x.due("may not", x.wild(kind, t), BAD);
        }
      }
    });
    test("BAD;", x -> {
      for (int far : FAR) {
        x.due("no kind", x.wild(far, OBJECT), BAD);
        x.due("up to no TYPE", x.wild(UP, far), BAD);
        x.due("down to no TYPE", x.wild(DOWN, far), BAD);
      }
      x.due("kind 3", x.wild(3, OBJECT), BAD);
      x.due("kind -1", x.wild(-1, OBJECT), BAD);
      x.due("the next TYPE", x.wild(UP, 3), BAD);
    });
    test("FULL;", x -> {
      int two = x.declare(FACE, 2), six = x.rows(OBJECT, 5);
      fill(x, two, MOST_TYPES - 1);
      x.due("the last number is 149", x.wild(UP, OBJECT), 149);
      x.due("no room for up to", x.wild(UP, 3), FULL);
      x.due("no room for down to", x.wild(DOWN, OBJECT), FULL);
      x.due("no room for any", x.wild(ANY, 0), FULL);
      x.due("FULL ahead of DEEP", x.wild(UP, six), FULL);
      x.due("there already", x.wild(UP, OBJECT), 149);
      x.due("BAD is ahead", x.wild(UP, 149), BAD);
    });
    test("DEEP.", x -> {
      int six = x.rows(OBJECT, 5), up = x.wild(UP, six - 1);
      x.due("6 deep", x.told(up, 4), 6);
      x.due("up to 6 deep", x.wild(UP, six), DEEP);
      x.due("down to 6 deep", x.wild(DOWN, six), DEEP);
      x.due("any is not deep", x.wild(ANY, six), up + 1);
    });
  }

  private static void variable() {
    in("Promise 9");
    test("The VARIABLE of a PARAMETER.", x -> {
      int one = x.declare(FACE, 1), two = x.declare(LAST, 2);
      x.due("the second of two", x.variable(two, 1), 3);
      x.due("the first of two", x.variable(two, 0), 4);
      x.due("the one", x.variable(one, 0), 5);
      x.due("its CLASS", x.told(3, 1), two);
      x.due("its number", x.told(3, 2), 1);
      x.due("the number of the first", x.told(4, 2), 0);
      x.due("as it is", x.variable(two, 1), 3);
    });
    test("BAD;", x -> {
      int none = x.declare(CLASS, 0), one = x.declare(FACE, 1), two = x.declare(LAST, 2);
      for (int far : FAR) {
        x.due("no CLASS", x.variable(far, 0), BAD);
        x.due("no PARAMETER", x.variable(two, far), BAD);
      }
      x.due("the next CLASS", x.variable(two + 1, 0), BAD);
      x.due("OBJECT has none", x.variable(0, 0), BAD);
      x.due("a CLASS that has none", x.variable(none, 0), BAD);
      x.due("a second of one", x.variable(one, 1), BAD);
      x.due("a third of two", x.variable(two, 2), BAD);
    });
    test("FULL.", x -> {
      int two = x.declare(FACE, 2);
      fill(x, two, MOST_TYPES - 1);
      x.due("the last number is 149", x.variable(two, 1), 149);
      x.due("no room", x.variable(two, 0), FULL);
      x.due("there already", x.variable(two, 1), 149);
      x.due("BAD is ahead", x.variable(two, 2), BAD);
    });
  }

  private static void row() {
    in("Promise 10");
    test("The ROW of a TYPE.", x -> {
      int c = x.declare(CLASS, 1), bare = x.plain(c), v = x.variable(c, 0);
      int of = x.of(c, x.wild(ANY, 0)), next = x.count(1);
      for (int t : new int[] {OBJECT, INT, bare, v, of, next}) {
        x.due("its ROW", x.row(t), next);
        x.due("of it", x.told(next, 2), t);
        next++;
      }
      x.due("as it is", x.row(INT), next - 5);
    });
    test("BAD:", x -> {
      for (int far : FAR) x.due("no TYPE", x.row(far), BAD);
      x.due("the next TYPE", x.row(3), BAD);
    });
    test("also NULL, WILD;", x -> {
      int any = x.wild(ANY, 0), up = x.wild(UP, OBJECT), down = x.wild(DOWN, OBJECT);
      for (int t : new int[] {NULL, any, up, down}) x.due("none of these", x.row(t), BAD);
    });
    test("FULL;", x -> {
      int two = x.declare(FACE, 2), six = x.rows(OBJECT, 5);
      fill(x, two, MOST_TYPES - 1);
      x.due("the last number is 149", x.row(INT), 149);
      x.due("no room", x.row(149), FULL);
      x.due("FULL ahead of DEEP", x.row(six), FULL);
      x.due("there already", x.row(OBJECT), six - 4);
      x.due("BAD is ahead", x.row(NULL), BAD);
    });
    test("DEEP.", x -> {
      int t = INT;
      for (int deep = 2; deep <= 6; deep++) {
        t = x.row(t);
        x.due("so deep", x.told(t, 4), deep);
      }
      x.due("7 deep", x.row(t), DEEP);
    });
  }

  // ---------------------------------------------------------------- promises 11 to 15

  private static void count() {
    in("Promise 11");
    test("What = 0 CLASSES, 1 TYPES.", x -> {
      x.due("CLASSES at first", x.count(0), 1);
      x.due("TYPES at first", x.count(1), 3);
      int c = x.declare(FACE, 2);
      x.due("a CLASS more", x.count(0), 2);
      x.due("no TYPE more", x.count(1), 3);
      x.plain(c);
      x.plain(c);
      x.due("a TYPE more, once", x.count(1), 4);
      x.wild(ANY, 0);
      x.due("a WILD one more", x.count(1), 5);
      while (x.count(0) < MOST_CLASSES) x.declare(CLASS, 0);
      fill(x, c, MOST_TYPES);
      x.due("all CLASSES", x.count(0), 12);
      x.due("all TYPES", x.count(1), 150);
    });
    test("BAD.", x -> {
      for (int far : FAR) x.due("far off", x.count(far), BAD);
      x.due("2", x.count(2), BAD);
    });
  }

  private static void told() {
    in("Promise 12");
    test("Of a TYPE: what = 0 its sort (0 PLAIN, 1 BARE, 2 of ARGUMENTS, 3 VARIABLE, 4 ROW, 5 WILD,"
        + " 6 INT, 7 NULL),", x -> toldAll(x, 0, 0, 6, 7, 0, 1, 3, 5, 5, 5, 2, 2, 4));
    test("1 its CLASS (of a VARIABLE the PARAMETER'S; of WILD its kind; NONE),",
        x -> toldAll(x, 1, 0, NONE, NONE, 1, 3, 3, ANY, UP, DOWN, 2, 3, NONE));
    test("2, 3 its ARGUMENTS (of a VARIABLE 2: its number; of ROWS, WILD 2: the TYPE; NONE),",
        x -> {
      toldAll(x, 2, NONE, NONE, NONE, NONE, NONE, 1, NONE, 3, 5, 7, 8, 10);
      toldAll(new Run(), 3, NONE, NONE, NONE, NONE, NONE, NONE, NONE, NONE, NONE, NONE, 9, NONE);
    });
    test("4 how deep it is.", x -> toldAll(x, 4, 1, 1, 1, 1, 1, 1, 1, 2, 2, 3, 4, 5));
    test("BAD.", x -> {
      int any = x.wild(ANY, 0);
      for (int far : FAR) {
        x.due("no TYPE", x.told(far, 0), BAD);
        x.due("no what", x.told(OBJECT, far), BAD);
      }
      x.due("the next TYPE", x.told(any + 1, 0), BAD);
      x.due("what 5", x.told(any, 5), BAD);
    });
  }

  /** Of a TYPE of each sort one thing that is told. */
  private static void toldAll(Run x, int what, int... wants) {
    int none = x.declare(LAST, 0), one = x.declare(FACE, 1), two = x.declare(CLASS, 2);
    int plain = x.plain(none), bare = x.plain(two), v = x.variable(two, 1), any = x.wild(ANY, 7);
    int up = x.wild(UP, plain), down = x.wild(DOWN, v), ofOne = x.of(one, up);
    int ofTwo = x.of(two, down, ofOne), row = x.row(ofTwo);
    String[] names = {
      "OBJECT", "INT", "NULL", "PLAIN", "BARE", "VARIABLE", "any", "up to", "down to", "of one",
      "of two", "ROW"
    };
    int[] all = {OBJECT, INT, NULL, plain, bare, v, any, up, down, ofOne, ofTwo, row};
    for (int k = 0; k < all.length; k++) x.due(names[k], x.told(all[k], what), wants[k]);
  }

  private static void known() {
    in("Promise 13");
    test("Of a CLASS: what = 0 KIND,", x -> {
      for (int kind = 0; kind <= 4; kind++) {
        x.due("its KIND", x.known(x.declare(kind, kind % 3), 0), kind);
      }
      x.due("OBJECT'S", x.known(0, 0), 0);
    });
    test("1 PARAMETERS,", x -> {
      for (int many = 0; many <= 2; many++) {
        x.due("so many", x.known(x.declare(many, many), 1), many);
      }
      x.due("OBJECT'S", x.known(0, 1), 0);
    });
    test("2 how many HEIRS,", x -> {
      int face = x.declare(FACE, 0), base = x.declare(CLASS, 0), c = x.declare(CLASS, 0);
      int f = x.plain(face), b = x.plain(base), a = x.plain(c), d = x.declare(LAST, 0);
      x.due("OBJECT'S: the classes, not the interface", x.known(0, 2), 3);
      x.inherit(c, b);
      x.inherit(d, a);
      x.inherit(d, f);
      x.inherit(d, f);
      x.due("one, though it is a SUPER twice", x.known(face, 2), 1);
      x.due("not the HEIR'S HEIR", x.known(base, 2), 1);
      x.due("none", x.known(d, 2), 0);
      x.due("OBJECT'S then", x.known(0, 2), 1);
    });
    test("3 how many CLASSES are BELOW it (itself, too).", x -> {
      int face = x.declare(FACE, 0), base = x.declare(CLASS, 0), c = x.declare(CLASS, 0);
      int f = x.plain(face), b = x.plain(base), d = x.declare(LAST, 0);
      x.due("itself alone", x.known(face, 3), 1);
      x.inherit(base, f);
      x.inherit(c, b);
      x.inherit(d, x.plain(c));
      x.inherit(d, f);
      x.due("HEIRS and theirs, each once", x.known(face, 3), 4);
      x.due("HEIRS and theirs", x.known(base, 3), 3);
      x.due("one HEIR", x.known(c, 3), 2);
      x.due("none", x.known(d, 3), 1);
      x.due("OBJECT'S: all", x.known(0, 3), 5);
    });
    test("BAD.", x -> {
      int c = x.declare(CLASS, 0);
      for (int far : FAR) {
        x.due("no CLASS", x.known(far, 0), BAD);
        x.due("no what", x.known(c, far), BAD);
      }
      x.due("the next CLASS", x.known(c + 1, 0), BAD);
      x.due("what 4", x.known(c, 4), BAD);
    });
  }

  private static void below() {
    in("Promise 14");
    test("Whether a CLASS is BELOW another one (1 or 0).", x -> {
      int face = x.declare(FACE, 1), sub = x.declare(FACE, 0), c = x.declare(LAST, 0);
      int ofObject = x.of(face, OBJECT), s = x.plain(sub);
      x.due("before", x.below(c, face), 0);
      x.inherit(c, s);
      x.due("a SUPER", x.below(c, sub), 1);
      x.inherit(sub, ofObject);
      x.due("a SUPER'S SUPER, put in later", x.below(c, face), 1);
      x.due("not the other way", x.below(face, c), 0);
      x.due("itself", x.below(c, c), 1);
      x.due("OBJECT", x.below(face, 0), 1);
      x.due("OBJECT is not", x.below(0, face), 0);
    });
    test("BAD.", x -> {
      int c = x.declare(CLASS, 0);
      for (int far : FAR) {
        x.due("the first", x.below(far, c), BAD);
        x.due("the second", x.below(c, far), BAD);
      }
      x.due("the next CLASS", x.below(c + 1, 0), BAD);
      x.due("the next CLASS", x.below(0, c + 1), BAD);
    });
  }

  private static void apart() {
    in("Promise 15");
    test("Whether CLASSES are APART (1 or 0).", x -> {
      x.due("OBJECT and itself", x.apart(0, 0), 0);
      int face = x.declare(FACE, 0), a = x.declare(CLASS, 0), b = x.declare(CLASS, 0);
      int family = x.declare(SEALED_FACE, 0), last = x.declare(LAST, 0);
      x.due("two classes", x.apart(a, b), 1);
      x.due("a class and an interface", x.apart(a, face), 0);
      x.due("a last class and an interface", x.apart(last, face), 1);
      x.due("a sealed family", x.apart(face, family), 1);
      x.inherit(last, x.plain(face));
      x.due("BELOW", x.apart(last, face), 0);
      x.inherit(last, x.plain(family));
      x.due("a family with a HEIR that is not", x.apart(face, family), 0);
      x.inherit(b, x.plain(a));
      x.due("a class and its SUPER", x.apart(a, b), 0);
      x.due("itself", x.apart(last, last), 0);
      int newest = x.declare(CLASS, 0);
      x.due("one that is new", x.apart(newest, a), 1);
    });
    test("BAD.", x -> {
      int c = x.declare(CLASS, 0);
      for (int far : FAR) {
        x.due("the first", x.apart(far, c), BAD);
        x.due("the second", x.apart(c, far), BAD);
      }
      x.due("the next CLASS", x.apart(c + 1, 0), BAD);
      x.due("the next CLASS", x.apart(0, c + 1), BAD);
    });
  }

  // ---------------------------------------------------------------- promises 16 to 20

  private static void is() {
    in("Promise 16");
    test("Whether S IS a T: 1;", x -> {
      int list = x.declare(FACE, 1), sub = x.declare(CLASS, 1), a = x.plain(x.declare(LAST, 0));
      x.inherit(sub, x.of(list, x.variable(sub, 0)));
      int subA = x.of(sub, a), listA = x.of(list, a), some = x.of(list, x.wild(UP, a));
      x.due("the same ARGUMENT", x.is(subA, listA), 1);
      x.due("a WILD ARGUMENT", x.is(subA, some), 1);
      x.due("NULL", x.is(NULL, some), 1);
      x.due("OBJECT", x.is(some, OBJECT), 1);
    });
    test("Whether S IS a T: 1;", x -> wideSupers(x));
    test("2: UNCHECKED;", x -> {
      int list = x.declare(FACE, 1), sub = x.declare(CLASS, 1), bare = x.plain(sub);
      x.inherit(sub, x.of(list, x.variable(sub, 0)));
      int some = x.of(list, x.wild(ANY, 0)), ofObject = x.of(sub, OBJECT);
      x.due("BARE below", x.is(bare, some), 2);
      x.due("BARE of the same CLASS", x.is(bare, ofObject), 2);
    });
    test("0.", x -> {
      int list = x.declare(FACE, 1), a = x.plain(x.declare(LAST, 0)), bare = x.plain(list);
      int ofA = x.of(list, a), ofObject = x.of(list, OBJECT), rowA = x.row(a);
      x.due("another ARGUMENT", x.is(ofA, ofObject), 0);
      x.due("another CLASS", x.is(a, bare), 0);
      x.due("INT", x.is(INT, OBJECT), 0);
      x.due("a ROW", x.is(rowA, a), 0);
      x.due("none IS NULL", x.is(a, NULL), 0);
    });
    test("BAD:", x -> {
      for (int far : FAR) {
        x.due("the first", x.is(far, OBJECT), BAD);
        x.due("the second", x.is(OBJECT, far), BAD);
      }
      x.due("the next TYPE", x.is(3, OBJECT), BAD);
      x.due("the next TYPE", x.is(OBJECT, 3), BAD);
    });
    test("also WILD.", x -> {
      int any = x.wild(ANY, 0), up = x.wild(UP, OBJECT), down = x.wild(DOWN, OBJECT);
      for (int w : new int[] {any, up, down}) {
        x.due("the first", x.is(w, OBJECT), BAD);
        x.due("the second", x.is(NULL, w), BAD);
        x.due("both", x.is(w, w), BAD);
      }
    });
  }

  /** All CLASSES in a chain of wide SUPERS: one AS forms about a hundred TYPES, and three nest. */
  private static void wideSupers(Run x) {
    for (int c = 1; c < MOST_CLASSES; c++) x.declare(FACE, 2);
    for (int c = 2; c < MOST_CLASSES; c++) wideSuper(x, c);
    int low = MOST_CLASSES - 1, any = x.wild(ANY, 0), ints = x.row(INT), all = x.row(OBJECT);
    int s2 = x.of(low, OBJECT, any), s6 = nested(x, low, all, UP, nested(x, low, ints, UP, s2));
    int t2 = x.of(1, any, any), t6 = nested(x, 1, any, UP, nested(x, 1, any, UP, t2));
    int n6 = nested(x, 1, any, UP, nested(x, 1, any, UP, x.of(1, OBJECT, any)));
    int downS = nested(x, low, all, UP, nested(x, low, ints, DOWN, t2));
    int downT = nested(x, 1, any, UP, nested(x, 1, any, DOWN, s2));
    x.due("all TYPES are there", x.told(downT, 4), 6);
    x.due("up to, up to", x.is(s6, t6), 1);
    x.due("up to, down to", x.is(downS, downT), 1);
    x.due("the innermost ARGUMENT is not the same", x.is(s6, n6), 0);
    x.due("but MAY be", x.may(s6, n6), 1);
    x.due("and back", x.may(n6, s6), 1);
  }

  private static int nested(Run x, int c, int first, int kind, int inner) {
    return x.of(c, first, x.wild(kind, inner));
  }

  private static void wideSuper(Run x, int c) {
    int v = x.variable(c, 0), row = x.row(v), pair = x.of(1, v, v);
    int left = x.of(1, x.of(1, row, pair), x.of(1, pair, row));
    int right = x.of(1, x.row(row), x.row(pair));
    int wide = x.of(c - 1, x.of(1, left, right), x.variable(c, 1));
    x.due("a step", x.inherit(c, wide), 1);
  }

  private static void may() {
    in("Promise 17");
    test("Whether S MAY be turned into T (1 or 0).", x -> {
      int face = x.declare(FACE, 1), c = x.declare(CLASS, 0), last = x.declare(LAST, 0);
      int a = x.plain(c), l = x.plain(last), ofA = x.of(face, a), ofL = x.of(face, l);
      int some = x.of(face, x.wild(UP, l)), bare = x.plain(face);
      x.due("a class into an interface", x.may(a, ofA), 1);
      x.due("a last class", x.may(l, ofA), 0);
      x.due("another ARGUMENT", x.may(ofA, ofL), 0);
      x.due("WILD of another", x.may(ofA, some), 0);
      x.due("WILD of it", x.may(some, ofL), 1);
      x.due("BARE", x.may(bare, ofL), 1);
      x.due("NULL", x.may(NULL, ofL), 1);
      x.due("INT", x.may(INT, ofL), 0);
    });
    test("BAD:", x -> {
      for (int far : FAR) {
        x.due("the first", x.may(far, OBJECT), BAD);
        x.due("the second", x.may(OBJECT, far), BAD);
      }
      x.due("the next TYPE", x.may(3, OBJECT), BAD);
      x.due("the next TYPE", x.may(OBJECT, 3), BAD);
    });
    test("also WILD,", x -> {
      int any = x.wild(ANY, 0), up = x.wild(UP, OBJECT), down = x.wild(DOWN, OBJECT);
      for (int w : new int[] {any, up, down}) {
        x.due("the first", x.may(w, OBJECT), BAD);
        x.due("the second", x.may(NULL, w), BAD);
        x.due("both", x.may(w, w), BAD);
      }
    });
    test("T is NULL.", x -> {
      int c = x.declare(CLASS, 1), bare = x.plain(c), v = x.variable(c, 0), row = x.row(v);
      for (int s : new int[] {OBJECT, INT, NULL, bare, v, row}) {
        x.due("into NULL", x.may(s, NULL), BAD);
      }
      x.due("from NULL", x.may(NULL, row), 1);
    });
  }

  private static void as() {
    in("Promise 18");
    test("AS d of a TYPE of a CLASS: told as a TYPE, if it is one that is there: its number.",
        x -> {
      int list = x.declare(FACE, 1), sub = x.declare(CLASS, 2), a = x.plain(x.declare(LAST, 0));
      x.inherit(sub, x.of(list, x.row(x.variable(sub, 1))));
      int of = x.of(sub, OBJECT, a), listRow = x.of(list, x.row(a)), bare = x.plain(sub);
      int bareList = x.plain(list), nested = x.of(list, x.of(list, x.wild(ANY, 0)));
      x.due("its SUPER", x.as(of, list), listRow);
      x.due("itself", x.as(of, sub), of);
      x.due("of a BARE one", x.as(bare, list), bareList);
      x.due("OBJECT", x.as(of, 0), OBJECT);
      x.due("PLAIN OBJECT", x.as(OBJECT, 0), OBJECT);
      x.due("with WILD parts further in", x.as(nested, list), nested);
    });
    test("NONE: its CLASS is not BELOW d,", x -> {
      int list = x.declare(FACE, 1), sub = x.declare(CLASS, 0), a = x.plain(sub);
      int ofA = x.of(list, a), bare = x.plain(list);
      x.due("a stranger", x.as(a, list), NONE);
      x.inherit(sub, ofA);
      x.due("above", x.as(ofA, sub), NONE);
      x.due("BARE above", x.as(bare, sub), NONE);
      x.due("OBJECT", x.as(OBJECT, list), NONE);
      x.due("then it is BELOW", x.as(a, list), ofA);
    });
    test("or the TYPE is not of a CLASS;", x -> {
      int c = x.declare(CLASS, 1), v = x.variable(c, 0), row = x.row(x.plain(c)), rowV = x.row(v);
      x.bind(c, 0, x.plain(c));
      int wildRow = x.row(x.of(c, x.wild(ANY, 0)));
      for (int t : new int[] {INT, NULL, v, row, rowV, wildRow}) {
        x.due("AS OBJECT", x.as(t, 0), NONE);
        x.due("AS c", x.as(t, c), NONE);
      }
    });
    test("FULL: it is no TYPE that is there.", x -> {
      int list = x.declare(FACE, 1), sub = x.declare(CLASS, 1), a = x.plain(x.declare(LAST, 0));
      x.inherit(sub, x.of(list, x.row(x.variable(sub, 0))));
      int of = x.of(sub, a), bare = x.plain(sub), deep = x.of(sub, x.rows(a, 4));
      x.due("neither it nor its part", x.as(of, list), FULL);
      x.due("the same once more", x.as(of, list), FULL);
      int row = x.row(a);
      x.due("its part alone", x.as(of, list), FULL);
      int there = x.of(list, row);
      x.due("then it is there", x.as(of, list), there);
      x.due("BARE", x.as(bare, list), FULL);
      x.due("one too deep to be there", x.as(deep, list), FULL);
    });
    test("BAD:", x -> {
      int c = x.declare(CLASS, 0), a = x.plain(c);
      for (int far : FAR) {
        x.due("no TYPE", x.as(far, c), BAD);
        x.due("no CLASS", x.as(a, far), BAD);
        x.due("no CLASS of what is of none", x.as(INT, far), BAD);
      }
      x.due("the next TYPE", x.as(a + 1, 0), BAD);
      x.due("the next CLASS", x.as(a, c + 1), BAD);
    });
    test("also it is WILD,", x -> {
      int c = x.declare(CLASS, 0), any = x.wild(ANY, 0), up = x.wild(UP, x.plain(c));
      int down = x.wild(DOWN, OBJECT);
      for (int w : new int[] {any, up, down}) {
        x.due("AS OBJECT", x.as(w, 0), BAD);
        x.due("AS c", x.as(w, c), BAD);
      }
    });
    test("or has WILD ARGUMENTS.", x -> {
      int list = x.declare(FACE, 1), two = x.declare(FACE, 2), any = x.wild(ANY, 0);
      int some = x.of(list, any), up = x.of(list, x.wild(UP, some)), first = x.of(two, any, OBJECT);
      int second = x.of(two, OBJECT, any);
      for (int t : new int[] {some, up, first, second}) {
        x.due("AS OBJECT", x.as(t, 0), BAD);
        x.due("AS one of them", x.as(t, list), BAD);
        x.due("AS the other", x.as(t, two), BAD);
      }
    });
  }

  private static void erased() {
    in("Promise 19");
    test("THE ERASED, if it is a TYPE that is there: its number;", x -> {
      int list = x.declare(FACE, 1), bare = x.plain(list), v = x.variable(list, 0);
      int some = x.of(list, x.wild(ANY, 0)), row = x.row(bare), rowSome = x.row(some);
      x.due("of ARGUMENTS", x.erased(some), bare);
      x.due("BARE", x.erased(bare), bare);
      x.due("a ROW", x.erased(rowSome), row);
      x.due("a VARIABLE", x.erased(v), OBJECT);
      x.bind(list, 0, x.of(list, v));
      x.due("a VARIABLE with a BOUND", x.erased(v), bare);
    });
    test("else FULL.", x -> {
      int list = x.declare(FACE, 1), v = x.variable(list, 0), some = x.of(list, x.wild(ANY, 0));
      int rowV = x.row(v), rowSome = x.row(some);
      x.due("no BARE one", x.erased(some), FULL);
      x.due("no ROW of OBJECT", x.erased(rowV), FULL);
      x.due("no ROW of a BARE one", x.erased(rowSome), FULL);
      int bare = x.plain(list);
      x.due("then it is there", x.erased(some), bare);
      x.due("the ROW is not", x.erased(rowSome), FULL);
      int bares = x.row(bare);
      x.due("then it is", x.erased(rowSome), bares);
    });
    test("BAD:", x -> {
      for (int far : FAR) x.due("no TYPE", x.erased(far), BAD);
      x.due("the next TYPE", x.erased(3), BAD);
    });
    test("also WILD, INT and NULL.", x -> {
      int any = x.wild(ANY, 0), up = x.wild(UP, OBJECT), down = x.wild(DOWN, OBJECT);
      for (int t : new int[] {any, up, down, INT, NULL}) x.due("none", x.erased(t), BAD);
    });
  }

  private static void good() {
    in("Promise 20");
    test("Whether a TYPE of ARGUMENTS is GOOD (1 or 0): each ARGUMENT that is not WILD IS a BOUND"
        + " of its PARAMETER, for each BOUND", x -> {
      int face = x.declare(FACE, 0), base = x.declare(CLASS, 0), heir = x.declare(CLASS, 0);
      int two = x.declare(CLASS, 2), f = x.plain(face), a = x.plain(base), b = x.plain(heir);
      x.inherit(heir, a);
      x.inherit(heir, f);
      int bb = x.of(two, b, b), ab = x.of(two, a, b), ba = x.of(two, b, a), aa = x.of(two, a, a);
      int row = x.of(two, x.row(INT), OBJECT), any = x.wild(ANY, 0), wild = x.of(two, any, any);
      int strange = x.of(two, x.wild(UP, f), x.wild(DOWN, OBJECT)), anyA = x.of(two, any, a);
      x.due("without BOUNDS", x.good(row), 1);
      x.bind(two, 0, a);
      x.due("one BOUND", x.good(aa), 1);
      x.due("it IS not the BOUND", x.good(row), 0);
      x.bind(two, 0, f);
      x.bind(two, 1, f);
      x.due("each BOUND", x.good(bb), 1);
      x.due("the first BOUND alone", x.good(ab), 0);
      x.due("the second PARAMETER'S not", x.good(ba), 0);
      x.due("WILD ones do not count", x.good(wild), 1);
      x.due("whatever they are of", x.good(strange), 1);
      x.due("the other does", x.good(anyA), 0);
      int own = x.of(two, x.variable(two, 0), x.variable(two, 1));
      int crossed = x.of(two, x.variable(two, 1), x.variable(two, 1));
      x.due("its own VARIABLES are within the BOUNDS", x.good(own), 1);
      x.due("a VARIABLE that is not", x.good(crossed), 0);
    });
    test("(ARGUMENTS, WILD ones CAUGHT, put in for PARAMETERS).", x -> {
      int list = x.declare(FACE, 1), a = x.plain(x.declare(LAST, 0)), two = x.declare(CLASS, 2);
      int self = x.declare(CLASS, 1), word = x.declare(CLASS, 0), w = x.plain(word);
      x.bind(two, 1, x.of(list, x.variable(two, 0)));
      x.bind(self, 0, x.of(list, x.variable(self, 0)));
      x.inherit(word, x.of(list, w));
      int listA = x.of(list, a), any = x.wild(ANY, 0), listAny = x.of(list, any);
      int fit = x.of(two, a, listA), unfit = x.of(two, OBJECT, listA);
      int caught = x.of(two, any, listA);
      int bare = x.of(two, a, x.plain(list)), wide = x.of(two, a, listAny);
      x.due("the other ARGUMENT put in", x.good(fit), 1);
      x.due("another one", x.good(unfit), 0);
      x.due("what is CAUGHT is another one", x.good(caught), 0);
      x.due("UNCHECKED is not enough", x.good(bare), 0);
      x.due("nor any", x.good(wide), 0);
      int selfW = x.of(self, w), selfA = x.of(self, a);
      x.due("itself put in", x.good(selfW), 1);
      x.due("itself put in, which it is not", x.good(selfA), 0);
      x.bind(self, 0, x.plain(list));
      x.due("BARE beside it", x.good(selfW), 1);
    });
    test("BAD: it is not of ARGUMENTS.", x -> {
      int list = x.declare(FACE, 1), bare = x.plain(list), a = x.plain(x.declare(LAST, 0));
      int v = x.variable(list, 0), any = x.wild(ANY, 0), row = x.row(x.of(list, a));
      for (int t : new int[] {OBJECT, INT, NULL, bare, a, v, any, row, row + 1}) {
        x.due("not of ARGUMENTS", x.good(t), BAD);
      }
      for (int far : FAR) x.due("no TYPE", x.good(far), BAD);
    });
  }
}
