import java.util.ArrayList;
import java.util.List;

/** The document's promises one by one: ordinary inputs, edges, wrong inputs. */
public final class CaptureSubtypesPromises {
  private static final int NONE = -1, BAD = -2, FULL = -3, DEEP = -4, CLASH = -5;
  private static final int OBJECT = 0, INT = 1, NULL = 2;
  private static final int CLASS = 0, LAST = 1, SEALED = 2, FACE = 3, SEALED_FACE = 4;
  private static final int ANY = 0, UP = 1, DOWN = 2;
  private static final int[] FAR = {
    -1, -2, Integer.MIN_VALUE, Integer.MIN_VALUE + 1, 150, 151, 2047, 2048, 4096, 65536,
    Integer.MAX_VALUE, Integer.MAX_VALUE - 1
  };

  private static int wrong = 0;
  private static int promise = 0;

  private static void due(String what, int got, int want) {
    if (got != want) {
      wrong++;
      System.out.println("promise " + promise + ": " + what + ": " + got + ", due is " + want);
    }
  }

  public static void main(String[] args) {
    newObject();
    clear();
    declare();
    inherit();
    inheritClash();
    bind();
    plain();
    of();
    wild();
    variable();
    row();
    count();
    told();
    known();
    below();
    apart();
    isOfSimpleTypes();
    isWithWilds();
    isWithCaughtBounds();
    isUnchecked();
    may();
    mayWithArguments();
    mayWithRows();
    mayWithDeepRows();
    as();
    erased();
    good();
    refusalsChangeNothing();
    System.out.println(wrong == 0 ? "all promises hold" : wrong + " answers are not as due");
    if (wrong != 0) System.exit(1);
  }

  /** All that can be asked without changing anything. */
  private static List<Integer> picture(CaptureSubtypes x) {
    List<Integer> all = new ArrayList<>();
    int classes = x.count(0), types = x.count(1);
    all.add(classes);
    all.add(types);
    for (int c = 0; c < classes; c++) {
      for (int what = 0; what < 4; what++) all.add(x.known(c, what));
      for (int d = 0; d < classes; d++) {
        all.add(x.below(c, d));
        all.add(x.apart(c, d));
      }
    }
    for (int s = 0; s < types; s++) {
      for (int what = 0; what < 5; what++) all.add(x.told(s, what));
      for (int t = 0; t < types; t++) {
        all.add(x.is(s, t));
        all.add(x.may(s, t));
      }
      for (int d = 0; d < classes; d++) all.add(x.as(s, d));
      all.add(x.erased(s));
      all.add(x.good(s));
    }
    return all;
  }

  private static void newObject() {
    promise = 1;
    CaptureSubtypes x = new CaptureSubtypes();
    due("classes", x.count(0), 1);
    due("types", x.count(1), 3);
    due("OBJECT'S sort", x.told(OBJECT, 0), 0);
    due("OBJECT'S class", x.told(OBJECT, 1), 0);
    due("INT'S sort", x.told(INT, 0), 6);
    due("NULL'S sort", x.told(NULL, 0), 7);
    due("class 0's kind", x.known(0, 0), CLASS);
    due("class 0's parameters", x.known(0, 1), 0);
    due("class 0's heirs", x.known(0, 2), 0);
    due("below class 0", x.known(0, 3), 1);
    CaptureSubtypes y = new CaptureSubtypes();
    y.declare(CLASS, 1);
    y.plain(1);
    due("another object's classes", x.count(0), 1);
    due("another object's types", x.count(1), 3);
  }

  private static void clear() {
    promise = 2;
    CaptureSubtypes x = new CaptureSubtypes();
    due("clear a new one", x.clear(), 1);
    x.declare(FACE, 2);
    x.declare(SEALED, 1);
    x.bind(2, 0, x.plain(1));
    x.inherit(2, x.plain(1));
    x.row(x.of(1, x.wild(ANY, 0), x.variable(1, 1)));
    due("clear", x.clear(), 3);
    due("as a new one", picture(x).equals(picture(new CaptureSubtypes())) ? 1 : 0, 1);
    due("declare again", x.declare(CLASS, 1), 1);
    due("declare a second again", x.declare(CLASS, 1), 2);
    due("no super is left", x.below(2, 1), 0);
    due("heirs of OBJECT", x.known(0, 2), 2);
    due("types begin again", x.variable(2, 0), 3);
    due("no bound is left", x.erased(3), OBJECT);
    due("clear again", x.clear(), 3);
    due("a type is gone", x.told(3, 0), BAD);
    due("a class is gone", x.known(1, 0), BAD);
  }

  private static void declare() {
    promise = 3;
    CaptureSubtypes x = new CaptureSubtypes();
    due("kind -1", x.declare(-1, 0), BAD);
    due("kind 5", x.declare(5, 0), BAD);
    due("parameters -1", x.declare(0, -1), BAD);
    due("parameters 3", x.declare(0, 3), BAD);
    for (int far : FAR) {
      due("kind far off", x.declare(far, 0), BAD);
      due("parameters far off", x.declare(0, far), BAD);
    }
    due("none was made", x.count(0), 1);
    for (int c = 1; c <= 11; c++) {
      due("declare", x.declare(c % 5, c % 3), c);
      due("kind", x.known(c, 0), c % 5);
      due("parameters", x.known(c, 1), c % 3);
    }
    due("a thirteenth", x.declare(0, 0), FULL);
    due("BAD ahead of FULL", x.declare(5, 0), BAD);
    due("twelve", x.count(0), 12);
    due("declaring puts in no type", x.count(1), 3);
  }

  private static void inherit() {
    promise = 4;
    CaptureSubtypes x = new CaptureSubtypes();
    int face = x.declare(FACE, 1), base = x.declare(CLASS, 1), last = x.declare(LAST, 0);
    int sealed = x.declare(SEALED, 0), c = x.declare(CLASS, 1), mid = x.declare(FACE, 2);
    int later = x.declare(CLASS, 0);
    int v = x.variable(c, 0), other = x.variable(base, 0);
    int faceV = x.of(face, v, 0), baseRow = x.of(base, x.row(x.of(face, v, 0)), 0);
    int any = x.wild(ANY, 0), nested = x.of(base, x.of(face, any, 0), 0);
    due("class none", x.inherit(-1, faceV), BAD);
    due("class 7", x.inherit(7, faceV), BAD);
    for (int far : FAR) {
      due("class far off", x.inherit(far, faceV), BAD);
      due("type far off", x.inherit(c, far), BAD);
    }
    due("type that is none", x.inherit(c, x.count(1)), BAD);
    due("OBJECT", x.inherit(c, OBJECT), BAD);
    due("OBJECT for class 0", x.inherit(0, OBJECT), BAD);
    due("INT", x.inherit(c, INT), BAD);
    due("NULL", x.inherit(c, NULL), BAD);
    due("a VARIABLE", x.inherit(c, v), BAD);
    due("a ROW", x.inherit(c, x.row(x.plain(base))), BAD);
    due("WILD", x.inherit(c, any), BAD);
    due("a WILD argument", x.inherit(c, x.of(face, any, 0)), BAD);
    due("a WILD part further in", x.inherit(c, nested), BAD);
    due("a WILD part of a row", x.inherit(c, x.of(face, x.row(x.of(face, any, 0)), 0)), BAD);
    due("itself", x.inherit(c, x.plain(c)), BAD);
    due("a greater class", x.inherit(c, x.plain(later)), BAD);
    due("of KIND 1", x.inherit(c, x.plain(last)), BAD);
    due("another's VARIABLE", x.inherit(c, x.of(face, other, 0)), BAD);
    due("another's VARIABLE further in", x.inherit(c, x.of(face, x.row(other), 0)), BAD);
    due("an interface below a class", x.inherit(mid, x.plain(base)), BAD);
    due("an interface below a sealed class", x.inherit(mid, x.plain(sealed)), BAD);
    due("OBJECT'S heirs before", x.known(0, 2), 5);
    due("a face with own VARIABLE", x.inherit(c, faceV), 1);
    due("OBJECT is a super still", x.known(0, 2), 5);
    due("a class in place of OBJECT", x.inherit(c, baseRow), 2);
    due("OBJECT is none any more", x.known(0, 2), 4);
    due("a second class", x.inherit(c, x.plain(sealed)), FULL);
    due("the same class", x.inherit(c, baseRow), FULL);
    due("the same face again", x.inherit(c, faceV), 3);
    due("a third face", x.inherit(c, faceV), FULL);
    due("BAD ahead of FULL", x.inherit(c, INT), BAD);
    due("FULL ahead of CLASH", x.inherit(c, x.plain(face)), FULL);
    due("a face below a bare face", x.inherit(mid, x.plain(face)), 1);
    due("a face below a second one", x.inherit(mid, x.plain(face)), 2);
    due("a face below a third one", x.inherit(mid, x.plain(face)), FULL);
    due("a last class has supers", x.inherit(last, x.of(face, x.plain(last), 0)), 1);
    due("a sealed class as super", x.inherit(later, x.plain(sealed)), 1);
    due("below all along", x.below(c, face), 1);
    due("below the class", x.below(c, base), 1);
    due("an argument of its own class", x.as(x.plain(last), face), x.of(face, x.plain(last), 0));
  }

  private static void inheritClash() {
    promise = 4;
    CaptureSubtypes x = new CaptureSubtypes();
    int face = x.declare(FACE, 1), a = x.declare(CLASS, 0), b = x.declare(CLASS, 0);
    int heir = x.declare(LAST, 0), two = x.declare(FACE, 2);
    int ofA = x.of(face, x.plain(a), 0), ofB = x.of(face, x.plain(b), 0);
    due("a class that has the face", x.inherit(b, ofA), 1);
    due("another argument", x.inherit(b, ofB), CLASH);
    due("bare against arguments", x.inherit(b, x.plain(face)), CLASH);
    due("nothing was put in", x.inherit(b, ofA), 2);
    due("a heir of b", x.inherit(heir, x.plain(b)), 1);
    due("a heir of it", x.inherit(heir, ofB), CLASH);
    due("what it inherits once more", x.inherit(heir, ofA), 2);
    due("own VARIABLE 0", x.inherit(two, x.of(face, x.variable(two, 0), 0)), 1);
    due("own VARIABLE 1", x.inherit(two, x.of(face, x.variable(two, 1), 0)), CLASH);

    CaptureSubtypes y = new CaptureSubtypes();
    int root = y.declare(FACE, 1), left = y.declare(FACE, 0), right = y.declare(FACE, 0);
    int both = y.declare(FACE, 0);
    int one = y.of(root, y.plain(left), 0), other = y.of(root, y.plain(right), 0);
    due("the heir gets the left", y.inherit(both, y.plain(left)), 1);
    due("the heir gets the right", y.inherit(both, y.plain(right)), 2);
    due("left gets one", y.inherit(left, one), 1);
    due("by the heir right cannot get another", y.inherit(right, other), CLASH);
    due("nothing was put in", y.below(right, root), 0);
    due("nor counted", y.known(root, 2), 1);
    due("right gets the same", y.inherit(right, one), 1);
    due("the heir's view", y.as(y.plain(both), root), one);
  }

  private static void bind() {
    promise = 5;
    CaptureSubtypes x = new CaptureSubtypes();
    int face = x.declare(FACE, 1), c = x.declare(CLASS, 2), last = x.declare(LAST, 0);
    int sealedFace = x.declare(SEALED_FACE, 0), none = x.declare(CLASS, 0);
    int v0 = x.variable(c, 0), v1 = x.variable(c, 1), other = x.variable(face, 0);
    int any = x.wild(ANY, 0);
    int own = x.of(c, v0, v1), lastType = x.plain(last), sealedType = x.plain(sealedFace);
    due("class none", x.bind(-1, 0, lastType), BAD);
    due("class 6", x.bind(6, 0, lastType), BAD);
    due("parameter -1", x.bind(c, -1, lastType), BAD);
    due("parameter 2", x.bind(c, 2, lastType), BAD);
    due("parameter 1 of one", x.bind(face, 1, lastType), BAD);
    due("no parameters", x.bind(none, 0, lastType), BAD);
    due("OBJECT'S parameter", x.bind(0, 0, lastType), BAD);
    for (int far : FAR) {
      due("class far off", x.bind(far, 0, lastType), BAD);
      due("parameter far off", x.bind(c, far, lastType), BAD);
      due("type far off", x.bind(c, 0, far), BAD);
    }
    due("OBJECT", x.bind(c, 0, OBJECT), BAD);
    due("INT", x.bind(c, 0, INT), BAD);
    due("NULL", x.bind(c, 0, NULL), BAD);
    due("WILD", x.bind(c, 0, any), BAD);
    due("a ROW", x.bind(c, 0, x.row(lastType)), BAD);
    due("a WILD argument", x.bind(c, 0, x.of(face, any, 0)), BAD);
    due("a WILD part", x.bind(c, 0, x.of(face, x.of(face, any, 0), 0)), BAD);
    due("another's VARIABLE", x.bind(c, 1, other), BAD);
    due("another's VARIABLE as a part", x.bind(c, 1, x.of(face, other, 0)), BAD);
    due("VARIABLE 0 of itself", x.bind(c, 0, v0), BAD);
    due("VARIABLE 0 of 1", x.bind(c, 0, v1), BAD);
    due("VARIABLE 1 of itself", x.bind(c, 1, v1), BAD);
    due("VARIABLE 1 of 0", x.bind(c, 1, v0), 1);
    due("a second one that is a class", x.bind(c, 1, lastType), BAD);
    due("a second one that is a VARIABLE", x.bind(c, 1, v0), BAD);
    due("a second one", x.bind(c, 1, sealedType), 2);
    due("a third one", x.bind(c, 1, sealedType), FULL);
    due("BAD ahead of FULL", x.bind(c, 1, INT), BAD);
    due("a bound with itself in it", x.bind(c, 0, own), 1);
    due("with a greater VARIABLE in it", x.bind(c, 0, x.of(face, v1, 0)), 2);
    due("of the last kind", x.bind(face, 0, lastType), 1);
    due("parameter 0 IS its bound", x.is(v0, own), 1);
    due("and its second one", x.is(v0, x.of(face, v1, 0)), 1);
    due("parameter 1 IS parameter 0", x.is(v1, v0), 1);
    due("and what that is", x.is(v1, own), 1);
    due("and its second bound", x.is(v1, sealedType), 1);
    due("parameter 0 is not parameter 1", x.is(v0, v1), 0);
  }

  private static void plain() {
    promise = 6;
    CaptureSubtypes x = new CaptureSubtypes();
    due("OBJECT", x.plain(0), OBJECT);
    due("none", x.plain(1), BAD);
    due("a class that can never be", x.plain(12), BAD);
    x.declare(CLASS, 0);
    x.declare(CLASS, 2);
    for (int far : FAR) due("far off", x.plain(far), BAD);
    due("PLAIN", x.plain(1), 3);
    due("BARE", x.plain(2), 4);
    due("PLAIN as it is", x.plain(1), 3);
    due("BARE as it is", x.plain(2), 4);
    due("PLAIN'S sort", x.told(3, 0), 0);
    due("BARE'S sort", x.told(4, 0), 1);
    fill(x);
    x.declare(CLASS, 0);
    due("FULL", x.plain(x.count(0) - 1), FULL);
    due("BAD ahead of FULL", x.plain(12), BAD);
    due("there at 150", x.plain(2), 4);
  }

  /** Puts in types until there are 150; the classes in use get two more. */
  private static void fill(CaptureSubtypes x) {
    int one = x.declare(FACE, 2);
    for (int a = 0; a < x.count(1) && x.count(1) < 150; a++) {
      for (int b = 0; b <= a && x.count(1) < 150; b++) x.of(one, a, b);
    }
    due("filled", x.count(1), 150);
  }

  private static void of() {
    promise = 7;
    CaptureSubtypes x = new CaptureSubtypes();
    int none = x.declare(CLASS, 0), one = x.declare(FACE, 1), two = x.declare(FACE, 2);
    due("no parameters", x.of(none, 0, 0), BAD);
    due("OBJECT", x.of(0, 0, 0), BAD);
    due("no class", x.of(4, 0, 0), BAD);
    for (int far : FAR) {
      due("class far off", x.of(far, 0, 0), BAD);
      due("first far off", x.of(one, far, 0), BAD);
      due("first of two far off", x.of(two, far, 0), BAD);
      due("second far off", x.of(two, 0, far), BAD);
    }
    due("INT", x.of(one, INT, 0), BAD);
    due("NULL", x.of(one, NULL, 0), BAD);
    due("INT as the second", x.of(two, 0, INT), BAD);
    due("NULL as the second", x.of(two, 0, NULL), BAD);
    due("a type that is none", x.of(one, 3, 0), BAD);
    due("of OBJECT", x.of(one, 0, -7), 3);
    due("the second does not count", x.of(one, 0, 999), 3);
    due("two", x.of(two, 0, 3), 4);
    due("two the other way", x.of(two, 3, 0), 5);
    due("as it is", x.of(two, 0, 3), 4);
    due("WILD may stand there", x.of(two, x.wild(ANY, 0), 0), 7);
    due("a row may", x.of(one, x.row(INT), 0), 9);
    due("a VARIABLE may", x.of(one, x.variable(one, 0), 0), 11);
    due("BARE may", x.of(one, x.plain(one), 0), 13);
    due("depth 2", x.told(3, 4), 2);
    int t = 3;
    for (int deep = 3; deep <= 6; deep++) {
      t = x.of(one, t, 0);
      due("depth", x.told(t, 4), deep);
    }
    due("DEEP", x.of(one, t, 0), DEEP);
    due("DEEP by the second", x.of(two, 0, t), DEEP);
    due("DEEP by the first", x.of(two, t, 0), DEEP);
    due("the second does not count for depth", x.of(one, 0, t), 3);
    fill(x);
    due("FULL ahead of DEEP", x.of(one, t, 0), FULL);
    due("BAD ahead of FULL", x.of(one, INT, 0), BAD);
    due("there at 150", x.of(two, 3, 0), 5);
  }

  private static void wild() {
    promise = 8;
    CaptureSubtypes x = new CaptureSubtypes();
    int one = x.declare(FACE, 1);
    due("kind -1", x.wild(-1, 0), BAD);
    due("kind 3", x.wild(3, 0), BAD);
    due("any", x.wild(ANY, 0), 3);
    for (int far : FAR) {
      due("any, whatever the type", x.wild(ANY, far), 3);
      due("kind far off", x.wild(far, 0), BAD);
      due("up to far off", x.wild(UP, far), BAD);
      due("down to far off", x.wild(DOWN, far), BAD);
    }
    due("any, INT does not count", x.wild(ANY, INT), 3);
    due("up to INT", x.wild(UP, INT), BAD);
    due("up to NULL", x.wild(UP, NULL), BAD);
    due("down to INT", x.wild(DOWN, INT), BAD);
    due("down to NULL", x.wild(DOWN, NULL), BAD);
    due("up to WILD", x.wild(UP, 3), BAD);
    due("down to WILD", x.wild(DOWN, 3), BAD);
    due("up to OBJECT is not any", x.wild(UP, 0), 4);
    due("down to OBJECT", x.wild(DOWN, 0), 5);
    due("up to as it is", x.wild(UP, 0), 4);
    due("up to a row", x.wild(UP, x.row(INT)), 7);
    due("any is 1 deep", x.told(3, 4), 1);
    due("up to is 2 deep", x.told(4, 4), 2);
    int t = x.of(one, 4, 0);
    for (int deep = 4; deep <= 6; deep++) t = x.row(t);
    due("6 deep", x.told(t, 4), 6);
    due("DEEP up to", x.wild(UP, t), DEEP);
    due("DEEP down to", x.wild(DOWN, t), DEEP);
    fill(x);
    due("FULL ahead of DEEP", x.wild(UP, t), FULL);
    due("BAD ahead of FULL", x.wild(UP, INT), BAD);
    due("there at 150", x.wild(DOWN, 0), 5);
  }

  private static void variable() {
    promise = 9;
    CaptureSubtypes x = new CaptureSubtypes();
    int none = x.declare(CLASS, 0), one = x.declare(FACE, 1), two = x.declare(FACE, 2);
    due("no parameters", x.variable(none, 0), BAD);
    due("OBJECT", x.variable(0, 0), BAD);
    due("parameter 1 of one", x.variable(one, 1), BAD);
    due("parameter 2 of two", x.variable(two, 2), BAD);
    due("parameter -1", x.variable(two, -1), BAD);
    due("no class", x.variable(4, 0), BAD);
    for (int far : FAR) {
      due("class far off", x.variable(far, 0), BAD);
      due("parameter far off", x.variable(two, far), BAD);
    }
    due("the first of one", x.variable(one, 0), 3);
    due("the second of two", x.variable(two, 1), 4);
    due("the first of two", x.variable(two, 0), 5);
    due("as it is", x.variable(two, 1), 4);
    x.declare(CLASS, 1);
    fill(x);
    due("FULL", x.variable(4, 0), FULL);
    due("BAD ahead of FULL", x.variable(4, 1), BAD);
    due("there at 150", x.variable(one, 0), 3);
  }

  private static void row() {
    promise = 10;
    CaptureSubtypes x = new CaptureSubtypes();
    int any = x.wild(ANY, 0);
    due("NULL", x.row(NULL), BAD);
    due("WILD", x.row(any), BAD);
    due("none", x.row(4), BAD);
    for (int far : FAR) due("far off", x.row(far), BAD);
    due("of INT", x.row(INT), 4);
    due("of OBJECT", x.row(OBJECT), 5);
    due("as it is", x.row(INT), 4);
    int t = 5;
    for (int deep = 3; deep <= 6; deep++) t = x.row(t);
    due("6 deep", x.told(t, 4), 6);
    due("DEEP", x.row(t), DEEP);
    fill(x);
    due("FULL ahead of DEEP", x.row(t), FULL);
    due("BAD ahead of FULL", x.row(NULL), BAD);
    due("there at 150", x.row(OBJECT), 5);
  }

  private static void count() {
    promise = 11;
    CaptureSubtypes x = new CaptureSubtypes();
    x.declare(FACE, 1);
    x.declare(FACE, 1);
    x.wild(ANY, 0);
    x.plain(1);
    x.plain(1);
    due("classes", x.count(0), 3);
    due("types, WILD ones too", x.count(1), 5);
    due("-1", x.count(-1), BAD);
    due("2", x.count(2), BAD);
    for (int far : FAR) due("far off", x.count(far), BAD);
  }

  private static void told() {
    promise = 12;
    CaptureSubtypes x = new CaptureSubtypes();
    int one = x.declare(FACE, 1), two = x.declare(CLASS, 2), none = x.declare(LAST, 0);
    int plain = x.plain(none), bare = x.plain(two), v = x.variable(two, 1);
    int any = x.wild(ANY, 7), up = x.wild(UP, plain), down = x.wild(DOWN, v);
    int ofOne = x.of(one, up, 0), ofTwo = x.of(two, down, ofOne), row = x.row(ofTwo);
    toldAll(x, "OBJECT", OBJECT, 0, 0, NONE, NONE, 1);
    toldAll(x, "INT", INT, 6, NONE, NONE, NONE, 1);
    toldAll(x, "NULL", NULL, 7, NONE, NONE, NONE, 1);
    toldAll(x, "PLAIN", plain, 0, none, NONE, NONE, 1);
    toldAll(x, "BARE", bare, 1, two, NONE, NONE, 1);
    toldAll(x, "VARIABLE", v, 3, two, 1, NONE, 1);
    toldAll(x, "any", any, 5, ANY, NONE, NONE, 1);
    toldAll(x, "up to", up, 5, UP, plain, NONE, 2);
    toldAll(x, "down to", down, 5, DOWN, v, NONE, 2);
    toldAll(x, "of one", ofOne, 2, one, up, NONE, 3);
    toldAll(x, "of two", ofTwo, 2, two, down, ofOne, 4);
    toldAll(x, "ROW", row, 4, NONE, ofTwo, NONE, 5);
    due("what -1", x.told(row, -1), BAD);
    due("what 5", x.told(row, 5), BAD);
    due("no type", x.told(row + 1, 0), BAD);
    for (int far : FAR) {
      due("type far off", x.told(far, 0), BAD);
      due("what far off", x.told(OBJECT, far), BAD);
    }
  }

  private static void toldAll(CaptureSubtypes x, String name, int t, int sort, int cls, int first,
      int second, int deep) {
    due(name + "'s sort", x.told(t, 0), sort);
    due(name + "'s class", x.told(t, 1), cls);
    due(name + "'s first", x.told(t, 2), first);
    due(name + "'s second", x.told(t, 3), second);
    due(name + "'s depth", x.told(t, 4), deep);
  }

  private static void known() {
    promise = 13;
    CaptureSubtypes x = new CaptureSubtypes();
    int face = x.declare(FACE, 1), base = x.declare(SEALED, 2), c = x.declare(CLASS, 0);
    int d = x.declare(LAST, 0);
    due("heirs of OBJECT: the classes, not the interface", x.known(0, 2), 3);
    due("below OBJECT: all", x.known(0, 3), 5);
    x.inherit(base, x.plain(face));
    x.inherit(c, x.plain(base));
    x.inherit(d, x.plain(c));
    x.inherit(d, x.plain(face));
    x.inherit(d, x.plain(face));
    due("kind", x.known(base, 0), SEALED);
    due("parameters", x.known(base, 1), 2);
    due("heirs of OBJECT", x.known(0, 2), 1);
    due("heirs of the face: each once", x.known(face, 2), 2);
    due("below the face", x.known(face, 3), 4);
    due("heirs of base", x.known(base, 2), 1);
    due("below base", x.known(base, 3), 3);
    due("heirs of the last", x.known(d, 2), 0);
    due("below the last: itself", x.known(d, 3), 1);
    due("what -1", x.known(0, -1), BAD);
    due("what 4", x.known(0, 4), BAD);
    due("no class", x.known(5, 0), BAD);
    for (int far : FAR) {
      due("class far off", x.known(far, 0), BAD);
      due("what far off", x.known(0, far), BAD);
    }
  }

  private static void below() {
    promise = 14;
    CaptureSubtypes x = new CaptureSubtypes();
    int face = x.declare(FACE, 0), sub = x.declare(FACE, 0), c = x.declare(CLASS, 0);
    int alone = x.declare(SEALED_FACE, 0);
    x.inherit(sub, x.plain(face));
    x.inherit(c, x.plain(sub));
    due("itself", x.below(c, c), 1);
    due("its super", x.below(c, sub), 1);
    due("its super's super", x.below(c, face), 1);
    due("not the other way", x.below(face, c), 0);
    due("an interface below OBJECT", x.below(alone, 0), 1);
    due("OBJECT below OBJECT", x.below(0, 0), 1);
    due("OBJECT below none else", x.below(0, alone), 0);
    due("a stranger", x.below(c, alone), 0);
    for (int far : FAR) {
      due("first far off", x.below(far, 0), BAD);
      due("second far off", x.below(0, far), BAD);
    }
    due("no class", x.below(5, 0), BAD);
  }

  private static void apart() {
    promise = 15;
    CaptureSubtypes x = new CaptureSubtypes();
    int face = x.declare(FACE, 0), other = x.declare(FACE, 0), a = x.declare(CLASS, 0);
    int family = x.declare(SEALED_FACE, 0), b = x.declare(CLASS, 0), last = x.declare(LAST, 0);
    int top = x.declare(SEALED, 0), child = x.declare(SEALED, 0), leaf = x.declare(CLASS, 0);
    due("itself", x.apart(a, a), 0);
    due("OBJECT", x.apart(0, face), 0);
    due("two classes", x.apart(a, b), 1);
    due("two interfaces", x.apart(face, other), 0);
    due("class and interface", x.apart(a, face), 0);
    due("interface and class", x.apart(face, a), 0);
    due("last class and interface", x.apart(last, face), 1);
    due("interface and last class", x.apart(face, last), 1);
    due("sealed without heirs: all of none", x.apart(family, face), 1);
    due("the other way", x.apart(face, family), 1);
    x.inherit(last, x.plain(family));
    due("the heir is apart, so is the family", x.apart(family, face), 1);
    due("the heir itself is below", x.apart(last, family), 0);
    x.inherit(b, x.plain(family));
    due("an open heir", x.apart(family, face), 0);
    due("the other way", x.apart(face, family), 0);
    due("a class that is no heir", x.apart(family, a), 1);
    x.inherit(child, x.plain(top));
    due("sealed over sealed over none", x.apart(top, face), 1);
    x.inherit(leaf, x.plain(child));
    due("sealed over sealed over an open one", x.apart(top, face), 0);
    due("two families with no heir in both", x.apart(top, family), 1);
    x.inherit(leaf, x.plain(family));
    due("a heir in both", x.apart(top, family), 0);
    due("a heir in both, the other way", x.apart(family, top), 0);
    int newest = x.declare(CLASS, 0);
    due("the class declared last", x.apart(newest, a), 1);
    due("the class declared last, the other way", x.apart(a, newest), 1);
    due("itself", x.apart(newest, newest), 0);
    for (int far : FAR) {
      due("first far off", x.apart(far, 0), BAD);
      due("second far off", x.apart(0, far), BAD);
    }
    due("no class", x.apart(x.count(0), 0), BAD);
  }

  private static void isOfSimpleTypes() {
    promise = 16;
    CaptureSubtypes x = new CaptureSubtypes();
    int face = x.declare(FACE, 0), c = x.declare(CLASS, 2), d = x.declare(CLASS, 0);
    int faceType = x.plain(face), bare = x.plain(c), dType = x.plain(d);
    int v0 = x.variable(c, 0), v1 = x.variable(c, 1), any = x.wild(ANY, 0);
    x.inherit(d, faceType);
    x.bind(c, 0, dType);
    x.bind(c, 1, v0);
    int ints = x.row(INT), objects = x.row(OBJECT), faces = x.row(faceType), ds = x.row(dType);
    int vs = x.row(v1), grid = x.row(ints);
    due("below", x.is(dType, faceType), 1);
    due("not above", x.is(faceType, dType), 0);
    due("OBJECT is OBJECT", x.is(OBJECT, OBJECT), 1);
    due("OBJECT is none else", x.is(OBJECT, faceType), 0);
    due("NULL is a class", x.is(NULL, dType), 1);
    due("NULL is a VARIABLE", x.is(NULL, v0), 1);
    due("NULL is a row", x.is(NULL, ints), 1);
    due("NULL is NULL", x.is(NULL, NULL), 1);
    due("NULL is not INT", x.is(NULL, INT), 0);
    due("none else is NULL", x.is(OBJECT, NULL), 0);
    due("INT is INT", x.is(INT, INT), 1);
    due("INT is not OBJECT", x.is(INT, OBJECT), 0);
    due("a row is OBJECT", x.is(ints, OBJECT), 1);
    due("an interface is OBJECT", x.is(faceType, OBJECT), 1);
    due("a VARIABLE is its bound's", x.is(v0, faceType), 1);
    due("a VARIABLE by a VARIABLE", x.is(v1, faceType), 1);
    due("a VARIABLE is a VARIABLE", x.is(v1, v0), 1);
    due("nothing is a VARIABLE without low", x.is(dType, v0), 0);
    due("rows as what they are of", x.is(ds, faces), 1);
    due("rows not the other way", x.is(faces, ds), 0);
    due("rows of VARIABLES", x.is(vs, ds), 1);
    due("a row of INT is no row of OBJECT", x.is(ints, objects), 0);
    due("a row of OBJECT is no row of INT", x.is(objects, ints), 0);
    due("a row of rows is a row of OBJECT", x.is(grid, objects), 1);
    due("a row is of no class", x.is(ds, dType), 0);
    due("a class is no row", x.is(dType, ds), 0);
    due("bare", x.is(bare, bare), 1);
    due("WILD first", x.is(any, OBJECT), BAD);
    due("WILD second", x.is(OBJECT, any), BAD);
    due("no type", x.is(x.count(1), 0), BAD);
    for (int far : FAR) {
      due("first far off", x.is(far, 0), BAD);
      due("second far off", x.is(0, far), BAD);
    }
  }

  private static void isWithWilds() {
    promise = 16;
    CaptureSubtypes x = new CaptureSubtypes();
    int list = x.declare(FACE, 1), sub = x.declare(FACE, 1), a = x.declare(CLASS, 0);
    int b = x.declare(CLASS, 0), cmp = x.declare(FACE, 1), own = x.declare(CLASS, 1);
    int aType = x.plain(a), bType = x.plain(b);
    x.inherit(b, aType);
    x.inherit(sub, x.of(list, x.variable(sub, 0), 0));
    x.inherit(own, x.of(cmp, x.of(own, x.variable(own, 0), 0), 0));
    int any = x.wild(ANY, 0), upA = x.wild(UP, aType), upB = x.wild(UP, bType);
    int downA = x.wild(DOWN, aType), downB = x.wild(DOWN, bType);
    int listA = x.of(list, aType, 0), listB = x.of(list, bType, 0), listAny = x.of(list, any, 0);
    int listUpA = x.of(list, upA, 0), listDownA = x.of(list, downA, 0);
    int listDownB = x.of(list, downB, 0), subUpB = x.of(sub, upB, 0), subB = x.of(sub, bType, 0);
    int subDownA = x.of(sub, downA, 0), subAny = x.of(sub, any, 0);
    due("the same argument", x.is(subB, listB), 1);
    due("another argument", x.is(listB, listA), 0);
    due("any", x.is(subB, listAny), 1);
    due("up to", x.is(subB, listUpA), 1);
    due("down to", x.is(listA, listDownB), 1);
    due("not down to", x.is(listB, listDownA), 0);
    due("up to what is up to less", x.is(subUpB, listUpA), 1);
    due("not the other way", x.is(x.of(sub, upA, 0), x.of(list, upB, 0)), 0);
    due("a caught one is not the argument", x.is(subUpB, listB), 0);
    due("down to what is down to more", x.is(subDownA, listDownB), 1);
    due("not down to less", x.is(x.of(sub, downB, 0), listDownA), 0);
    due("any is up to OBJECT", x.is(subAny, x.of(list, x.wild(UP, OBJECT), 0)), 1);
    due("any is not down to", x.is(subAny, listDownA), 0);
    due("any is any", x.is(subAny, listAny), 1);
    int deep = x.of(list, x.wild(UP, listUpA), 0);
    due("nested wilds", x.is(x.of(sub, x.of(list, upB, 0), 0), deep), 1);
    due("nested, caught", x.is(x.of(sub, x.wild(UP, x.of(sub, upB, 0)), 0), deep), 1);
    due("nested without the outer wild", x.is(x.of(list, listB, 0), x.of(list, listUpA, 0)), 0);
    due("the same, with wilds", x.is(listUpA, listUpA), 1);
    int ownAny = x.of(own, any, 0);
    due("each catch is new", x.is(ownAny, x.of(cmp, x.wild(DOWN, ownAny), 0)), 0);
    due("up to the wild one", x.is(ownAny, x.of(cmp, x.wild(UP, ownAny), 0)), 1);
    int ownA = x.of(own, aType, 0);
    due("down to itself", x.is(ownA, x.of(cmp, x.wild(DOWN, ownA), 0)), 1);
    due("a row of such", x.is(x.row(subUpB), x.row(listUpA)), 1);
    due("a row is not of its argument", x.is(x.row(aType), listA), 0);
    due("nor the other way", x.is(listA, x.row(aType)), 0);
    int listDownObject = x.of(list, x.wild(DOWN, OBJECT), 0);
    due("down to OBJECT", x.is(x.of(list, OBJECT, 0), listDownObject), 1);
    due("down to OBJECT, caught", x.is(x.of(sub, x.wild(DOWN, OBJECT), 0), listDownObject), 1);
  }

  private static void isWithCaughtBounds() {
    promise = 16;
    CaptureSubtypes x = new CaptureSubtypes();
    int list = x.declare(FACE, 1), a = x.declare(FACE, 0), b = x.declare(FACE, 0);
    int pair = x.declare(CLASS, 2), self = x.declare(CLASS, 1), two = x.declare(FACE, 1);
    int aType = x.plain(a), bType = x.plain(b);
    int v0 = x.variable(pair, 0), v1 = x.variable(pair, 1), s = x.variable(self, 0);
    x.bind(pair, 0, aType);
    x.bind(pair, 1, x.of(list, v0, 0));
    x.bind(self, 0, x.of(self, s, 0));
    x.bind(two, 0, aType);
    x.bind(two, 0, bType);
    x.inherit(pair, x.of(list, v1, 0));
    x.inherit(two, x.of(list, x.variable(two, 0), 0));
    int any = x.wild(ANY, 0), upA = x.wild(UP, aType), upB = x.wild(UP, bType);
    int listUpA = x.of(list, upA, 0), listUpB = x.of(list, upB, 0);
    due("any has the parameter's first bound", x.is(x.of(two, any, 0), listUpA), 1);
    due("and its second", x.is(x.of(two, any, 0), listUpB), 1);
    due("up to comes with the bounds", x.is(x.of(two, upB, 0), listUpA), 1);
    int strange = x.of(two, x.wild(UP, x.of(list, any, 0)), 0);
    due("up to comes ahead of the first bound", x.is(strange, listUpA), 1);
    due("and of the second", x.is(strange, listUpB), 1);
    due("and is one of them", x.is(strange, x.of(list, x.wild(UP, x.of(list, any, 0)), 0)), 1);
    due("OBJECT beside a caught one", x.is(x.of(pair, OBJECT, any), x.of(list, any, 0)), 1);
    due("a caught one beside OBJECT",
        x.is(x.of(pair, any, OBJECT), x.of(list, OBJECT, 0)), 1);
    int both = x.of(pair, any, any), listListUpA = x.of(list, x.wild(UP, listUpA), 0);
    due("bounds with the caught one put in", x.is(both, listListUpA), 1);
    due("bounds with an argument put in",
        x.is(x.of(pair, bType, any), x.of(list, x.wild(UP, x.of(list, bType, 0)), 0)), 1);
    due("not another one",
        x.is(x.of(pair, bType, any), x.of(list, x.wild(UP, x.of(list, aType, 0)), 0)), 0);
    int selfAny = x.of(self, any, 0);
    due("a bound of itself", x.is(selfAny, x.of(self, x.wild(UP, selfAny), 0)), 1);
    due("twice", x.is(selfAny, x.of(self, x.wild(UP, x.of(self, x.wild(UP, selfAny), 0)), 0)), 1);
    due("the VARIABLE itself", x.is(s, selfAny), 1);
  }

  private static void isUnchecked() {
    promise = 16;
    CaptureSubtypes x = new CaptureSubtypes();
    int list = x.declare(FACE, 1), sub = x.declare(FACE, 1), rawHeir = x.declare(CLASS, 1);
    int a = x.declare(CLASS, 0), v = x.declare(CLASS, 2);
    int aType = x.plain(a), any = x.wild(ANY, 0);
    x.inherit(sub, x.of(list, x.variable(sub, 0), 0));
    x.inherit(rawHeir, x.plain(list));
    int bare = x.plain(list), bareSub = x.plain(sub), listA = x.of(list, aType, 0);
    x.bind(v, 0, bareSub);
    x.bind(v, 1, x.variable(v, 0));
    due("bare to arguments", x.is(bare, listA), 2);
    due("bare below", x.is(bareSub, listA), 2);
    due("bare to any", x.is(bareSub, x.of(list, any, 0)), 2);
    due("arguments over a bare super", x.is(x.of(rawHeir, aType, 0), listA), 2);
    due("wild over a bare super", x.is(x.of(rawHeir, any, 0), listA), 2);
    due("a VARIABLE'S bound", x.is(x.variable(v, 0), listA), 2);
    due("a VARIABLE'S VARIABLE'S bound", x.is(x.variable(v, 1), listA), 2);
    due("bare to bare IS", x.is(bareSub, bare), 1);
    due("arguments to bare IS", x.is(listA, bare), 1);
    due("bare to a lower class", x.is(bare, x.of(sub, aType, 0)), 0);
    due("rows are not unchecked", x.is(x.row(bare), x.row(listA)), 0);
    due("arguments that are not the same", x.is(x.of(sub, 0, 0), listA), 0);
    due("NULL IS", x.is(NULL, listA), 1);
    due("a VARIABLE without bounds", x.is(x.variable(list, 0), listA), 0);
  }

  private static void may() {
    promise = 17;
    CaptureSubtypes x = new CaptureSubtypes();
    int face = x.declare(FACE, 0), other = x.declare(FACE, 0), a = x.declare(CLASS, 0);
    int b = x.declare(CLASS, 0), last = x.declare(LAST, 0), c = x.declare(CLASS, 2);
    int faceType = x.plain(face), otherType = x.plain(other), aType = x.plain(a);
    int bType = x.plain(b), lastType = x.plain(last), any = x.wild(ANY, 0);
    x.inherit(b, aType);
    x.bind(c, 0, aType);
    x.bind(c, 0, faceType);
    int v0 = x.variable(c, 0), v1 = x.variable(c, 1);
    due("up", x.may(bType, aType), 1);
    due("down", x.may(aType, bType), 1);
    due("two interfaces", x.may(faceType, otherType), 1);
    due("class and interface", x.may(aType, faceType), 1);
    due("last class and interface", x.may(lastType, faceType), 0);
    due("two classes", x.may(aType, lastType), 0);
    due("NULL", x.may(NULL, aType), 1);
    due("NULL to INT", x.may(NULL, INT), 0);
    due("INT to INT", x.may(INT, INT), 1);
    due("INT to OBJECT", x.may(INT, OBJECT), 0);
    due("OBJECT to INT", x.may(OBJECT, INT), 0);
    due("a VARIABLE to INT", x.may(v1, INT), 0);
    due("OBJECT to all", x.may(OBJECT, lastType), 1);
    due("a VARIABLE: its bounds may", x.may(v0, otherType), 1);
    due("a VARIABLE: a class bound may not", x.may(v0, lastType), 0);
    due("into a VARIABLE", x.may(otherType, v0), 1);
    due("into a VARIABLE: a bound that may not", x.may(lastType, v0), 0);
    due("a VARIABLE without bounds", x.may(v1, lastType), 1);
    due("into one without bounds", x.may(lastType, v1), 1);
    due("VARIABLES", x.may(v1, v0), 1);
    due("WILD first", x.may(any, aType), BAD);
    due("WILD second", x.may(aType, any), BAD);
    due("to NULL", x.may(aType, NULL), BAD);
    due("NULL to NULL", x.may(NULL, NULL), BAD);
    due("no type", x.may(0, x.count(1)), BAD);
    for (int far : FAR) {
      due("first far off", x.may(far, 0), BAD);
      due("second far off", x.may(0, far), BAD);
    }
  }

  private static void mayWithArguments() {
    promise = 17;
    CaptureSubtypes x = new CaptureSubtypes();
    int list = x.declare(FACE, 1), sub = x.declare(FACE, 1), a = x.declare(CLASS, 0);
    int b = x.declare(CLASS, 0), d = x.declare(CLASS, 0), face = x.declare(FACE, 0);
    int left = x.declare(FACE, 0), right = x.declare(CLASS, 1), bound = x.declare(FACE, 1);
    int aType = x.plain(a), bType = x.plain(b), dType = x.plain(d), faceType = x.plain(face);
    x.inherit(b, aType);
    x.inherit(sub, x.of(list, x.variable(sub, 0), 0));
    int listA = x.of(list, aType, 0), listB = x.of(list, bType, 0), subB = x.of(sub, bType, 0);
    int any = x.wild(ANY, 0), upA = x.wild(UP, aType), upB = x.wild(UP, bType);
    int upD = x.wild(UP, dType);
    x.inherit(left, listA);
    x.inherit(right, x.of(list, x.variable(right, 0), 0));
    x.bind(bound, 0, faceType);
    x.bind(right, 0, aType);
    int v = x.variable(right, 0), w = x.variable(bound, 0), free = x.variable(sub, 0);
    due("other arguments", x.may(listA, listB), 0);
    due("other arguments below", x.may(subB, listA), 0);
    due("down with the same argument", x.may(listB, subB), 1);
    due("to any", x.may(listA, x.of(sub, any, 0)), 1);
    due("up to it", x.may(listA, x.of(sub, upA, 0)), 1);
    due("up to less: neither shows that they differ", x.may(listA, x.of(sub, upB, 0)), 1);
    due("up to a stranger", x.may(listA, x.of(sub, upD, 0)), 0);
    due("two wilds", x.may(x.of(list, upA, 0), x.of(sub, upB, 0)), 1);
    due("two wilds of strangers", x.may(x.of(list, upA, 0), x.of(list, upD, 0)), 0);
    due("down to a stranger", x.may(listA, x.of(list, x.wild(DOWN, dType), 0)), 1);
    due("up to a stranger interface", x.may(listA, x.of(list, x.wild(UP, faceType), 0)), 0);
    due("bare", x.may(x.plain(list), subB), 1);
    due("a class in the middle", x.may(x.plain(left), x.of(right, aType, 0)), 1);
    due("a class in the middle that differs", x.may(x.plain(left), x.of(right, bType, 0)), 0);
    due("the other way", x.may(x.of(right, bType, 0), x.plain(left)), 0);
    due("bare in the middle", x.may(x.plain(left), x.plain(right)), 1);
    due("a VARIABLE argument", x.may(x.of(list, v, 0), listA), 1);
    due("one whose bound differs", x.may(x.of(list, v, 0), x.of(list, dType, 0)), 0);
    due("two whose bounds differ", x.may(x.of(list, v, 0), x.of(list, w, 0)), 0);
    due("one without bound", x.may(x.of(list, v, 0), x.of(list, free, 0)), 1);
    due("erased bounds", x.may(x.of(list, x.wild(UP, listA), 0), x.of(list, listB, 0)), 1);
    due("arguments with wild parts",
        x.may(x.of(list, x.of(list, any, 0), 0), x.of(list, listB, 0)), 0);
    due("any with a parameter's bound", x.may(x.of(right, any, 0), x.of(list, dType, 0)), 0);
    due("a row and what is of its argument", x.may(x.row(aType), listA), 0);
    int two = x.declare(FACE, 2);
    due("the second argument differs", x.may(x.of(two, any, aType), x.of(two, aType, bType)), 0);
    due("the first argument differs", x.may(x.of(two, bType, any), x.of(two, aType, aType)), 0);
    due("neither differs", x.may(x.of(two, bType, any), x.of(two, any, aType)), 1);
  }

  private static void mayWithRows() {
    promise = 17;
    CaptureSubtypes x = new CaptureSubtypes();
    int a = x.declare(CLASS, 0), b = x.declare(CLASS, 0), face = x.declare(FACE, 0);
    int c = x.declare(CLASS, 2);
    x.bind(c, 1, x.plain(face));
    int aRow = x.row(x.plain(a)), bRow = x.row(x.plain(b)), faceRow = x.row(x.plain(face));
    int ints = x.row(INT), free = x.variable(c, 0), bound = x.variable(c, 1);
    due("rows of what may", x.may(aRow, faceRow), 1);
    due("rows of what may not", x.may(aRow, bRow), 0);
    due("a row of INT", x.may(ints, aRow), 0);
    due("into a row of INT", x.may(aRow, ints), 0);
    due("a row of INT to itself", x.may(ints, ints), 1);
    due("into a row of OBJECT", x.may(ints, x.row(OBJECT)), 0);
    due("a row of rows", x.may(x.row(ints), x.row(OBJECT)), 1);
    due("a row and OBJECT", x.may(OBJECT, ints), 1);
    due("a row and a class", x.may(aRow, x.plain(a)), 0);
    due("an interface and a row", x.may(x.plain(face), aRow), 0);
    due("a row and a VARIABLE", x.may(aRow, free), 1);
    due("a row and a VARIABLE with a bound", x.may(aRow, bound), 0);
    due("a VARIABLE and a row", x.may(free, aRow), 1);
    due("a VARIABLE with a bound and a row", x.may(bound, aRow), 0);
    due("rows of VARIABLES", x.may(x.row(free), x.row(bound)), 1);
  }

  private static int rows(CaptureSubtypes x, int type, int times) {
    int t = type;
    for (int k = 0; k < times; k++) t = x.row(t);
    return t;
  }

  /** All twelve CLASSES in a chain, each step 4 ROWS: AS 1 is of an ARGUMENT 40 ROWS deeper. */
  private static void mayWithDeepRows() {
    promise = 17;
    CaptureSubtypes x = new CaptureSubtypes();
    for (int c = 1; c <= 10; c++) x.declare(FACE, 1);
    int low = x.declare(FACE, 2), name = x.plain(1);
    for (int c = 2; c <= low; c++) {
      due("a step of 4 rows", x.inherit(c, x.of(c - 1, rows(x, x.variable(c, 0), 4), 0)), 1);
    }
    due("a bound", x.bind(low, 1, name), 1);
    int any = x.wild(ANY, 0), free = x.of(1, x.variable(low, 0), 0);
    int bound = x.of(1, x.variable(low, 1), 0), ofAny = x.of(1, any, 0);
    int threeRows = x.of(1, x.wild(UP, rows(x, OBJECT, 3)), 0);
    int threeNames = x.of(1, x.wild(UP, rows(x, name, 3)), 0);
    int[] firsts = {
      OBJECT, rows(x, OBJECT, 4), rows(x, INT, 4), rows(x, name, 4), any, x.variable(low, 0),
      x.variable(low, 1), x.wild(UP, rows(x, OBJECT, 3)), x.wild(UP, rows(x, INT, 3)),
      x.wild(UP, rows(x, x.variable(low, 1), 3)), x.wild(DOWN, rows(x, name, 3))
    };
    for (int first : firsts) {
      int deep = x.of(low, first, any);
      due("deep rows and a VARIABLE", x.may(deep, free), 1);
      due("a VARIABLE and deep rows", x.may(free, deep), 1);
      due("deep rows are no VARIABLE", x.is(deep, free), 0);
      due("deep rows and a VARIABLE with a bound", x.may(deep, bound), 0);
      due("a VARIABLE with a bound and deep rows", x.may(bound, deep), 0);
      due("deep rows and any", x.may(deep, ofAny), 1);
      due("any and deep rows", x.may(ofAny, deep), 1);
      due("deep rows up to fewer", x.is(deep, threeRows), 1);
      due("fewer down to deep rows", x.may(threeRows, deep), 1);
      due("deep rows and fewer of another", x.may(deep, threeNames), 0);
      due("fewer of another and deep rows", x.may(threeNames, deep), 0);
      due("deep rows and fewer, no VARIABLE", x.may(deep, x.of(1, rows(x, OBJECT, 3), 0)), 0);
    }
  }

  private static void as() {
    promise = 18;
    CaptureSubtypes x = new CaptureSubtypes();
    int pair = x.declare(FACE, 2), mid = x.declare(FACE, 1), c = x.declare(CLASS, 2);
    int d = x.declare(CLASS, 0), v = x.variable(mid, 0), w = x.variable(c, 1);
    x.inherit(mid, x.of(pair, x.row(v), v));
    x.inherit(c, x.of(mid, w, 0));
    int dType = x.plain(d), ofC = x.of(c, OBJECT, dType), bareC = x.plain(c);
    int any = x.wild(ANY, 0);
    due("OBJECT", x.as(ofC, 0), OBJECT);
    due("itself", x.as(ofC, c), ofC);
    due("no type that is there", x.as(ofC, mid), FULL);
    due("nothing was put in", x.as(ofC, mid), FULL);
    int midD = x.of(mid, dType, 0);
    due("its super", x.as(ofC, mid), midD);
    due("two up, a row is not there", x.as(ofC, pair), FULL);
    int rowD = x.row(dType);
    due("two up, not there with its row", x.as(ofC, pair), FULL);
    int pairD = x.of(pair, rowD, dType);
    due("two up, there", x.as(ofC, pair), pairD);
    due("bare: not there", x.as(bareC, pair), FULL);
    int objects = x.of(c, dType, OBJECT), rows = x.of(pair, x.row(OBJECT), OBJECT);
    due("OBJECT put in", x.as(objects, pair), rows);
    int barePair = x.plain(pair);
    due("bare: there", x.as(bareC, pair), barePair);
    due("bare itself", x.as(bareC, c), bareC);
    int nested = x.of(mid, x.of(mid, any, 0), 0);
    due("wild parts further in may stand", x.as(nested, mid), nested);
    due("not below", x.as(dType, mid), NONE);
    due("not above", x.as(midD, c), NONE);
    due("OBJECT not below", x.as(OBJECT, mid), NONE);
    due("OBJECT as OBJECT", x.as(OBJECT, 0), OBJECT);
    due("INT", x.as(INT, 0), NONE);
    due("NULL", x.as(NULL, 0), NONE);
    due("a VARIABLE", x.as(w, 0), NONE);
    due("a ROW", x.as(rowD, 0), NONE);
    due("WILD", x.as(any, 0), BAD);
    due("a WILD argument", x.as(x.of(mid, any, 0), mid), BAD);
    due("a WILD second argument", x.as(x.of(c, OBJECT, any), c), BAD);
    due("a WILD argument, not below", x.as(x.of(mid, any, 0), d), BAD);
    due("no class", x.as(ofC, 5), BAD);
    due("no type", x.as(x.count(1), 0), BAD);
    for (int far : FAR) {
      due("type far off", x.as(far, 0), BAD);
      due("class far off", x.as(OBJECT, far), BAD);
    }
    firstSuperCounts();
  }

  /** Of a bare one SUPERS may lead to different views: that of the class comes ahead. */
  private static void firstSuperCounts() {
    CaptureSubtypes x = new CaptureSubtypes();
    int root = x.declare(FACE, 1), face = x.declare(FACE, 1), base = x.declare(CLASS, 0);
    int c = x.declare(CLASS, 1), bareRoot = x.plain(root), ofObject = x.of(root, OBJECT, 0);
    x.inherit(face, ofObject);
    x.inherit(base, ofObject);
    int bareC = x.plain(c);
    x.inherit(c, x.of(face, x.variable(c, 0), 0));
    due("by the bare face", x.as(bareC, root), bareRoot);
    due("of arguments: as it stands", x.as(x.of(c, OBJECT, 0), root), ofObject);
    x.inherit(c, x.plain(base));
    due("by the class, put in later", x.as(bareC, root), ofObject);
  }

  private static void erased() {
    promise = 19;
    CaptureSubtypes x = new CaptureSubtypes();
    int list = x.declare(FACE, 1), a = x.declare(CLASS, 0), c = x.declare(CLASS, 2);
    int aType = x.plain(a), v0 = x.variable(c, 0), v1 = x.variable(c, 1), any = x.wild(ANY, 0);
    int listAny = x.of(list, any, 0), ints = x.row(INT);
    due("OBJECT", x.erased(OBJECT), OBJECT);
    due("PLAIN", x.erased(aType), aType);
    due("arguments, bare not there", x.erased(listAny), FULL);
    due("still not there", x.count(1), 9);
    int bare = x.plain(list);
    due("arguments", x.erased(listAny), bare);
    due("bare", x.erased(bare), bare);
    due("a VARIABLE without bounds", x.erased(v0), OBJECT);
    x.bind(c, 0, x.of(list, v0, 0));
    x.bind(c, 1, v0);
    due("a VARIABLE: its first bound's", x.erased(v0), bare);
    due("a VARIABLE: a VARIABLE'S", x.erased(v1), bare);
    x.bind(c, 1, bare);
    due("a second bound does not count", x.erased(v1), bare);
    due("a row of INT", x.erased(ints), ints);
    due("a row of OBJECT", x.erased(x.row(OBJECT)), x.row(OBJECT));
    int rowV = x.row(v1);
    due("a row, not there", x.erased(rowV), FULL);
    int bareRow = x.row(bare);
    due("a row", x.erased(rowV), bareRow);
    due("a row of rows", x.erased(x.row(rowV)), FULL);
    due("INT", x.erased(INT), BAD);
    due("NULL", x.erased(NULL), BAD);
    due("WILD", x.erased(any), BAD);
    due("no type", x.erased(x.count(1)), BAD);
    for (int far : FAR) due("far off", x.erased(far), BAD);
  }

  private static void good() {
    promise = 20;
    CaptureSubtypes x = new CaptureSubtypes();
    int list = x.declare(FACE, 1), a = x.declare(CLASS, 0), face = x.declare(FACE, 0);
    int b = x.declare(CLASS, 0), one = x.declare(CLASS, 1), two = x.declare(CLASS, 2);
    int aType = x.plain(a), bType = x.plain(b), faceType = x.plain(face);
    x.inherit(b, aType);
    x.inherit(b, faceType);
    x.bind(one, 0, aType);
    x.bind(one, 0, faceType);
    x.bind(two, 1, x.of(list, x.variable(two, 0), 0));
    int any = x.wild(ANY, 0), listA = x.of(list, aType, 0);
    due("no bounds", x.good(listA), 1);
    due("no bounds, a row", x.good(x.of(list, x.row(INT), 0)), 1);
    due("both bounds", x.good(x.of(one, bType, 0)), 1);
    due("the first bound alone", x.good(x.of(one, aType, 0)), 0);
    due("the second bound alone", x.good(x.of(one, faceType, 0)), 0);
    due("WILD is not looked at", x.good(x.of(one, any, 0)), 1);
    due("WILD up to what is no bound", x.good(x.of(one, x.wild(UP, listA), 0)), 1);
    due("its own VARIABLE", x.good(x.of(one, x.variable(one, 0), 0)), 1);
    due("another's VARIABLE", x.good(x.of(one, x.variable(list, 0), 0)), 0);
    due("arguments put in", x.good(x.of(two, aType, listA)), 1);
    due("other arguments put in", x.good(x.of(two, bType, listA)), 0);
    due("bare is not of arguments", x.good(x.of(two, aType, x.plain(list))), 0);
    due("WILD caught and put in", x.good(x.of(two, any, listA)), 0);
    due("the second WILD", x.good(x.of(two, aType, any)), 1);
    due("bare", x.good(x.plain(list)), BAD);
    due("plain", x.good(aType), BAD);
    due("OBJECT", x.good(OBJECT), BAD);
    due("INT", x.good(INT), BAD);
    due("a VARIABLE", x.good(x.variable(one, 0)), BAD);
    due("WILD", x.good(any), BAD);
    due("a row", x.good(x.row(listA)), BAD);
    due("no type", x.good(x.count(1)), BAD);
    for (int far : FAR) due("far off", x.good(far), BAD);
  }

  private static void refusalsChangeNothing() {
    promise = 4;
    CaptureSubtypes x = new CaptureSubtypes();
    int list = x.declare(FACE, 1), a = x.declare(SEALED_FACE, 0), c = x.declare(CLASS, 1);
    int listA = x.of(list, x.plain(a), 0), listC = x.of(list, x.variable(c, 0), 0);
    x.inherit(c, listA);
    x.bind(c, 0, listA);
    x.bind(c, 0, x.plain(a));
    x.row(x.of(c, x.wild(UP, listA), 0));
    List<Integer> before = picture(x);
    due("CLASH", x.inherit(c, listC), CLASH);
    due("BAD super", x.inherit(a, listC), BAD);
    due("FULL bound", x.bind(c, 0, listA), FULL);
    due("BAD bound", x.bind(c, 0, OBJECT), BAD);
    due("BAD type", x.of(c, INT, 0), BAD);
    due("BAD class", x.declare(5, 5), BAD);
    due("nothing changed", picture(x).equals(before) ? 1 : 0, 1);
  }
}
