/**
 * What the document says it is, and its terms: each sentence has a test of its own, which bears
 * the sentence's words.
 */
public final class CaptureSubtypesTerms extends Sentences {
  public static void main(String[] args) throws Exception {
    in("What it is");
    whatItIs();
    in("Terms");
    termsOfClasses();
    termsOfTypes();
    termsOfErased();
    termsOfCaught();
    termsOfAs();
    termsOfIs();
    termsOfArguments();
    termsOfUnchecked();
    termsOfMay();
    termsOfMayByClass();
    termsOfApart();
    termsOfDiffer();
    termsOfRefusals();
    finish("What it is", "Terms");
  }

  private static void whatItIs() {
    test("Types of a language with classes that have parameters: what is below what, with"
        + " wildcards taken hold of as new variables, bare names of classes with parameters,"
        + " variables with bounds, rows; what may be turned into what, where sealed families, last"
        + " classes and parameters that can be shown to differ say no.", x -> {
      int list = x.declare(FACE, 1), word = x.declare(LAST, 0), family = x.declare(SEALED_FACE, 0);
      int name = x.plain(word), words = x.of(list, name), some = x.of(list, x.wild(UP, name));
      int bare = x.plain(list), objects = x.of(list, OBJECT), v = x.variable(list, 0);
      int sealed = x.plain(family), manyWords = x.row(words), manySome = x.row(some);
      x.due("a wildcard", x.is(words, some), 1);
      x.due("a bare name", x.is(bare, words), 2);
      x.due("a variable", x.is(v, OBJECT), 1);
      x.due("rows", x.is(manyWords, manySome), 1);
      x.due("parameters that differ", x.may(words, objects), 0);
      x.due("a last class", x.may(name, words), 0);
      x.due("a sealed family", x.may(sealed, words), 0);
      x.due("what may be turned", x.may(bare, words), 1);
    });
    test("1 CLASSES 0 ..", x -> {
      x.due("number 0 is there", x.known(0, 0), CLASS);
      for (int c = 1; c <= 11; c++) x.due("the next number", x.declare(c % 5, c % 3), c);
      x.due("no number 12", x.declare(CLASS, 0), FULL);
      x.due("number 11", x.known(11, 1), 2);
      x.due("number 12", x.known(12, 1), BAD);
      x.due("number -1", x.known(-1, 1), BAD);
    });
    test("An object is used for at most 512 calls after it has been made; what later calls answer"
        + " is free.", x -> {
      int c = x.declare(CLASS, 1), any = x.wild(ANY, 0), some = x.of(c, any), bare = x.plain(c);
      while (x.calls < MOST_CALLS - 3) x.is(some, bare);
      x.due("call 510", x.is(some, bare), 1);
      x.due("call 511", x.row(some), 6);
      x.due("call 512", x.told(6, 2), some);
      manyClears();
      callsBeyond(x.object);
    });
  }

  private static void manyClears() {
    Run x = new Run();
    for (int round = 1; x.calls <= MOST_CALLS - 4; round++) {
      x.due("a class, round " + round, x.declare(round % 5, 1), 1);
      x.due("a variable, round " + round, x.variable(1, 0), 3);
      x.due("a row, round " + round, x.row(3), 4);
      x.due("clear, round " + round, x.clear(), 2);
    }
  }

  /** Their answers are free, but they end and throw nothing. */
  private static void callsBeyond(CaptureSubtypes o) {
    for (int k = 0; k < 3000; k++) {
      ask(o, new int[] {k % (NAMES.length + 40), k % 7, k % 11, k % 13});
    }
  }

  private static void termsOfClasses() {
    test("11 have a KIND: 0 class, 1 last class, 2 sealed class, 3 interface, 4 sealed interface,"
        + " and 0 .. 2 PARAMETERS.", x -> {
      for (int c = 1; c <= 11; c++) {
        x.due("a class", x.declare((c - 1) % 5, (c - 1) / 5), c);
        x.due("its KIND", x.known(c, 0), (c - 1) % 5);
        x.due("its PARAMETERS", x.known(c, 1), (c - 1) / 5);
      }
      x.due("the last number is 11", x.count(0), MOST_CLASSES);
    });
    test("CLASS 0 is OBJECT (KIND 0, without PARAMETERS).", x -> {
      x.due("KIND", x.known(0, 0), CLASS);
      x.due("PARAMETERS", x.known(0, 1), 0);
      x.due("OBJECT is PLAIN 0", x.plain(0), OBJECT);
      x.due("OBJECT'S CLASS", x.told(OBJECT, 1), 0);
      x.due("no ARGUMENTS", x.of(0, OBJECT, OBJECT), BAD);
      x.due("no VARIABLE", x.variable(0, 0), BAD);
    });
    test("A PARAMETER i of CLASS c is a VARIABLE, with up to 2 BOUNDS (none: OBJECT is the one).",
        x -> {
      int face = x.declare(FACE, 0), other = x.declare(FACE, 0), c = x.declare(CLASS, 2);
      int a = x.plain(face), b = x.plain(other), v = x.variable(c, 1), free = x.variable(c, 0);
      x.due("a VARIABLE", x.told(v, 0), 3);
      x.due("of c", x.told(v, 1), c);
      x.due("i", x.told(v, 2), 1);
      x.due("without BOUND it IS OBJECT", x.is(v, OBJECT), 1);
      x.due("without BOUND it is none else", x.is(v, a), 0);
      x.due("without BOUND it is erased to OBJECT", x.erased(v), OBJECT);
      x.due("one BOUND", x.bind(c, 1, a), 1);
      x.due("it IS its BOUND", x.is(v, a), 1);
      x.due("OBJECT is no BOUND more", x.erased(v), a);
      x.due("two BOUNDS", x.bind(c, 1, b), 2);
      x.due("it IS its second BOUND", x.is(v, b), 1);
      x.due("three", x.bind(c, 1, b), FULL);
      x.due("another PARAMETER has none", x.is(free, a), 0);
    });
    test("A CLASS has SUPERS: TYPES of CLASSES of lesser number;", x -> {
      int one = x.declare(FACE, 0), two = x.declare(FACE, 0), three = x.declare(FACE, 0);
      int first = x.plain(one), second = x.plain(two), third = x.plain(three);
      x.due("itself", x.inherit(two, second), BAD);
      x.due("a greater one", x.inherit(two, third), BAD);
      x.due("the next lesser one", x.inherit(three, second), 1);
      x.due("a lesser one", x.inherit(two, first), 1);
      x.due("it is BELOW that", x.below(three, one), 1);
    });
    test("of KINDS 0 to 2 just one of KIND 0 or 2 (OBJECT, as long as none other is put in)", x -> {
      int base = x.declare(CLASS, 0), sealed = x.declare(SEALED, 0), last = x.declare(LAST, 0);
      int heir = x.declare(SEALED, 0), none = x.declare(CLASS, 0);
      int baseType = x.plain(base), sealedType = x.plain(sealed);
      x.due("OBJECT is the SUPER of all five", x.known(0, 2), 5);
      x.due("one of KIND 0 for a last class", x.inherit(last, baseType), 1);
      x.due("a second one of KIND 2", x.inherit(last, sealedType), FULL);
      x.due("the same once more", x.inherit(last, baseType), FULL);
      x.due("one of KIND 2 for a sealed class", x.inherit(heir, sealedType), 1);
      x.due("a second one of KIND 0", x.inherit(heir, baseType), FULL);
      x.due("one for a class", x.inherit(none, baseType), 1);
      x.due("OBJECT is left to two", x.known(0, 2), 2);
      x.due("they are BELOW it still", x.known(0, 3), 6);
    });
    test("and up to 2 of KIND 3 or 4,", x -> {
      int face = x.declare(FACE, 0), sealed = x.declare(SEALED_FACE, 0), b = x.declare(CLASS, 0);
      int a = x.plain(face), s = x.plain(sealed), base = x.plain(b);
      for (int kind = CLASS; kind <= SEALED; kind++) {
        int c = x.declare(kind, 0);
        x.due("one of KIND 3", x.inherit(c, a), 1);
        x.due("one of KIND 4", x.inherit(c, s), 2);
        x.due("a third one", x.inherit(c, a), FULL);
        x.due("the one of KIND 0 beside them", x.inherit(c, base), 3);
        x.due("a third one still", x.inherit(c, s), FULL);
      }
    });
    test("of KINDS 3 and 4 up to 2 of these.", x -> {
      int face = x.declare(FACE, 0), sealed = x.declare(SEALED_FACE, 0), b = x.declare(CLASS, 0);
      int a = x.plain(face), s = x.plain(sealed), base = x.plain(b);
      for (int kind = FACE; kind <= SEALED_FACE; kind++) {
        int c = x.declare(kind, 0);
        x.due("none of KIND 0", x.inherit(c, base), BAD);
        x.due("one of KIND 4", x.inherit(c, s), 1);
        x.due("one of KIND 3", x.inherit(c, a), 2);
        x.due("a third one", x.inherit(c, s), FULL);
        x.due("OBJECT is no SUPER of it", x.known(0, 2), 1);
      }
    });
    test("A CLASS c is BELOW d, if it is d, or a SUPER'S CLASS is BELOW d;", x -> {
      int one = x.declare(FACE, 0), two = x.declare(FACE, 1), three = x.declare(SEALED, 0);
      int four = x.declare(LAST, 0), aside = x.declare(FACE, 0), first = x.plain(one);
      int ofFirst = x.of(two, first), third = x.plain(three);
      x.inherit(two, first);
      x.inherit(three, ofFirst);
      x.inherit(four, third);
      x.due("itself", x.below(two, two), 1);
      x.due("a SUPER", x.below(three, two), 1);
      x.due("a SUPER'S SUPER", x.below(three, one), 1);
      x.due("three steps", x.below(four, one), 1);
      x.due("not the other way", x.below(one, four), 0);
      x.due("a stranger", x.below(four, aside), 0);
    });
    test("each is BELOW OBJECT.", x -> {
      for (int c = 0; c < MOST_CLASSES; c++) {
        if (c > 0) x.declare(c % 5, c % 3);
        x.due("BELOW OBJECT", x.below(c, 0), 1);
        x.due("OBJECT is BELOW itself alone", x.below(0, c), c == 0 ? 1 : 0);
      }
      x.due("all", x.known(0, 3), MOST_CLASSES);
    });
  }

  private static void termsOfTypes() {
    test("TYPES are numbers: 0 OBJECT, 1 INT, 2 NULL;", x -> {
      x.due("three", x.count(1), 3);
      x.due("0 is PLAIN", x.told(0, 0), 0);
      x.due("0 is of CLASS 0", x.told(0, 1), 0);
      x.due("1 is INT", x.told(1, 0), 6);
      x.due("2 is NULL", x.told(2, 0), 7);
      x.due("3 is none", x.told(3, 0), BAD);
    });
    test("then each that is put in, once:", x -> {
      int c = x.declare(CLASS, 1);
      for (int round = 0; round < 2; round++) {
        x.due("BARE", x.plain(c), 3);
        x.due("WILD", x.wild(DOWN, OBJECT), 4);
        x.due("of ARGUMENTS", x.of(c, 4), 5);
        x.due("a VARIABLE", x.variable(c, 0), 6);
        x.due("a ROW", x.row(6), 7);
        x.due("any", x.wild(ANY, 0), 8);
      }
      x.due("nine in all", x.count(1), 9);
    });
    test("PLAIN c (of a CLASS without PARAMETERS; of one with such it is BARE),", x -> {
      for (int parameters = 0; parameters <= 2; parameters++) {
        int t = x.plain(x.declare(FACE, parameters));
        x.due("its sort", x.told(t, 0), parameters == 0 ? 0 : 1);
        x.due("its CLASS", x.told(t, 1), parameters + 1);
      }
    });
    test("c of ARGUMENTS (one for each PARAMETER),", x -> {
      int one = x.declare(CLASS, 1), two = x.declare(CLASS, 2), bare = x.plain(one);
      int ofOne = x.of(one, bare), ofTwo = x.of(two, bare, ofOne);
      x.due("its sort", x.told(ofTwo, 0), 2);
      x.due("the first of two", x.told(ofTwo, 2), bare);
      x.due("the second of two", x.told(ofTwo, 3), ofOne);
      x.due("the first of one", x.told(ofOne, 2), bare);
      x.due("no second of one", x.told(ofOne, 3), NONE);
      x.due("the other way round is another", x.of(two, ofOne, bare), ofTwo + 1);
    });
    test("VARIABLES, ROWS of a TYPE.", x -> {
      int c = x.declare(CLASS, 2), v = x.variable(c, 0), w = x.variable(c, 1);
      int row = x.row(w), ints = x.row(INT), grid = x.row(ints);
      x.due("VARIABLES of two PARAMETERS are two", w, v + 1);
      x.due("a VARIABLE", x.told(w, 0), 3);
      x.due("a ROW", x.told(row, 0), 4);
      x.due("of a VARIABLE", x.told(row, 2), w);
      x.due("of INT", x.told(ints, 2), INT);
      x.due("of a ROW", x.told(grid, 2), ints);
    });
    test("WILD ones are numbers, too, but stand only as ARGUMENTS: any, up to a TYPE, down to a"
        + " TYPE.", x -> {
      int c = x.declare(CLASS, 1), any = x.wild(ANY, 0);
      int up = x.wild(UP, OBJECT), down = x.wild(DOWN, OBJECT);
      x.due("they are counted", x.count(1), 6);
      for (int w = any; w <= down; w++) {
        x.due("WILD", x.told(w, 0), 5);
        x.due("any, up to, down to", x.told(w, 1), w - any);
        x.due("as an ARGUMENT", x.of(c, w), down + 1 + w - any);
        x.due("as a SUPER", x.inherit(c, w), BAD);
        x.due("as a BOUND", x.bind(c, 0, w), BAD);
        x.due("in a ROW", x.row(w), BAD);
        x.due("up to it", x.wild(UP, w), BAD);
        x.due("it IS", x.is(w, OBJECT), BAD);
        x.due("IS it", x.is(OBJECT, w), BAD);
        x.due("it MAY", x.may(w, OBJECT), BAD);
        x.due("MAY into it", x.may(OBJECT, w), BAD);
        x.due("AS", x.as(w, 0), BAD);
        x.due("THE ERASED", x.erased(w), BAD);
        x.due("GOOD", x.good(w), BAD);
      }
    });
    test("ARGUMENTS are else TYPES, but not INT, NULL.", x -> {
      int c = x.declare(CLASS, 1), plain = x.plain(x.declare(FACE, 0)), bare = x.plain(c);
      int v = x.variable(c, 0), ints = x.row(INT), next = x.count(1);
      for (int t : new int[] {OBJECT, plain, bare, v, ints, next}) {
        x.due("may be one", x.of(c, t), next++);
      }
      x.due("INT", x.of(c, INT), BAD);
      x.due("NULL", x.of(c, NULL), BAD);
    });
    test("PARTS of a TYPE nest 6 deep at most (a TYPE without parts is 1 deep).", x -> {
      int c = x.declare(CLASS, 1), two = x.declare(CLASS, 2), any = x.wild(ANY, 0);
      int v = x.variable(c, 0), bare = x.plain(c);
      for (int t : new int[] {OBJECT, INT, NULL, any, v, bare}) {
        x.due("without parts", x.told(t, 4), 1);
      }
      int row = x.row(INT), up = x.wild(UP, OBJECT), ofAny = x.of(c, any), ofUp = x.of(c, up);
      x.due("a ROW", x.told(row, 4), 2);
      x.due("WILD with a part", x.told(up, 4), 2);
      x.due("of an ARGUMENT", x.told(ofAny, 4), 2);
      x.due("of WILD with a part", x.told(ofUp, 4), 3);
      int five = x.rows(ofUp, 2), six = x.row(five), ofSix = x.of(c, five);
      int upSix = x.wild(UP, five);
      int right = x.of(two, OBJECT, five), left = x.of(two, five, OBJECT);
      for (int t : new int[] {six, ofSix, upSix, right, left}) {
        x.due("6 deep", x.told(t, 4), 6);
      }
      x.due("a ROW of 6 deep", x.row(six), DEEP);
      x.due("of 6 deep", x.of(c, six), DEEP);
      x.due("of WILD 6 deep", x.of(c, upSix), DEEP);
      x.due("WILD of 6 deep", x.wild(DOWN, six), DEEP);
      x.due("the first of two", x.of(two, right, OBJECT), DEEP);
      x.due("the second of two", x.of(two, OBJECT, left), DEEP);
    });
  }

  private static void termsOfErased() {
    test("THE ERASED of a TYPE: of PLAIN, BARE ones and those of ARGUMENTS the PLAIN or BARE one of"
        + " its CLASS;", x -> {
      int c = x.declare(CLASS, 0), one = x.declare(FACE, 1), two = x.declare(FACE, 2);
      int plain = x.plain(c), bare = x.plain(one), other = x.plain(two);
      int some = x.of(one, x.wild(UP, plain)), pair = x.of(two, some, plain);
      x.due("OBJECT", x.erased(OBJECT), OBJECT);
      x.due("PLAIN", x.erased(plain), plain);
      x.due("BARE", x.erased(bare), bare);
      x.due("of an ARGUMENT", x.erased(some), bare);
      x.due("of two", x.erased(pair), other);
    });
    test("of a VARIABLE THE ERASED of its first BOUND;", x -> {
      int one = x.declare(FACE, 1), two = x.declare(FACE, 0), c = x.declare(CLASS, 2);
      int bare = x.plain(one), plain = x.plain(two), v = x.variable(c, 0), w = x.variable(c, 1);
      int ofV = x.of(one, v);
      x.due("no BOUND: OBJECT", x.erased(v), OBJECT);
      x.bind(c, 0, ofV);
      x.bind(c, 0, plain);
      x.due("the first of two BOUNDS, erased", x.erased(v), bare);
      x.bind(c, 1, v);
      x.bind(c, 1, plain);
      x.due("a VARIABLE as the first BOUND", x.erased(w), bare);
    });
    test("of a ROW the ROW of THE ERASED.", x -> {
      int one = x.declare(FACE, 1), bare = x.plain(one), v = x.variable(one, 0);
      int ofV = x.of(one, v), ints = x.row(INT), objects = x.row(OBJECT), bares = x.row(bare);
      int rowOf = x.row(ofV), rowV = x.row(v), grid = x.row(bares), gridOf = x.row(rowOf);
      x.due("of ARGUMENTS", x.erased(rowOf), bares);
      x.due("of a VARIABLE", x.erased(rowV), objects);
      x.due("of INT, itself", x.erased(ints), ints);
      x.due("of a ROW", x.erased(gridOf), grid);
    });
  }

  private static void termsOfCaught() {
    test("2 CAUGHT is a TYPE of ARGUMENTS whose WILD ones become new VARIABLES,", x -> {
      int face = x.declare(FACE, 1), own = x.declare(CLASS, 1), both = x.declare(FACE, 2);
      int sub = x.declare(CLASS, 2), left = x.declare(FACE, 0), right = x.declare(FACE, 0);
      x.inherit(own, x.of(face, x.of(own, x.variable(own, 0))));
      x.inherit(sub, x.of(both, x.variable(sub, 0), x.variable(sub, 1)));
      int a = x.plain(left), b = x.plain(right), any = x.wild(ANY, 0), upB = x.wild(UP, b);
      int ownAny = x.of(own, any), ownA = x.of(own, a), upA = x.wild(UP, a);
      int ofUp = x.of(face, x.wild(UP, ownAny)), ofDown = x.of(face, x.wild(DOWN, ownAny));
      int downA = x.of(face, x.wild(DOWN, ownA)), pair = x.of(sub, upA, upB);
      x.due("the VARIABLE is within what any stands for", x.is(ownAny, ofUp), 1);
      x.due("another any is no part of what this one stands for", x.is(ownAny, ofDown), 0);
      x.due("a TYPE stands for itself", x.is(ownA, downA), 1);
      int straight = x.of(both, upA, upB), crossed = x.of(both, upB, any);
      x.due("two are two VARIABLES", x.is(pair, straight), 1);
      x.due("two are not one VARIABLE", x.is(pair, crossed), 0);
    });
    test("each one's BOUNDS those of the PARAMETER (with ARGUMENTS, WILD ones CAUGHT, put in for"
        + " PARAMETERS),", x -> {
      int list = x.declare(FACE, 1), left = x.declare(FACE, 0), right = x.declare(FACE, 0);
      int c = x.declare(CLASS, 2), a = x.plain(left), b = x.plain(right), any = x.wild(ANY, 0);
      x.bind(c, 0, a);
      x.bind(c, 1, x.of(list, x.variable(c, 0)));
      x.bind(c, 1, b);
      x.inherit(c, x.of(list, x.variable(c, 1)));
      int upA = x.wild(UP, a), listUpA = x.of(list, upA), all = x.of(c, any, any);
      int listB = x.of(list, b), listA = x.of(list, a), ofB = x.of(c, b, any);
      int upList = x.of(list, x.wild(UP, listUpA)), upListB = x.of(list, x.wild(UP, listB));
      int upListA = x.of(list, x.wild(UP, listA)), upB = x.of(list, x.wild(UP, b));
      x.due("the first BOUND, with what is CAUGHT put in", x.is(all, upList), 1);
      x.due("the second BOUND", x.is(all, upB), 1);
      x.due("what is CAUGHT is not its own BOUND", x.is(all, upListA), 0);
      x.due("with an ARGUMENT put in", x.is(ofB, upListB), 1);
      x.due("not with another one", x.is(ofB, upListA), 0);
      int ofObject = x.of(c, OBJECT, any), listAny = x.of(list, any), objects = x.of(list, OBJECT);
      int upObjects = x.of(list, x.wild(UP, objects)), beside = x.of(c, any, OBJECT);
      x.due("with OBJECT put in", x.is(ofObject, upObjects), 1);
      x.due("OBJECT beside what is CAUGHT", x.is(beside, objects), 1);
      x.due("it IS any", x.is(ofObject, listAny), 1);
      int self = x.declare(CLASS, 1);
      x.bind(self, 0, x.of(self, x.variable(self, 0)));
      int selfAny = x.of(self, any), selfUp = x.of(self, x.wild(UP, selfAny));
      int selfUpUp = x.of(self, x.wild(UP, selfUp)), upUpList = x.of(self, x.wild(UP, listAny));
      x.due("with itself put in", x.is(selfAny, selfUp), 1);
      x.due("and once more", x.is(selfAny, selfUpUp), 1);
      x.due("but it is no other", x.is(selfAny, upUpList), 0);
      int selfUpB = x.of(self, x.wild(UP, b)), upSelfUpB = x.of(self, x.wild(UP, selfUpB));
      x.due("with itself, that is up to a TYPE", x.is(selfUpB, upSelfUpB), 1);
      x.due("with itself, that is not", x.is(selfAny, upSelfUpB), 0);
    });
    test("and ahead of these what it is up to;", x -> {
      int root = x.declare(FACE, 0), more = x.declare(FACE, 0), left = x.declare(FACE, 0);
      int right = x.declare(FACE, 0), under = x.declare(FACE, 0), c = x.declare(CLASS, 2);
      int f = x.plain(root), k = x.plain(more), a = x.plain(left), b = x.plain(right);
      x.inherit(left, f);
      x.inherit(left, k);
      x.inherit(right, f);
      x.inherit(under, a);
      x.bind(c, 0, f);
      x.bind(c, 1, x.variable(c, 0));
      int any = x.wild(ANY, 0), upA = x.of(c, x.wild(UP, a), any);
      int upF = x.of(c, x.wild(UP, f), any);
      int upK = x.of(c, x.wild(UP, k), any), wide = x.of(c, any, any);
      int ofB = x.of(c, any, b), ofUnder = x.of(c, any, x.plain(under));
      x.due("it is one of the BOUNDS", x.is(upA, upK), 1);
      x.due("without it", x.is(wide, upK), 0);
      x.due("the PARAMETER'S is one still", x.is(upK, upF), 1);
      x.due("it is the first: THE ERASED is of it, and another's", x.may(upA, ofB), 0);
      x.due("it is the first: THE ERASED is of it", x.may(upA, ofUnder), 1);
    });
    test("its LOW what it is down to.", x -> {
      int list = x.declare(FACE, 1), base = x.declare(CLASS, 0), heir = x.declare(CLASS, 0);
      int a = x.plain(base), b = x.plain(heir);
      x.inherit(heir, a);
      int downA = x.of(list, x.wild(DOWN, a)), downB = x.of(list, x.wild(DOWN, b));
      int upA = x.of(list, x.wild(UP, a)), any = x.of(list, x.wild(ANY, 0));
      x.due("what IS the LOW IS it", x.is(downA, downB), 1);
      x.due("what is not, is not", x.is(downB, downA), 0);
      x.due("the LOW is no BOUND", x.is(downA, upA), 0);
      x.due("any has no LOW", x.is(any, downA), 0);
      x.due("up to has no LOW", x.is(upA, downB), 0);
    });
  }

  private static void termsOfAs() {
    test("AS d of a TYPE of a CLASS BELOW d (CAUGHT, if it has WILD ones): itself, if it is of d;",
        x -> {
      int list = x.declare(FACE, 1), base = x.declare(CLASS, 0), heir = x.declare(CLASS, 0);
      int a = x.plain(base), b = x.plain(heir), bare = x.plain(list), listA = x.of(list, a);
      x.inherit(heir, a);
      int upB = x.of(list, x.wild(UP, b)), upA = x.of(list, x.wild(UP, a));
      x.due("PLAIN", x.as(a, base), a);
      x.due("BARE", x.as(bare, list), bare);
      x.due("of ARGUMENTS", x.as(listA, list), listA);
      x.due("CAUGHT", x.is(upB, upA), 1);
      x.due("not BELOW", x.as(a, heir), NONE);
    });
    test("else AS d of the first of its SUPERS (that of KIND 0 or 2 ahead of the others, these as"
        + " they were put in) whose CLASS is BELOW d:", x -> {
      int root = x.declare(FACE, 1), bareWay = x.declare(FACE, 1), straight = x.declare(FACE, 0);
      int base = x.declare(SEALED, 0), aside = x.declare(FACE, 0);
      int objects = x.of(root, OBJECT), bareRoot = x.plain(root);
      for (int c : new int[] {bareWay, straight, base}) x.inherit(c, objects);
      int one = x.declare(CLASS, 1), two = x.declare(CLASS, 1), three = x.declare(CLASS, 1);
      int first = x.plain(one), second = x.plain(two), third = x.plain(three);
      x.inherit(one, x.of(bareWay, x.variable(one, 0)));
      x.inherit(one, x.plain(straight));
      x.due("the first that was put in", x.as(first, root), bareRoot);
      x.inherit(two, x.plain(straight));
      x.inherit(two, x.of(bareWay, x.variable(two, 0)));
      x.due("put in the other way round", x.as(second, root), objects);
      x.inherit(three, x.plain(aside));
      x.inherit(three, x.of(bareWay, x.variable(three, 0)));
      x.due("one that is not BELOW d is passed over", x.as(third, root), bareRoot);
      x.inherit(three, x.plain(base));
      x.due("that of KIND 2 is ahead, though put in last", x.as(third, root), objects);
      x.inherit(one, x.plain(base));
      x.due("ahead of both others", x.as(first, root), objects);
    });
    test("ARGUMENTS put in for PARAMETERS;", x -> {
      int pair = x.declare(FACE, 2), mid = x.declare(FACE, 1), c = x.declare(CLASS, 2);
      int v = x.variable(mid, 0), w = x.variable(c, 1), a = x.plain(x.declare(LAST, 0));
      x.inherit(mid, x.of(pair, x.row(v), v));
      x.inherit(c, x.of(mid, w));
      int ofC = x.of(c, OBJECT, a), midA = x.of(mid, a), pairA = x.of(pair, x.row(a), a);
      int own = x.of(c, x.variable(c, 0), w), midW = x.of(mid, w);
      x.due("one step", x.as(ofC, mid), midA);
      x.due("two steps, in a part, too", x.as(ofC, pair), pairA);
      x.due("its own VARIABLES", x.as(own, mid), midW);
      int objects = x.of(c, a, OBJECT), pairObjects = x.of(pair, x.row(OBJECT), OBJECT);
      x.due("OBJECT in each part", x.as(objects, pair), pairObjects);
      int turned = x.declare(CLASS, 2), first = x.variable(turned, 0);
      x.inherit(turned, x.of(pair, x.variable(turned, 1), first));
      int ofTurned = x.of(turned, OBJECT, a), aObject = x.of(pair, a, OBJECT);
      int objectA = x.of(pair, OBJECT, a), back = x.of(turned, a, OBJECT);
      x.due("OBJECT as the second", x.as(ofTurned, pair), aObject);
      x.due("OBJECT as the first", x.as(back, pair), objectA);
    });
    test("of a BARE one SUPERS are THE ERASED.", x -> {
      int root = x.declare(FACE, 1), mid = x.declare(FACE, 1), c = x.declare(CLASS, 1);
      int a = x.plain(x.declare(LAST, 0)), rootA = x.of(root, a), bareRoot = x.plain(root);
      int bareMid = x.plain(mid), bare = x.plain(c), ofA = x.of(c, a);
      x.inherit(mid, rootA);
      x.inherit(c, x.of(mid, x.variable(c, 0)));
      x.due("one step", x.as(bare, mid), bareMid);
      x.due("two steps", x.as(bare, root), bareRoot);
      x.due("of ARGUMENTS they are as they stand", x.as(ofA, root), rootA);
    });
    test("Of d OBJECT: OBJECT.", x -> {
      int face = x.declare(FACE, 1), heir = x.declare(LAST, 0), a = x.plain(heir);
      int bare = x.plain(face), ofA = x.of(face, a);
      for (int t : new int[] {OBJECT, a, bare, ofA}) x.due("AS 0", x.as(t, 0), OBJECT);
    });
    test("A CLASS may not get a SUPER by which, of some CLASS (of its own VARIABLES), some AS d"
        + " would not be one and the same whichever SUPER is taken.", x -> {
      int root = x.declare(FACE, 1), left = x.declare(FACE, 1), right = x.declare(FACE, 1);
      int both = x.declare(CLASS, 2), base = x.declare(CLASS, 0), heir = x.declare(CLASS, 0);
      int l = x.variable(left, 0), r = x.variable(right, 0), rowR = x.of(root, x.row(r));
      int ofR = x.of(root, r), v = x.variable(both, 0), w = x.variable(both, 1);
      int leftV = x.of(left, v), rightV = x.of(right, v);
      x.due("left gets the root", x.inherit(left, x.of(root, l)), 1);
      x.due("its heir", x.inherit(both, leftV), 1);
      x.due("another ARGUMENT of the root itself", x.inherit(both, x.of(root, w)), CLASH);
      x.due("a BARE root", x.inherit(both, x.plain(root)), CLASH);
      x.due("right, that leads to no root yet", x.inherit(both, rightV), 2);
      x.due("of another CLASS, the heir", x.inherit(right, rowR), CLASH);
      x.due("the same for the heir", x.inherit(right, ofR), 1);
      int a = x.of(root, x.plain(base)), b = x.of(root, x.plain(heir)), bare = x.plain(right);
      x.due("the CLASS gets it", x.inherit(base, a), 1);
      x.due("its heir gets another one first", x.inherit(heir, b), 1);
      x.due("then the CLASS not", x.inherit(heir, x.plain(base)), CLASH);
      x.due("nor a BARE way", x.inherit(heir, bare), CLASH);
      x.due("the same ARGUMENT", x.inherit(heir, b), 2);
    });
  }

  private static void termsOfIs() {
    test("S IS a T (none is WILD): they are the same;", x -> {
      int c = x.declare(CLASS, 1), bare = x.plain(c), v = x.variable(c, 0), any = x.wild(ANY, 0);
      int ofAny = x.of(c, any), nested = x.of(c, ofAny), ints = x.row(INT);
      for (int t : new int[] {OBJECT, INT, NULL, bare, v, ofAny, nested, ints}) {
        x.due("itself", x.is(t, t), 1);
      }
      x.due("WILD is not asked about", x.is(any, any), BAD);
    });
    test("or S is NULL, and T is not INT;", x -> {
      int c = x.declare(LAST, 1), bare = x.plain(c), v = x.variable(c, 0), ints = x.row(INT);
      int ofAny = x.of(c, x.wild(ANY, 0)), ofV = x.of(c, v);
      for (int t : new int[] {OBJECT, NULL, bare, v, ints, ofAny, ofV}) {
        x.due("NULL IS", x.is(NULL, t), 1);
      }
      x.due("INT", x.is(NULL, INT), 0);
      x.due("none else IS NULL", x.is(OBJECT, NULL), 0);
      x.due("nor a VARIABLE", x.is(v, NULL), 0);
      x.due("nor INT", x.is(INT, NULL), 0);
    });
    test("or T is OBJECT, and S is not INT;", x -> {
      int c = x.declare(FACE, 1), bare = x.plain(c), v = x.variable(c, 0), ints = x.row(INT);
      int ofAny = x.of(c, x.wild(ANY, 0)), grid = x.row(ints);
      for (int s : new int[] {OBJECT, NULL, bare, v, ints, grid, ofAny}) {
        x.due("IS OBJECT", x.is(s, OBJECT), 1);
      }
      x.due("INT", x.is(INT, OBJECT), 0);
      x.due("OBJECT IS no interface", x.is(OBJECT, bare), 0);
      x.due("nor INT", x.is(OBJECT, INT), 0);
    });
    test("or S is a VARIABLE, and one of its BOUNDS IS a T;", x -> {
      int one = x.declare(FACE, 0), two = x.declare(FACE, 0), sub = x.declare(FACE, 0);
      int c = x.declare(CLASS, 2), a = x.plain(one), b = x.plain(two), s = x.plain(sub);
      int v = x.variable(c, 0), w = x.variable(c, 1);
      x.inherit(sub, a);
      x.bind(c, 0, s);
      x.bind(c, 0, b);
      x.bind(c, 1, v);
      x.due("the first BOUND", x.is(v, s), 1);
      x.due("what that IS", x.is(v, a), 1);
      x.due("the second BOUND", x.is(v, b), 1);
      x.due("a VARIABLE as BOUND", x.is(w, v), 1);
      x.due("what that IS by its second", x.is(w, b), 1);
      x.due("not the other way", x.is(v, w), 0);
      x.due("a BOUND IS no VARIABLE", x.is(s, v), 0);
    });
    test("or T is a VARIABLE with a LOW, and S IS one;", x -> {
      int list = x.declare(FACE, 1), base = x.declare(CLASS, 0), heir = x.declare(CLASS, 0);
      int a = x.plain(base), b = x.plain(heir), v = x.variable(list, 0);
      x.inherit(heir, a);
      int down = x.wild(DOWN, a), ofDown = x.of(list, down), deep = x.of(list, x.wild(DOWN, b));
      int objects = x.of(list, x.wild(DOWN, OBJECT)), rows = x.of(list, x.wild(DOWN, x.row(a)));
      int downRows = x.of(list, x.wild(DOWN, x.row(b)));
      x.due("what IS the LOW", x.is(ofDown, deep), 1);
      x.due("all IS a LOW of OBJECT", x.is(objects, deep), 1);
      x.due("ROWS of what IS", x.is(rows, downRows), 1);
      x.due("and not of what is not", x.is(downRows, rows), 0);
      x.due("a VARIABLE without LOW", x.is(a, v), 0);
    });
    test("or both are ROWS, of the same, or of what is not INT, the one of which IS the other;",
        x -> {
      int face = x.declare(FACE, 0), c = x.declare(CLASS, 1), a = x.plain(face), b = x.plain(c);
      x.inherit(c, a);
      int v = x.variable(c, 0), rowA = x.row(a), rowB = x.row(b), ints = x.row(INT);
      int objects = x.row(OBJECT), grid = x.row(ints), grids = x.row(grid), rowV = x.row(v);
      x.due("of the same INT", x.is(ints, ints), 1);
      x.due("of what IS", x.is(rowB, rowA), 1);
      x.due("not the other way", x.is(rowA, rowB), 0);
      x.due("INT and OBJECT", x.is(ints, objects), 0);
      x.due("OBJECT and INT", x.is(objects, ints), 0);
      x.due("ROWS of INT are OBJECTS", x.is(grid, objects), 1);
      x.due("and their ROWS", x.is(grids, objects), 1);
      x.due("INT further in", x.is(grid, x.row(objects)), 0);
      x.due("a VARIABLE", x.is(rowV, objects), 1);
      x.due("a ROW IS not what it is of", x.is(rowA, a), 0);
      x.due("nor that a ROW", x.is(a, rowA), 0);
    });
    test("or both are of CLASSES c, d, c BELOW d, and T is PLAIN or BARE,", x -> {
      int root = x.declare(FACE, 0), list = x.declare(FACE, 1), sub = x.declare(CLASS, 1);
      int a = x.plain(root), bare = x.plain(list), bareSub = x.plain(sub);
      x.inherit(list, a);
      x.inherit(sub, x.of(list, x.variable(sub, 0)));
      int ofA = x.of(sub, a), ofAny = x.of(sub, x.wild(ANY, 0));
      for (int s : new int[] {bareSub, ofA, ofAny}) {
        x.due("IS PLAIN", x.is(s, a), 1);
        x.due("IS BARE", x.is(s, bare), 1);
        x.due("IS BARE of its own CLASS", x.is(s, bareSub), 1);
        x.due("not the other way", x.is(a, s), 0);
      }
      x.due("PLAIN that is not above", x.is(bare, bareSub), 0);
    });
  }

  private static void termsOfArguments() {
    test("or AS d of S is of ARGUMENTS, and each of these is IN T's: the same as it;", x -> {
      int two = x.declare(FACE, 2), sub = x.declare(CLASS, 2), base = x.declare(CLASS, 0);
      int heir = x.declare(CLASS, 0), a = x.plain(base), b = x.plain(heir);
      x.inherit(heir, a);
      x.inherit(sub, x.of(two, x.variable(sub, 1), x.variable(sub, 0)));
      int subAB = x.of(sub, a, b), twoAB = x.of(two, a, b), twoBA = x.of(two, b, a);
      int twoBB = x.of(two, b, b), twoAA = x.of(two, a, a), any = x.wild(ANY, 0);
      int inner = x.of(two, any, a), ofInner = x.of(two, inner, a), subInner = x.of(sub, a, inner);
      x.due("both the same", x.is(subAB, twoBA), 1);
      x.due("neither", x.is(subAB, twoAB), 0);
      x.due("the first alone", x.is(subAB, twoBB), 0);
      x.due("the second alone", x.is(subAB, twoAA), 0);
      x.due("what IS the ARGUMENT is not the same", x.is(twoBB, twoAB), 0);
      x.due("the same with WILD parts", x.is(subInner, ofInner), 1);
    });
    test("or that is WILD: any;", x -> {
      int list = x.declare(FACE, 1), two = x.declare(FACE, 2), any = x.wild(ANY, 0);
      int ofAny = x.of(list, any), ofInts = x.of(list, x.row(INT)), a = x.of(list, OBJECT);
      int down = x.of(list, x.wild(DOWN, OBJECT)), v = x.of(list, x.variable(list, 0));
      for (int s : new int[] {ofInts, a, down, v}) x.due("any", x.is(s, ofAny), 1);
      int bothAny = x.of(two, any, any), oneAny = x.of(two, any, a), mixed = x.of(two, v, down);
      x.due("any twice", x.is(mixed, bothAny), 1);
      x.due("any once, the other not the same", x.is(mixed, oneAny), 0);
      x.due("any is not IN an ARGUMENT", x.is(ofAny, a), 0);
    });
    test("or up to a TYPE that it IS;", x -> {
      int list = x.declare(FACE, 1), base = x.declare(CLASS, 0), heir = x.declare(CLASS, 0);
      int a = x.plain(base), b = x.plain(heir);
      x.inherit(heir, a);
      int upA = x.of(list, x.wild(UP, a)), upB = x.of(list, x.wild(UP, b)), ofA = x.of(list, a);
      int ofB = x.of(list, b), upUpA = x.of(list, x.wild(UP, upA)), ofUpB = x.of(list, upB);
      int upTo = x.of(list, x.wild(UP, OBJECT)), any = x.of(list, x.wild(ANY, 0));
      x.due("the TYPE", x.is(ofA, upA), 1);
      x.due("what IS it", x.is(ofB, upA), 1);
      x.due("what is not it", x.is(ofA, upB), 0);
      x.due("what is CAUGHT", x.is(upB, upA), 1);
      x.due("what is CAUGHT and is not it", x.is(upA, upB), 0);
      x.due("WILD in WILD", x.is(ofUpB, upUpA), 1);
      x.due("any IS up to OBJECT", x.is(any, upTo), 1);
      x.due("unchecked is not enough", x.is(x.of(list, x.plain(list)), upUpA), 0);
    });
    test("or down to a TYPE that IS it.", x -> {
      int list = x.declare(FACE, 1), base = x.declare(CLASS, 0), heir = x.declare(CLASS, 0);
      int a = x.plain(base), b = x.plain(heir);
      x.inherit(heir, a);
      int downA = x.of(list, x.wild(DOWN, a)), downB = x.of(list, x.wild(DOWN, b));
      int ofA = x.of(list, a), ofB = x.of(list, b), objects = x.of(list, OBJECT);
      int downList = x.of(list, x.wild(DOWN, ofA)), ofUp = x.of(list, x.of(list, x.wild(UP, a)));
      x.due("the TYPE", x.is(ofB, downB), 1);
      x.due("what it IS", x.is(ofA, downB), 1);
      x.due("what it is not", x.is(ofB, downA), 0);
      x.due("OBJECT", x.is(objects, downA), 1);
      x.due("down to what IS a WILD one's", x.is(ofUp, downList), 1);
    });
  }

  private static void termsOfUnchecked() {
    test("S is UNCHECKED a T: it IS not, but T is of ARGUMENTS, of a CLASS d,", x -> {
      int list = x.declare(FACE, 1), sub = x.declare(FACE, 1), bare = x.plain(list);
      x.inherit(sub, x.of(list, x.variable(sub, 0)));
      int bareSub = x.plain(sub), ofObject = x.of(list, OBJECT), any = x.of(list, x.wild(ANY, 0));
      int rowBare = x.row(bare), rowOf = x.row(ofObject), v = x.variable(list, 0);
      x.due("of an ARGUMENT", x.is(bare, ofObject), 2);
      x.due("of any", x.is(bare, any), 2);
      x.due("it IS BARE", x.is(bareSub, bare), 1);
      x.due("NULL IS", x.is(NULL, ofObject), 1);
      x.due("T is a ROW", x.is(rowBare, rowOf), 0);
      x.due("T is a VARIABLE", x.is(bare, v), 0);
    });
    test("and S (or, S being a VARIABLE, one of its BOUNDS, and so on)", x -> {
      int list = x.declare(FACE, 1), other = x.declare(FACE, 0), c = x.declare(CLASS, 2);
      int one = x.declare(CLASS, 1), bare = x.plain(list), ofObject = x.of(list, OBJECT);
      int v = x.variable(c, 0), w = x.variable(c, 1), u = x.variable(one, 0);
      x.bind(c, 0, x.plain(other));
      x.due("before the BOUND", x.is(v, ofObject), 0);
      x.bind(c, 0, bare);
      x.bind(c, 1, v);
      x.bind(one, 0, ofObject);
      x.due("the second BOUND", x.is(v, ofObject), 2);
      x.due("a BOUND'S BOUND", x.is(w, ofObject), 2);
      x.due("a BOUND that IS", x.is(u, ofObject), 1);
      x.due("a BOUND that is of ARGUMENTS", x.is(u, x.of(list, v)), 0);
    });
    test("is of a CLASS BELOW d, and its AS d is BARE.", x -> {
      int list = x.declare(FACE, 1), sub = x.declare(FACE, 1), raw = x.declare(CLASS, 1);
      x.inherit(sub, x.of(list, x.variable(sub, 0)));
      x.inherit(raw, x.plain(sub));
      int bare = x.plain(list), bareSub = x.plain(sub), ofObject = x.of(list, OBJECT);
      int any = x.wild(ANY, 0), rawAny = x.of(raw, any), rawObject = x.of(raw, OBJECT);
      int subOf = x.of(sub, OBJECT), subAny = x.of(sub, any), bareRaw = x.plain(raw);
      x.due("BARE, one step", x.is(bareSub, ofObject), 2);
      x.due("of ARGUMENTS, with a BARE SUPER", x.is(rawObject, ofObject), 2);
      x.due("of WILD ones, with a BARE SUPER", x.is(rawAny, ofObject), 2);
      x.due("BARE over BARE", x.is(bareRaw, ofObject), 2);
      x.due("not BELOW", x.is(bare, subOf), 0);
      x.due("AS is of ARGUMENTS", x.is(subAny, ofObject), 0);
      x.due("OBJECT", x.is(OBJECT, ofObject), 0);
    });
  }

  private static void termsOfMay() {
    test("3 S MAY be turned into T (T is not NULL), if one IS the other.", x -> {
      int base = x.declare(CLASS, 0), heir = x.declare(LAST, 0), a = x.plain(base);
      int b = x.plain(heir), ints = x.row(INT);
      x.inherit(heir, a);
      x.due("the same", x.may(a, a), 1);
      x.due("up", x.may(b, a), 1);
      x.due("down", x.may(a, b), 1);
      x.due("from OBJECT", x.may(OBJECT, ints), 1);
      x.due("INT", x.may(INT, INT), 1);
      x.due("NULL", x.may(NULL, b), 1);
      x.due("NULL into a ROW", x.may(NULL, ints), 1);
      for (int s : new int[] {OBJECT, INT, NULL, a, ints}) {
        x.due("T is NULL", x.may(s, NULL), BAD);
      }
    });
    test("Else it may not, if one is INT;", x -> {
      int c = x.declare(CLASS, 1), bare = x.plain(c), v = x.variable(c, 0), ints = x.row(INT);
      for (int t : new int[] {OBJECT, bare, v, ints}) {
        x.due("INT into it", x.may(INT, t), 0);
        x.due("it into INT", x.may(t, INT), 0);
      }
      x.due("NULL into INT", x.may(NULL, INT), 0);
    });
    test("a VARIABLE MAY, if each of its BOUNDS MAY;", x -> {
      int base = x.declare(CLASS, 0), face = x.declare(FACE, 0), family = x.declare(SEALED_FACE, 0);
      int c = x.declare(CLASS, 2), other = x.declare(FACE, 0), a = x.plain(base);
      int v = x.variable(c, 0), free = x.variable(c, 1), t = x.plain(other), s = x.plain(family);
      x.due("no BOUND: OBJECT MAY", x.may(free, t), 1);
      x.bind(c, 0, a);
      x.due("its one BOUND MAY", x.may(v, t), 1);
      x.due("its one BOUND MAY not", x.may(v, s), 0);
      x.bind(c, 0, x.plain(face));
      x.due("both MAY", x.may(v, t), 1);
      x.bind(c, 1, x.plain(face));
      x.bind(c, 1, s);
      x.due("the first MAY, the second MAY not", x.may(free, t), 0);
      x.due("a BOUND IS it", x.may(free, s), 1);
    });
    test("into a VARIABLE, if it MAY into each BOUND", x -> {
      int base = x.declare(CLASS, 0), face = x.declare(FACE, 0), family = x.declare(SEALED_FACE, 0);
      int c = x.declare(CLASS, 2), other = x.declare(FACE, 0), a = x.plain(base);
      int v = x.variable(c, 0), free = x.variable(c, 1), t = x.plain(other), s = x.plain(family);
      x.due("no BOUND: into OBJECT", x.may(t, free), 1);
      x.bind(c, 0, a);
      x.due("it MAY into its one BOUND", x.may(t, v), 1);
      x.due("it MAY not", x.may(s, v), 0);
      x.bind(c, 0, x.plain(face));
      x.due("into both", x.may(t, v), 1);
      x.bind(c, 1, x.plain(face));
      x.bind(c, 1, s);
      x.due("into the first, not into the second", x.may(t, free), 0);
      x.due("it is a BOUND", x.may(s, free), 1);
    });
    test("(VARIABLES S first);", x -> {
      int base = x.declare(CLASS, 0), heir = x.declare(CLASS, 0);
      int family = x.declare(SEALED_FACE, 0);
      int c = x.declare(CLASS, 2), a = x.plain(base), b = x.plain(heir);
      int s = x.variable(c, 0), t = x.variable(c, 1);
      x.inherit(heir, a);
      x.bind(c, 0, a);
      x.bind(c, 1, b);
      x.bind(c, 1, x.plain(family));
      x.due("the one BOUND of S: T IS one", x.may(s, t), 1);
      x.due("a BOUND of S that MAY not", x.may(t, s), 0);
    });
    test("a ROW into a ROW, if what the one is of MAY be turned into what the other is of;", x -> {
      int base = x.declare(CLASS, 0), other = x.declare(CLASS, 0), face = x.declare(FACE, 1);
      int a = x.row(x.plain(base)), b = x.row(x.plain(other)), f = x.row(x.plain(face));
      int v = x.row(x.variable(face, 0)), ints = x.row(INT), objects = x.row(OBJECT);
      int gridA = x.row(a), gridF = x.row(f), gridInts = x.row(ints);
      x.due("of what MAY", x.may(a, f), 1);
      x.due("of what MAY not", x.may(a, b), 0);
      x.due("ROWS of ROWS", x.may(gridF, gridA), 1);
      x.due("of a VARIABLE", x.may(v, a), 1);
      x.due("of INT", x.may(ints, objects), 0);
      x.due("into one of INT", x.may(v, ints), 0);
      x.due("of ROWS of INT into one of OBJECTS", x.may(objects, gridInts), 1);
    });
    test("a ROW and what is of a CLASS, either way, not;", x -> {
      int face = x.declare(FACE, 1), c = x.declare(CLASS, 0), a = x.plain(c), bare = x.plain(face);
      int ofA = x.of(face, a), v = x.variable(face, 0), rowA = x.row(a), ints = x.row(INT);
      for (int t : new int[] {a, bare, ofA}) {
        x.due("a ROW", x.may(rowA, t), 0);
        x.due("into a ROW", x.may(t, rowA), 0);
        x.due("a ROW of INT", x.may(ints, t), 0);
      }
      x.due("a ROW into a VARIABLE", x.may(rowA, v), 1);
      x.bind(face, 0, a);
      x.due("a ROW into a VARIABLE of a CLASS", x.may(rowA, v), 0);
      x.due("a VARIABLE of a CLASS into a ROW", x.may(v, rowA), 0);
    });
  }

  private static void termsOfMayByClass() {
    test("what is of a CLASS c into what is of a CLASS d, if these are not APART,", x -> {
      int face = x.declare(FACE, 1), c = x.declare(CLASS, 0), d = x.declare(CLASS, 1);
      int last = x.declare(LAST, 0), family = x.declare(SEALED_FACE, 0);
      int f = x.of(face, OBJECT), a = x.plain(c), b = x.of(d, OBJECT), l = x.plain(last);
      int s = x.plain(family);
      x.due("a class and an interface", x.may(a, f), 1);
      x.due("an interface and a class", x.may(f, a), 1);
      x.due("two classes", x.may(a, b), 0);
      x.due("a last class and an interface", x.may(l, f), 0);
      x.due("an interface and a last class", x.may(f, l), 0);
      x.due("a sealed family", x.may(s, f), 0);
    });
    test("and there is no CLASS g that both are BELOW, whose AS g of S and of T are of ARGUMENTS"
        + " that DIFFER.", x -> {
      int g = x.declare(FACE, 1), left = x.declare(FACE, 0), right = x.declare(FACE, 1);
      int a = x.plain(x.declare(CLASS, 0)), b = x.plain(x.declare(CLASS, 0));
      int top = x.declare(FACE, 1);
      x.inherit(left, x.of(g, a));
      x.inherit(right, x.of(g, x.variable(right, 0)));
      int l = x.plain(left), rightA = x.of(right, a), rightB = x.of(right, b), any = x.wild(ANY, 0);
      int bare = x.plain(right), some = x.of(right, any), gA = x.of(g, a), gB = x.of(g, b);
      int aside = x.of(top, b);
      x.due("g above both: the same", x.may(l, rightA), 1);
      x.due("g above both: they DIFFER", x.may(l, rightB), 0);
      x.due("the other way", x.may(rightB, l), 0);
      x.due("g is T's", x.may(rightA, gB), 0);
      x.due("g is S's", x.may(gB, rightA), 0);
      x.due("g is of both", x.may(gA, gB), 0);
      x.due("one is BARE", x.may(l, bare), 1);
      x.due("one is CAUGHT", x.may(l, some), 1);
      x.due("no such g", x.may(l, aside), 1);
    });
  }

  private static void termsOfApart() {
    test("APART are c and d: neither is BELOW the other, and: both are of KINDS 0 to 2;", x -> {
      int a = x.declare(CLASS, 0), b = x.declare(SEALED, 0), face = x.declare(FACE, 0);
      int heir = x.declare(LAST, 0), other = x.declare(FACE, 0);
      x.inherit(heir, x.plain(a));
      x.due("two classes", x.apart(a, b), 1);
      x.due("the other way", x.apart(b, a), 1);
      x.due("a last class and a class", x.apart(heir, b), 1);
      x.due("BELOW", x.apart(heir, a), 0);
      x.due("above", x.apart(a, heir), 0);
      x.due("itself", x.apart(a, a), 0);
      x.due("OBJECT", x.apart(0, a), 0);
      x.due("a class and an interface", x.apart(a, face), 0);
      x.due("two interfaces", x.apart(face, other), 0);
    });
    test("or c is of KIND 1, or d is;", x -> {
      int face = x.declare(FACE, 0), last = x.declare(LAST, 0), under = x.declare(LAST, 0);
      int family = x.declare(SEALED_FACE, 0), heir = x.declare(CLASS, 0);
      x.inherit(under, x.plain(face));
      x.inherit(heir, x.plain(family));
      x.due("c is", x.apart(last, face), 1);
      x.due("d is", x.apart(face, last), 1);
      x.due("c is BELOW d", x.apart(under, face), 0);
      x.due("d is BELOW c", x.apart(face, under), 0);
      x.due("c is sealed with an open HEIR", x.apart(family, last), 1);
    });
    test("or c is sealed, and all its HEIRS are APART from d;", x -> {
      int face = x.declare(FACE, 0), family = x.declare(SEALED_FACE, 0), top = x.declare(SEALED, 0);
      int last = x.declare(LAST, 0), open = x.declare(CLASS, 0), inner = x.declare(SEALED, 0);
      int leaf = x.declare(CLASS, 0);
      x.inherit(last, x.plain(family));
      x.due("the one HEIR is APART", x.apart(family, face), 1);
      x.inherit(open, x.plain(family));
      x.due("another HEIR is not", x.apart(family, face), 0);
      x.inherit(inner, x.plain(top));
      x.due("a sealed HEIR that is APART", x.apart(top, face), 1);
      x.inherit(leaf, x.plain(inner));
      x.due("a sealed HEIR whose HEIR is not", x.apart(top, face), 0);
      x.inherit(leaf, x.plain(face));
      x.due("a HEIR BELOW d", x.apart(top, face), 0);
      x.due("two families without a common HEIR", x.apart(top, family), 1);
    });
    test("or d is, and all its HEIRS are APART from c.", x -> {
      int face = x.declare(FACE, 0), family = x.declare(SEALED_FACE, 0), open = x.declare(CLASS, 0);
      int last = x.declare(LAST, 0), heir = x.declare(LAST, 0);
      x.inherit(last, x.plain(family));
      x.due("the one HEIR is APART", x.apart(face, family), 1);
      x.due("from a class, too", x.apart(open, family), 1);
      x.inherit(heir, x.plain(family));
      x.due("both HEIRS are APART", x.apart(face, family), 1);
      x.inherit(heir, x.plain(face));
      x.due("a HEIR BELOW c", x.apart(face, family), 0);
      x.due("from a class still", x.apart(open, family), 1);
      int later = x.declare(FACE, 0);
      x.due("a new interface, of greater number than the HEIRS", x.apart(later, family), 1);
      x.due("the other way", x.apart(family, later), 1);
      int newest = x.declare(SEALED_FACE, 0);
      x.due("a new family", x.apart(newest, family), 1);
      x.inherit(open, x.plain(family));
      x.due("an open HEIR", x.apart(later, family), 0);
      x.due("the other way", x.apart(family, later), 0);
      x.due("d has no HEIRS, c has an open one", x.apart(family, newest), 1);
    });
    test("HEIRS are CLASSES one of whose SUPERS is of it.", x -> {
      int face = x.declare(FACE, 1), sub = x.declare(FACE, 0), c = x.declare(CLASS, 0);
      int d = x.declare(CLASS, 0), ofObject = x.of(face, OBJECT), s = x.plain(sub);
      x.due("none", x.known(face, 2), 0);
      x.inherit(sub, ofObject);
      x.inherit(c, s);
      x.inherit(d, s);
      x.inherit(d, ofObject);
      x.inherit(d, x.plain(c));
      x.due("each of them, not their HEIRS", x.known(face, 2), 2);
      x.due("one by two SUPERS", x.known(sub, 2), 2);
      x.due("one", x.known(c, 2), 1);
      x.due("of OBJECT, where none other is put in", x.known(0, 2), 1);
    });
    test("(Sealed without HEIRS: all of none.)", x -> {
      int face = x.declare(FACE, 0), family = x.declare(SEALED_FACE, 0), top = x.declare(SEALED, 0);
      int above = x.declare(SEALED_FACE, 0);
      x.due("a sealed interface", x.apart(family, face), 1);
      x.due("the other way", x.apart(face, family), 1);
      x.due("a sealed class", x.apart(top, face), 1);
      x.due("the other way", x.apart(face, top), 1);
      x.due("two of them", x.apart(family, above), 1);
      x.due("not from OBJECT", x.apart(family, 0), 0);
      x.due("not from itself", x.apart(family, family), 0);
    });
  }

  private static void termsOfDiffer() {
    test("ARGUMENTS DIFFER, if some two at one place do:", x -> {
      int two = x.declare(FACE, 2), a = x.plain(x.declare(CLASS, 0));
      int b = x.plain(x.declare(CLASS, 0));
      int any = x.wild(ANY, 0), ab = x.of(two, a, b), ba = x.of(two, b, a), aa = x.of(two, a, a);
      int aAny = x.of(two, a, any), anyB = x.of(two, any, b), anyA = x.of(two, any, a);
      x.due("the first", x.may(aa, ba), 0);
      x.due("the second", x.may(aa, ab), 0);
      x.due("both", x.may(ab, ba), 0);
      x.due("neither", x.may(aAny, anyB), 1);
      x.due("the second, beside any", x.may(anyA, anyB), 0);
      x.due("not two at two places", x.may(anyA, aAny), 1);
    });
    test("two TYPES, none of them a VARIABLE, that are not the same;", x -> {
      int list = x.declare(FACE, 1), base = x.declare(CLASS, 0), heir = x.declare(CLASS, 0);
      int a = x.plain(base), b = x.plain(heir), bare = x.plain(list), any = x.wild(ANY, 0);
      x.inherit(heir, a);
      int ofA = x.of(list, a), ofB = x.of(list, b), ofBare = x.of(list, bare);
      int ofOfA = x.of(list, ofA), ofAny = x.of(list, x.of(list, any));
      int ofRow = x.of(list, x.row(a));
      x.due("one IS the other", x.may(ofA, ofB), 0);
      x.due("BARE and of ARGUMENTS", x.may(ofBare, ofOfA), 0);
      x.due("with a WILD part", x.may(ofAny, ofOfA), 0);
      x.due("a ROW", x.may(ofRow, ofA), 0);
      x.due("OBJECT", x.may(x.of(list, OBJECT), ofA), 0);
    });
    test("or, two being not the same, one or both a VARIABLE: if some BOUND of the one (THE ERASED"
        + " of it) and the other", x -> {
      int list = x.declare(FACE, 1), base = x.declare(CLASS, 0), heir = x.declare(CLASS, 0);
      int other = x.declare(CLASS, 0), face = x.declare(FACE, 0), c = x.declare(CLASS, 2);
      int a = x.plain(base), b = x.plain(heir), o = x.plain(other), f = x.plain(face);
      x.inherit(heir, a);
      x.bind(c, 0, a);
      x.bind(c, 1, a);
      x.bind(c, 1, f);
      int v = x.of(list, x.variable(c, 0)), w = x.of(list, x.variable(c, 1));
      int free = x.of(list, x.variable(list, 0)), ofA = x.of(list, a), ofB = x.of(list, b);
      int ofO = x.of(list, o), upB = x.of(list, x.wild(UP, b)), ofRow = x.of(list, x.row(INT));
      x.due("the BOUND is the other", x.may(v, ofA), 1);
      x.due("the other IS the BOUND", x.may(v, ofB), 1);
      x.due("the BOUND IS the other", x.may(upB, ofA), 1);
      x.due("neither", x.may(v, ofO), 0);
      x.due("the VARIABLE is T's", x.may(ofO, v), 0);
      x.due("the second BOUND: neither", x.may(w, ofA), 0);
      x.due("OBJECT is the BOUND", x.may(free, ofRow), 1);
      int upList = x.of(list, x.wild(UP, ofA)), ofList = x.of(list, ofB);
      x.due("THE ERASED of both", x.may(upList, ofList), 1);
      x.due("the same VARIABLE", x.may(w, w), 1);
      int downO = x.of(list, x.wild(DOWN, o)), upF = x.of(list, x.wild(UP, f));
      x.due("the LOW is no BOUND", x.may(ofA, downO), 1);
      x.due("neither, though both may be", x.may(ofA, upF), 0);
    });
    test("(or some BOUND of it; THE ERASED) are so that neither IS the other.", x -> {
      int list = x.declare(FACE, 1), base = x.declare(CLASS, 0), face = x.declare(FACE, 0);
      int sub = x.declare(FACE, 0), c = x.declare(CLASS, 2), d = x.declare(CLASS, 2);
      int a = x.plain(base), f = x.plain(face), s = x.plain(sub);
      x.inherit(sub, f);
      x.bind(c, 0, f);
      x.bind(c, 1, a);
      x.bind(c, 1, f);
      x.bind(d, 0, s);
      x.bind(d, 1, x.variable(d, 0));
      int cf = x.of(list, x.variable(c, 0)), caf = x.of(list, x.variable(c, 1));
      int ds = x.of(list, x.variable(d, 0)), dv = x.of(list, x.variable(d, 1));
      x.due("BOUND and BOUND: one IS the other", x.may(cf, ds), 1);
      x.due("the other way", x.may(ds, cf), 1);
      x.due("one of two BOUNDS and BOUND: neither", x.may(caf, ds), 0);
      x.due("BOUND and one of two BOUNDS: neither", x.may(cf, caf), 0);
      x.due("two VARIABLES of one CLASS", x.may(ds, dv), 1);
      x.due("a BOUND that is a VARIABLE: THE ERASED of it", x.may(dv, cf), 1);
      x.due("and neither", x.may(dv, caf), 0);
      int sub1 = x.declare(CLASS, 1), any = x.wild(ANY, 0), upA = x.of(list, x.wild(UP, a));
      x.bind(sub1, 0, f);
      x.inherit(sub1, x.of(list, x.variable(sub1, 0)));
      int some = x.of(sub1, any), ofS = x.of(list, s), ofA = x.of(list, a);
      int upS = x.of(list, x.wild(UP, s)), upF = x.of(list, x.wild(UP, f));
      x.due("what is CAUGHT has the PARAMETER'S BOUND", x.may(some, ofS), 1);
      x.due("and neither", x.may(some, ofA), 0);
      x.due("two that are CAUGHT", x.may(some, upS), 1);
      x.due("two that are CAUGHT, of one", x.may(upF, upS), 1);
      x.due("two that are CAUGHT, and neither", x.may(some, upA), 0);
    });
    test("if some BOUND of the one (THE ERASED of it) and the other (or some BOUND of it; THE"
        + " ERASED) are so that neither IS the other.", x -> deepRows(x));
  }

  /** All CLASSES in a chain, each step 4 ROWS: AS 1 is of an ARGUMENT 40 ROWS deeper. */
  private static void deepRows(Run x) {
    for (int c = 1; c <= 10; c++) x.declare(FACE, 1);
    int low = x.declare(FACE, 2), name = x.plain(1);
    for (int c = 2; c <= low; c++) {
      x.due("a step", x.inherit(c, x.of(c - 1, x.rows(x.variable(c, 0), 4))), 1);
    }
    x.bind(low, 1, name);
    int any = x.wild(ANY, 0), free = x.of(1, x.variable(low, 0));
    int bound = x.of(1, x.variable(low, 1));
    int ofAny = x.of(1, any), three = x.of(1, x.wild(UP, x.rows(OBJECT, 3)));
    int names = x.of(1, x.wild(UP, x.rows(name, 3))), plain = x.of(1, x.rows(OBJECT, 3));
    int[] firsts = {
      OBJECT, x.rows(OBJECT, 4), x.rows(INT, 4), any, x.variable(low, 1),
      x.wild(UP, x.rows(x.variable(low, 1), 3)), x.wild(DOWN, x.rows(name, 3))
    };
    for (int first : firsts) {
      int deep = x.of(low, first, any);
      x.due("deep ROWS and a VARIABLE", x.may(deep, free), 1);
      x.due("a VARIABLE and deep ROWS", x.may(free, deep), 1);
      x.due("deep ROWS are no VARIABLE", x.is(deep, free), 0);
      x.due("deep ROWS and a VARIABLE with a BOUND", x.may(deep, bound), 0);
      x.due("a VARIABLE with a BOUND and deep ROWS", x.may(bound, deep), 0);
      x.due("deep ROWS and any", x.may(deep, ofAny), 1);
      x.due("deep ROWS up to fewer", x.is(deep, three), 1);
      x.due("fewer down to deep ROWS", x.may(three, deep), 1);
      x.due("deep ROWS and fewer of another", x.may(deep, names), 0);
      x.due("fewer of another and deep ROWS", x.may(names, deep), 0);
      x.due("deep ROWS and fewer, no VARIABLE", x.may(deep, plain), 0);
    }
  }

  private static void termsOfRefusals() {
    test("REFUSALS are answers:", x -> {
      x.declare(CLASS, 2);
      x.of(1, x.wild(UP, x.variable(1, 0)), OBJECT);
      for (int method = 0; method < NAMES.length; method++) {
        if (NAMES[method].equals("clear")) continue;
        for (int far : FAR) x.due("numbers far off", x.call(method, far, far, far), BAD);
      }
    });
    test("BAD (a number is none, or out of its bounds; a TYPE that may not stand there) first;",
        x -> {
      int two = x.declare(FACE, 2), six = x.rows(OBJECT, 5), any = x.wild(ANY, 0);
      int c = x.declare(CLASS, 1), ofAny = x.of(two, any, any), f = x.of(two, OBJECT, OBJECT);
      for (int k = 1; k <= 2; k++) x.inherit(c, f);
      for (int k = 1; k <= 2; k++) x.bind(c, 0, f);
      x.due("inherit: BAD ahead of FULL", x.inherit(c, ofAny), BAD);
      x.due("bind: BAD ahead of FULL", x.bind(c, 0, ofAny), BAD);
      x.due("of: BAD ahead of DEEP", x.of(two, six, INT), BAD);
      x.due("as: BAD ahead of NONE", x.as(ofAny, c), BAD);
      while (x.count(0) < MOST_CLASSES) x.declare(CLASS, 0);
      x.due("declare: BAD ahead of FULL", x.declare(5, 0), BAD);
      x.due("declare: BAD ahead of FULL", x.declare(0, 3), BAD);
      fill(x, two, MOST_TYPES);
      x.due("plain: BAD ahead of FULL", x.plain(MOST_CLASSES), BAD);
      x.due("of: BAD ahead of FULL", x.of(two, INT, six), BAD);
      x.due("wild: BAD ahead of FULL", x.wild(UP, NULL), BAD);
      x.due("variable: BAD ahead of FULL", x.variable(two, 2), BAD);
      x.due("row: BAD ahead of FULL", x.row(any), BAD);
      x.due("erased: BAD ahead of FULL", x.erased(any), BAD);
    });
    test("then what a call names, in the order named.", x -> {
      int two = x.declare(FACE, 2), c = x.declare(CLASS, 1), six = x.rows(OBJECT, 5);
      int f = x.of(two, OBJECT, OBJECT), other = x.of(two, six - 1, OBJECT), bare = x.plain(two);
      x.inherit(c, f);
      x.due("inherit: CLASH alone", x.inherit(c, other), CLASH);
      x.inherit(c, f);
      x.due("inherit: FULL ahead of CLASH", x.inherit(c, other), FULL);
      x.due("inherit: FULL ahead of CLASH", x.inherit(c, bare), FULL);
      x.due("of: DEEP alone", x.of(two, six, OBJECT), DEEP);
      x.due("wild: DEEP alone", x.wild(DOWN, six), DEEP);
      x.due("row: DEEP alone", x.row(six), DEEP);
      fill(x, two, MOST_TYPES);
      x.due("of: FULL ahead of DEEP", x.of(two, six, OBJECT), FULL);
      x.due("wild: FULL ahead of DEEP", x.wild(DOWN, six), FULL);
      x.due("row: FULL ahead of DEEP", x.row(six), FULL);
    });
    test("What is refused changes nothing.", x -> {
      int list = x.declare(FACE, 1), family = x.declare(SEALED_FACE, 0), c = x.declare(CLASS, 1);
      int a = x.plain(family), listA = x.of(list, a), listV = x.of(list, x.variable(c, 0));
      int deep = x.rows(listA, 4), any = x.wild(ANY, 0), some = x.of(c, any);
      int l = x.of(list, deep - 1);
      x.inherit(c, listA);
      x.bind(c, 0, listA);
      x.bind(c, 0, a);
      x.due("CLASH", x.inherit(c, listV), CLASH);
      x.due("CLASH by a deep one", x.inherit(c, l), CLASH);
      x.due("BAD SUPER", x.inherit(family, listV), BAD);
      x.due("FULL BOUNDS", x.bind(c, 0, listA), FULL);
      x.due("BAD BOUND", x.bind(c, 0, OBJECT), BAD);
      x.due("BAD ARGUMENT", x.of(c, INT), BAD);
      x.due("DEEP ARGUMENT", x.of(c, deep), DEEP);
      x.due("DEEP WILD", x.wild(UP, deep), DEEP);
      x.due("DEEP ROW", x.row(deep), DEEP);
      x.due("BAD CLASS", x.declare(5, 5), BAD);
      x.due("no AS", x.as(a, list), NONE);
      x.due("no such AS there", x.as(x.plain(c), list), FULL);
      x.due("BAD AS", x.as(some, list), BAD);
      x.due("no such ERASED there", x.erased(deep), FULL);
      x.due("then the next SUPER", x.inherit(c, listA), 2);
    });
  }
}
