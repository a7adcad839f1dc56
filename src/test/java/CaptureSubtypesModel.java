import java.util.ArrayList;
import java.util.HashMap;
import java.util.List;
import java.util.Map;
import java.util.Random;

/**
 * Long runs of drawn calls, each answer held against a slow second program that follows the
 * document's terms word by word with trees of objects. The draws have fixed seeds.
 */
public final class CaptureSubtypesModel {
  static final int NONE = -1, BAD = -2, FULL = -3, DEEP = -4, CLASH = -5;
  static final int RUNS = 3000, CALLS = 512;

  // ---------------------------------------------------------------- the second program

  /** A type as a tree. Bounds and low are filled in only for variables that were caught. */
  static final class T {
    final int sort;
    final int cls;
    final int index;
    final T[] parts;
    final String text;
    List<T> bounds;
    T low;

    T(int sort, int cls, int index, T[] parts, String text) {
      this.sort = sort;
      this.cls = cls;
      this.index = index;
      this.parts = parts;
      this.text = text;
    }

    boolean same(T o) {
      return text.equals(o.text);
    }
  }

  static final T[] NO_PARTS = new T[0];
  static final T OBJECT = new T(0, 0, -1, NO_PARTS, "C0");
  static final T INT = new T(6, -1, -1, NO_PARTS, "int");
  static final T NULL = new T(7, -1, -1, NO_PARTS, "null");

  static final class C {
    int kind;
    int parameters;
    T parent;
    List<T> faces = new ArrayList<>();
    List<List<T>> bounds = new ArrayList<>();
  }

  static final class Model {
    List<C> classes = new ArrayList<>();
    List<T> types = new ArrayList<>();
    Map<String, Integer> numbers = new HashMap<>();
    int caught = 0;

    Model() {
      fill();
    }

    void fill() {
      classes.clear();
      types.clear();
      numbers.clear();
      C object = new C();
      classes.add(object);
      enter(OBJECT);
      enter(INT);
      enter(NULL);
    }

    int enter(T t) {
      Integer there = numbers.get(t.text);
      if (there != null) return there;
      if (types.size() == 150) return FULL;
      if (deep(t) > 6) return DEEP;
      numbers.put(t.text, types.size());
      types.add(t);
      return types.size() - 1;
    }

    int deep(T t) {
      int most = 0;
      for (T p : t.parts) most = Math.max(most, deep(p));
      return most + 1;
    }

    boolean isClass(int c) {
      return c >= 0 && c < classes.size();
    }

    T at(int n) {
      return n >= 0 && n < types.size() ? types.get(n) : null;
    }

    T name(int c) {
      return classes.get(c).parameters == 0
          ? (c == 0 ? OBJECT : new T(0, c, -1, NO_PARTS, "C" + c))
          : new T(1, c, -1, NO_PARTS, "C" + c);
    }

    T with(int c, T[] arguments) {
      StringBuilder b = new StringBuilder("C" + c + "<");
      for (T a : arguments) b.append(a.text).append(';');
      return new T(2, c, -1, arguments, b.append('>').toString());
    }

    T param(int c, int i) {
      return new T(3, c, i, NO_PARTS, "V" + c + "." + i);
    }

    T rowOf(T t) {
      return new T(4, -1, -1, new T[] {t}, "[" + t.text + "]");
    }

    T wildOf(int kind, T t) {
      return kind == 0
          ? new T(5, 0, -1, NO_PARTS, "?")
          : new T(5, kind, -1, new T[] {t}, "?" + (kind == 1 ? "+" : "-") + t.text);
    }

    boolean ofClass(T t) {
      return t.sort <= 2;
    }

    List<T> supers(int c) {
      List<T> all = new ArrayList<>();
      C k = classes.get(c);
      if (c != 0 && k.kind <= 2) all.add(k.parent == null ? OBJECT : k.parent);
      all.addAll(k.faces);
      return all;
    }

    boolean under(int c, int d) {
      if (c == d || d == 0) return true;
      for (T s : supers(c)) if (under(s.cls, d)) return true;
      return false;
    }

    List<Integer> heirs(int c) {
      List<Integer> all = new ArrayList<>();
      for (int h = 0; h < classes.size(); h++) {
        for (T s : supers(h)) {
          if (s.cls == c) {
            all.add(h);
            break;
          }
        }
      }
      return all;
    }

    boolean areApart(int c, int d) {
      if (under(c, d) || under(d, c)) return false;
      int k = classes.get(c).kind, l = classes.get(d).kind;
      if (k <= 2 && l <= 2) return true;
      if (k == 1 || l == 1) return true;
      if (k == 2 || k == 4) {
        boolean all = true;
        for (int h : heirs(c)) all &= areApart(h, d);
        if (all) return true;
      }
      if (l == 2 || l == 4) {
        boolean all = true;
        for (int h : heirs(d)) all &= areApart(h, c);
        if (all) return true;
      }
      return false;
    }

    List<T> boundsOf(T v) {
      if (v.bounds != null) return v.bounds;
      List<T> put = classes.get(v.cls).bounds.get(v.index);
      return put.isEmpty() ? List.of(OBJECT) : put;
    }

    T substitute(T t, int c, T[] arguments) {
      if (t.sort == 3 && t.bounds == null && t.cls == c) return arguments[t.index];
      if (t.sort == 2) {
        T[] parts = new T[t.parts.length];
        for (int i = 0; i < parts.length; i++) parts[i] = substitute(t.parts[i], c, arguments);
        return with(t.cls, parts);
      }
      if (t.sort == 4) return rowOf(substitute(t.parts[0], c, arguments));
      if (t.sort == 5 && t.cls != 0) return wildOf(t.cls, substitute(t.parts[0], c, arguments));
      return t;
    }

    T capture(T t) {
      if (t.sort != 2) return t;
      T[] arguments = t.parts.clone();
      boolean any = false;
      for (int i = 0; i < arguments.length; i++) {
        if (arguments[i].sort == 5) {
          any = true;
          T v = new T(3, t.cls, i, NO_PARTS, "Z" + caught++);
          v.bounds = new ArrayList<>();
          arguments[i] = v;
        }
      }
      if (!any) return t;
      for (int i = 0; i < arguments.length; i++) {
        T wild = t.parts[i];
        if (wild.sort == 5) {
          if (wild.cls == 1) arguments[i].bounds.add(wild.parts[0]);
          if (wild.cls == 2) arguments[i].low = wild.parts[0];
          for (T b : boundsOf(param(t.cls, i))) {
            arguments[i].bounds.add(substitute(b, t.cls, arguments));
          }
        }
      }
      return with(t.cls, arguments);
    }

    T erase(T t) {
      if (ofClass(t)) return name(t.cls);
      if (t.sort == 3) return erase(boundsOf(t).get(0));
      if (t.sort == 4) return rowOf(erase(t.parts[0]));
      return t;
    }

    T asOf(T type, int d) {
      if (d == 0) return OBJECT;
      T t = capture(type);
      if (t.cls == d) return t;
      for (T s : supers(t.cls)) {
        if (under(s.cls, d)) {
          if (t.sort == 1) return asOf(erase(s), d);
          return asOf(t.sort == 2 ? substitute(s, t.cls, t.parts) : s, d);
        }
      }
      throw new IllegalStateException("not below");
    }

    boolean isOne(T s, T t) {
      if (s.same(t)) return true;
      if (s == NULL) return t != INT;
      if (t == OBJECT) return s != INT;
      if (s.sort == 3) for (T b : boundsOf(s)) if (isOne(b, t)) return true;
      if (t.low != null && isOne(s, t.low)) return true;
      if (s.sort == 4 && t.sort == 4) {
        T a = s.parts[0], b = t.parts[0];
        return a.same(b) || a != INT && b != INT && isOne(a, b);
      }
      if (ofClass(s) && ofClass(t) && under(s.cls, t.cls)) {
        if (t.sort != 2) return true;
        T view = asOf(s, t.cls);
        if (view.sort != 2) return false;
        for (int i = 0; i < t.parts.length; i++) {
          if (!isIn(view.parts[i], t.parts[i])) return false;
        }
        return true;
      }
      return false;
    }

    boolean isIn(T a, T b) {
      if (a.same(b)) return true;
      if (b.sort != 5) return false;
      if (b.cls == 0) return true;
      return b.cls == 1 ? isOne(a, b.parts[0]) : isOne(b.parts[0], a);
    }

    boolean loose(T s, T t) {
      if (t.sort != 2) return false;
      if (s.sort == 3) {
        for (T b : boundsOf(s)) if (loose(b, t)) return true;
        return false;
      }
      return ofClass(s) && under(s.cls, t.cls) && asOf(s, t.cls).sort == 1;
    }

    boolean mayBe(T s, T t) {
      if (isOne(s, t) || isOne(t, s)) return true;
      if (s == INT || t == INT) return false;
      if (s.sort == 3) {
        for (T b : boundsOf(s)) if (!mayBe(b, t)) return false;
        return true;
      }
      if (t.sort == 3) {
        for (T b : boundsOf(t)) if (!mayBe(s, b)) return false;
        return true;
      }
      if (s.sort == 4 && t.sort == 4) return mayBe(s.parts[0], t.parts[0]);
      if (!ofClass(s) || !ofClass(t) || areApart(s.cls, t.cls)) return false;
      for (int g = 0; g < classes.size(); g++) {
        if (under(s.cls, g) && under(t.cls, g)) {
          T a = asOf(s, g), b = asOf(t, g);
          if (a.sort == 2 && b.sort == 2) {
            for (int i = 0; i < a.parts.length; i++) {
              if (differ(a.parts[i], b.parts[i])) return false;
            }
          }
        }
      }
      return true;
    }

    boolean differ(T a, T b) {
      if (a.same(b)) return false;
      if (a.sort != 3 && b.sort != 3) return true;
      for (T x : a.sort == 3 ? boundsOf(a) : List.of(a)) {
        for (T y : b.sort == 3 ? boundsOf(b) : List.of(b)) {
          if (!isOne(erase(x), erase(y)) && !isOne(erase(y), erase(x))) return true;
        }
      }
      return false;
    }

    boolean strange(T t, int c) {
      if (t.sort == 5 || t.sort == 3 && t.cls != c) return true;
      for (T p : t.parts) if (strange(p, c)) return true;
      return false;
    }

    boolean clash() {
      for (int c = 1; c < classes.size(); c++) {
        for (int d = 1; d < classes.size(); d++) {
          T seen = null;
          for (T s : supers(c)) {
            if (under(s.cls, d)) {
              T view = asOf(s, d);
              if (seen != null && !seen.same(view)) return true;
              seen = view;
            }
          }
        }
      }
      return false;
    }

    boolean argument(T t) {
      return t != null && t != INT && t != NULL;
    }

    int call(int method, int x, int y, int z) {
      switch (method) {
        case 0: return declare(x, y);
        case 1: return inherit(x, y);
        case 2: return bind(x, y, z);
        case 3: return isClass(x) ? enter(name(x)) : BAD;
        case 4: {
          if (!isClass(x) || classes.get(x).parameters == 0 || !argument(at(y))) return BAD;
          if (classes.get(x).parameters == 1) return enter(with(x, new T[] {at(y)}));
          return argument(at(z)) ? enter(with(x, new T[] {at(y), at(z)})) : BAD;
        }
        case 5: {
          if (x == 0) return enter(wildOf(0, null));
          if (x < 0 || x > 2 || !argument(at(y)) || at(y).sort == 5) return BAD;
          return enter(wildOf(x, at(y)));
        }
        case 6: {
          if (!isClass(x) || y < 0 || y >= classes.get(x).parameters) return BAD;
          return enter(param(x, y));
        }
        case 7: return alone(x) && at(x) != NULL ? enter(rowOf(at(x))) : BAD;
        case 8: return x == 0 ? classes.size() : x == 1 ? types.size() : BAD;
        case 9: return told(x, y);
        case 10: return known(x, y);
        case 11: return isClass(x) && isClass(y) ? (under(x, y) ? 1 : 0) : BAD;
        case 12: return isClass(x) && isClass(y) ? (areApart(x, y) ? 1 : 0) : BAD;
        case 13:
          if (!alone(x) || !alone(y)) return BAD;
          return isOne(at(x), at(y)) ? 1 : loose(at(x), at(y)) ? 2 : 0;
        case 14:
          if (!alone(x) || !alone(y) || at(y) == NULL) return BAD;
          return mayBe(at(x), at(y)) ? 1 : 0;
        case 15: {
          if (!alone(x) || !isClass(y)) return BAD;
          if (at(x).sort == 2) for (T a : at(x).parts) if (a.sort == 5) return BAD;
          if (!ofClass(at(x)) || !under(at(x).cls, y)) return NONE;
          return numbers.getOrDefault(asOf(at(x), y).text, FULL);
        }
        case 16:
          if (!alone(x) || at(x) == INT || at(x) == NULL) return BAD;
          return numbers.getOrDefault(erase(at(x)).text, FULL);
        case 17: return good(x);
        default: {
          int n = classes.size();
          fill();
          return n;
        }
      }
    }

    boolean alone(int n) {
      return at(n) != null && at(n).sort != 5;
    }

    int declare(int kind, int parameters) {
      if (kind < 0 || kind > 4 || parameters < 0 || parameters > 2) return BAD;
      if (classes.size() == 12) return FULL;
      C c = new C();
      c.kind = kind;
      c.parameters = parameters;
      for (int i = 0; i < parameters; i++) c.bounds.add(new ArrayList<>());
      classes.add(c);
      return classes.size() - 1;
    }

    int inherit(int c, int n) {
      T t = at(n);
      if (!isClass(c) || t == null || !ofClass(t) || t.cls >= c || t.same(OBJECT)) return BAD;
      int above = classes.get(t.cls).kind, own = classes.get(c).kind;
      if (above == 1 || strange(t, c) || own >= 3 && above < 3) return BAD;
      C k = classes.get(c);
      if (above < 3) {
        if (k.parent != null) return FULL;
        k.parent = t;
        if (clash()) {
          k.parent = null;
          return CLASH;
        }
      } else {
        if (k.faces.size() == 2) return FULL;
        k.faces.add(t);
        if (clash()) {
          k.faces.remove(k.faces.size() - 1);
          return CLASH;
        }
      }
      return k.faces.size() + (k.parent == null ? 0 : 1);
    }

    int bind(int c, int i, int n) {
      T t = at(n);
      if (!isClass(c) || i < 0 || i >= classes.get(c).parameters || t == null) return BAD;
      if (t.sort > 3 || t.same(OBJECT) || strange(t, c)) return BAD;
      if (t.sort == 3 && t.index >= i) return BAD;
      List<T> bounds = classes.get(c).bounds.get(i);
      if (!bounds.isEmpty() && (t.sort == 3 || classes.get(t.cls).kind < 3)) return BAD;
      if (bounds.size() == 2) return FULL;
      bounds.add(t);
      return bounds.size();
    }

    int told(int n, int what) {
      T t = at(n);
      if (t == null || what < 0 || what > 4) return BAD;
      if (what == 0) return t.sort;
      if (what == 1) return t.cls;
      if (what == 4) return deep(t);
      if (t.sort == 3) return what == 2 ? t.index : NONE;
      return t.parts.length > what - 2 ? numbers.get(t.parts[what - 2].text) : NONE;
    }

    int known(int c, int what) {
      if (!isClass(c)) return BAD;
      switch (what) {
        case 0: return classes.get(c).kind;
        case 1: return classes.get(c).parameters;
        case 2: return heirs(c).size();
        case 3: {
          int n = 0;
          for (int k = 0; k < classes.size(); k++) if (under(k, c)) n++;
          return n;
        }
        default: return BAD;
      }
    }

    int good(int n) {
      T t = at(n);
      if (t == null || t.sort != 2) return BAD;
      T held = capture(t);
      for (int i = 0; i < t.parts.length; i++) {
        if (t.parts[i].sort == 5) continue;
        for (T b : boundsOf(param(t.cls, i))) {
          if (!isOne(t.parts[i], substitute(b, t.cls, held.parts))) return 0;
        }
      }
      return 1;
    }
  }

  // ---------------------------------------------------------------- the runs

  static final String[] NAMES = {
    "declare", "inherit", "bind", "plain", "of", "wild", "variable", "row", "count", "told",
    "known", "below", "apart", "is", "may", "as", "erased", "good", "clear"
  };

  static int ask(CaptureSubtypes o, int method, int x, int y, int z) {
    switch (method) {
      case 0: return o.declare(x, y);
      case 1: return o.inherit(x, y);
      case 2: return o.bind(x, y, z);
      case 3: return o.plain(x);
      case 4: return o.of(x, y, z);
      case 5: return o.wild(x, y);
      case 6: return o.variable(x, y);
      case 7: return o.row(x);
      case 8: return o.count(x);
      case 9: return o.told(x, y);
      case 10: return o.known(x, y);
      case 11: return o.below(x, y);
      case 12: return o.apart(x, y);
      case 13: return o.is(x, y);
      case 14: return o.may(x, y);
      case 15: return o.as(x, y);
      case 16: return o.erased(x);
      case 17: return o.good(x);
      default: return o.clear();
    }
  }

  /** Draws that build come early in a run, draws that ask come late. */
  static int method(Random r, int call, int building) {
    boolean build = call < building ? r.nextInt(10) < 9 : r.nextInt(10) == 0;
    int[] makers = {0, 1, 1, 1, 2, 2, 3, 4, 4, 4, 4, 5, 5, 6, 6, 7};
    int[] askers = {8, 9, 10, 11, 12, 13, 13, 13, 13, 13, 13, 14, 14, 14, 14, 14, 15, 15, 16, 17, 17};
    if (r.nextInt(2000) == 0) return 18;
    return build ? makers[r.nextInt(makers.length)] : askers[r.nextInt(askers.length)];
  }

  static int type(Random r, Model m) {
    if (r.nextInt(40) == 0) return r.nextInt(400) - 20;
    int n = m.types.size();
    return r.nextInt(3) == 0 ? n - 1 - r.nextInt(Math.min(n, 8)) : r.nextInt(n);
  }

  /** Mostly one that is not wild. */
  static int aloneType(Random r, Model m) {
    int n = type(r, m);
    for (int tries = 0; tries < 5 && r.nextInt(10) > 0 && !m.alone(n); tries++) n = type(r, m);
    return n;
  }

  /** Mostly one of arguments, as those are what there is most to ask about. */
  static int richType(Random r, Model m) {
    int n = aloneType(r, m);
    for (int tries = 0; tries < 5 && r.nextInt(3) > 0; tries++) {
      if (m.at(n) != null && m.at(n).sort >= 2 && m.alone(n)) return n;
      n = aloneType(r, m);
    }
    return n;
  }

  /** Mostly one with parameters. */
  static int richClass(Random r, Model m) {
    int c = cls(r, m);
    for (int tries = 0; tries < 5 && r.nextInt(10) > 0; tries++) {
      if (m.isClass(c) && m.classes.get(c).parameters > 0) return c;
      c = cls(r, m);
    }
    return c;
  }

  static int cls(Random r, Model m) {
    if (r.nextInt(40) == 0) return r.nextInt(20) - 4;
    return r.nextInt(m.classes.size());
  }

  /** A type that may well be a super of c: of its own words, not wild. */
  static int word(Random r, Model m, int c) {
    int n = 0;
    for (int tries = 0; tries < 20; tries++) {
      n = type(r, m);
      T t = m.at(n);
      if (t != null && m.ofClass(t) && t.cls != 0 && !m.strange(t, c)) return n;
    }
    return n;
  }

  static int wrong = 0;
  static final int[] answered = new int[NAMES.length * 10];

  static void run(int seed) {
    Random r = new Random(seed * 0x9E3779B97F4A7C15L);
    Model m = new Model();
    CaptureSubtypes o = new CaptureSubtypes();
    boolean crowded = r.nextInt(8) == 0;
    int building = crowded ? 460 : 40 + r.nextInt(160);
    int many = 1 + r.nextInt(11);
    for (int call = 0; call < CALLS; call++) {
      int f = method(r, call, building);
      if (m.classes.size() <= many && r.nextInt(4) == 0 && call < building) f = 0;
      if (crowded && call < building && r.nextInt(2) == 0) f = 4;
      int x = 0, y = 0, z = 0;
      if (f == 0) {
        x = r.nextInt(30) == 0 ? r.nextInt(9) - 2 : r.nextInt(5);
        y = r.nextInt(30) == 0 ? r.nextInt(6) - 2 : r.nextInt(3);
      } else if (f == 1) {
        x = cls(r, m);
        y = word(r, m, x);
      } else if (f == 2) {
        x = richClass(r, m);
        y = r.nextInt(4) == 0 ? r.nextInt(4) - 1 : r.nextInt(2);
        z = r.nextInt(4) == 0 ? type(r, m) : word(r, m, x);
      } else if (f == 4) {
        x = richClass(r, m);
        y = crowded ? r.nextInt(Math.min(40, m.types.size())) : type(r, m);
        z = crowded ? r.nextInt(Math.min(40, m.types.size())) : type(r, m);
      } else if (f == 5) {
        x = r.nextInt(20) == 0 ? r.nextInt(6) - 2 : r.nextInt(3);
        y = aloneType(r, m);
      } else if (f == 6) {
        x = richClass(r, m);
        y = r.nextInt(8) == 0 ? r.nextInt(5) - 1 : r.nextInt(2);
      } else if (f == 8) {
        x = r.nextInt(4) - 1;
      } else if (f == 9) {
        x = type(r, m);
        y = r.nextInt(7) - 1;
      } else if (f == 10) {
        x = cls(r, m);
        y = r.nextInt(6) - 1;
      } else if (f == 3 || f == 11 || f == 12) {
        x = cls(r, m);
        y = cls(r, m);
      } else {
        x = richType(r, m);
        y = f == 15 ? cls(r, m) : richType(r, m);
      }
      if (!agree(m, o, "run " + seed + ", call " + call, f, x, y, z)) return;
    }
  }

  static boolean agree(Model m, CaptureSubtypes o, String where, int f, int x, int y, int z) {
    int before = wrong;
    both(m, o, where, f, x, y, z);
    return wrong == before;
  }

  /** Few classes with bounds of themselves, and wilds inside wilds as deep as they go. */
  static void deepRun(int seed) {
    Random r = new Random(seed * 0xD1342543DE82EF95L + 1);
    Model m = new Model();
    CaptureSubtypes o = new CaptureSubtypes();
    String where = "deep run " + seed;
    int classes = 2 + r.nextInt(4);
    boolean same = true;
    for (int c = 1; c <= classes; c++) {
      same &= agree(m, o, where, 0, r.nextBoolean() ? 3 : 0, r.nextInt(5) == 0 ? 0 : 1 + r.nextInt(2), 0);
    }
    for (int c = 1; c <= classes; c++) {
      for (int i = 0; i < 2; i++) same &= agree(m, o, where, 6, c, i, 0);
      if (r.nextInt(3) == 0) same &= agree(m, o, where, 3, c, 0, 0);
    }
    for (int k = 0; k < 12; k++) {
      same &= agree(m, o, where, 4, 1 + r.nextInt(classes), richType(r, m), richType(r, m));
    }
    for (int k = 0; k < 60; k++) {
      int c = 1 + r.nextInt(classes), t = word(r, m, c);
      if (r.nextBoolean()) same &= agree(m, o, where, 1, c, t, 0);
      else same &= agree(m, o, where, 2, c, r.nextInt(2), r.nextInt(4) == 0 ? richType(r, m) : t);
    }
    same &= agree(m, o, where, 5, 0, 0, 0);
    for (int k = 0; k < 150; k++) {
      int draw = r.nextInt(10);
      if (draw < 4) same &= agree(m, o, where, 5, 1 + r.nextInt(2), richType(r, m), 0);
      else if (draw < 9) same &= agree(m, o, where, 4, 1 + r.nextInt(classes), lateWild(r, m), lateWild(r, m));
      else same &= agree(m, o, where, 7, richType(r, m), 0, 0);
    }
    int[] askers = {13, 13, 14, 15, 17};
    for (int k = 0; k < 250 && same; k++) {
      int f = askers[r.nextInt(askers.length)];
      same = agree(m, o, where, f, richType(r, m), f == 15 ? r.nextInt(classes + 1) : richType(r, m), 0);
    }
  }

  /**
   * Classes in a chain, each above the next with rows and classes around its variables, so that
   * the view from the first of them is of arguments far deeper than any type that is there.
   */
  static void chainRun(int seed) {
    Random r = new Random(seed * 0xA0761D6478BD642FL + 7);
    Model m = new Model();
    CaptureSubtypes o = new CaptureSubtypes();
    String where = "chain run " + seed;
    int before = wrong;
    int classes = 5 + r.nextInt(7), faces = r.nextInt(classes + 1);
    boolean onlyRows = r.nextBoolean();
    for (int c = 1; c <= classes; c++) {
      both(m, o, where, 0, c <= faces ? 3 : 0, r.nextInt(6) == 0 ? 2 : 1, 0);
    }
    for (int c = 2; c <= classes; c++) {
      int first = wrapped(r, m, o, where, both(m, o, where, 6, c, 0, 0), 4, onlyRows);
      int other = m.classes.get(c).parameters == 2 ? both(m, o, where, 6, c, 1, 0) : first;
      both(m, o, where, 1, c, both(m, o, where, 4, c - 1, first, other), 0);
    }
    for (int k = 0; k < 4; k++) {
      int c = richClass(r, m);
      both(m, o, where, 2, c, r.nextInt(2), word(r, m, c));
    }
    int any = both(m, o, where, 5, 0, 0, 0);
    for (int k = 0; k < 30; k++) {
      int c = r.nextInt(3) == 0 ? 1 : r.nextBoolean() ? classes : 1 + r.nextInt(classes);
      int x = wrapped(r, m, o, where, richType(r, m), r.nextInt(4), onlyRows);
      if (r.nextInt(3) == 0) x = both(m, o, where, 5, 1 + r.nextInt(2), x, 0);
      if (r.nextInt(8) == 0) x = any;
      both(m, o, where, 4, c, r.nextInt(5) == 0 ? both(m, o, where, 6, c, 0, 0) : x, richType(r, m));
    }
    int[] askers = {13, 14, 14, 14, 15, 16, 17};
    for (int k = 0; k < 200 && wrong == before; k++) {
      int f = askers[r.nextInt(askers.length)];
      both(m, o, where, f, richType(r, m), f == 15 ? r.nextInt(classes + 1) : richType(r, m), 0);
    }
  }

  /** The type with rows or classes of one argument around it; as it is where there is no room. */
  static int wrapped(
      Random r, Model m, CaptureSubtypes o, String where, int type, int times, boolean onlyRows) {
    int t = type;
    for (int k = 0; k < times; k++) {
      int next = onlyRows || r.nextInt(4) > 0
          ? both(m, o, where, 7, t, 0, 0)
          : both(m, o, where, 4, richClass(r, m), t, t);
      if (next < 0) return t;
      t = next;
    }
    return t;
  }

  /** The answer that both are to give. */
  static int both(Model m, CaptureSubtypes o, String where, int f, int x, int y, int z) {
    int due = m.call(f, x, y, z);
    int got = ask(o, f, x, y, z);
    met(f, due);
    if (got != due) {
      wrong++;
      System.out.println(where + ": " + NAMES[f] + "(" + x + ", " + y + ", " + z + ") answered "
          + got + ", due is " + due);
    }
    return due;
  }

  static void met(int f, int answer) {
    answered[f * 10 + Math.max(0, Math.min(9, answer + 5))]++;
  }

  static int lateWild(Random r, Model m) {
    for (int tries = 0; tries < 6; tries++) {
      int n = m.types.size() - 1 - r.nextInt(Math.min(m.types.size(), 30));
      if (m.at(n).sort == 5) return n;
    }
    return richType(r, m);
  }

  /** A comparison that never meets an answer shows nothing of it. */
  static void expectMet(String method, int answer) {
    for (int f = 0; f < NAMES.length; f++) {
      if (NAMES[f].equals(method) && answered[f * 10 + answer + 5] == 0) {
        wrong++;
        System.out.println("no run met " + method + " answering " + answer);
      }
    }
  }

  public static void main(String[] args) {
    int runs = args.length > 0 ? Integer.parseInt(args[0]) : RUNS;
    for (int seed = 0; seed < runs && wrong < 20; seed++) {
      run(seed);
      deepRun(seed);
      chainRun(seed);
    }
    for (int answer : new int[] {BAD, 0, 1, 2}) expectMet("is", answer);
    for (int answer : new int[] {BAD, 0, 1}) expectMet("may", answer);
    for (int answer : new int[] {BAD, 0, 1}) expectMet("good", answer);
    for (int answer : new int[] {BAD, FULL, CLASH, 1, 2, 3}) expectMet("inherit", answer);
    for (int answer : new int[] {BAD, FULL, 1, 2}) expectMet("bind", answer);
    for (int answer : new int[] {BAD, FULL, NONE, 0}) expectMet("as", answer);
    for (String maker : new String[] {"of", "wild", "row"}) {
      for (int answer : new int[] {BAD, FULL, DEEP}) expectMet(maker, answer);
    }
    for (String maker : new String[] {"plain", "variable"}) {
      for (int answer : new int[] {BAD, FULL}) expectMet(maker, answer);
    }
    if (args.length > 0) {
      for (int f = 0; f < NAMES.length; f++) {
        StringBuilder b = new StringBuilder(NAMES[f] + ":");
        for (int a = 0; a < 10; a++) b.append(' ').append(a - 5).append('=').append(answered[f * 10 + a]);
        System.out.println(b);
      }
    }
    System.out.println(wrong == 0 ? "all answers agree" : wrong + " faults");
    if (wrong != 0) System.exit(1);
  }
}
