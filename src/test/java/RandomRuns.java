import java.util.Random;

/**
 * Runs of calls by lot (the same ones each time), each answered by the program and by the Model; any difference
 * and anything thrown is printed. Numbers are mostly such as may be, at times just beyond, at times far off.
 */
public final class RandomRuns {
  private static final int[] FAR_OFF = {
    Integer.MIN_VALUE, Integer.MIN_VALUE + 1, -1000, -2, 64, 240, 512, 100000, Integer.MAX_VALUE - 1, Integer.MAX_VALUE};
  private static final int CALLS = 512;

  private final Random random;
  private final HumUnheard x = new HumUnheard();
  private final Model m = new Model();
  private final int wildness;
  /** A town of keen ears and weak sources, in which each one hears some few: best() has much to choose from. */
  private final boolean keen;
  private String call = "";

  private RandomRuns(long seed) {
    random = new Random(seed);
    wildness = new int[] {4, 30, 200, 100000}[(int) (seed % 4)];
    keen = seed % 8 >= 4;
  }

  public static void main(String[] args) {
    int runs = args.length > 0 ? Integer.parseInt(args[0]) : 400;
    int wrong = 0;
    for (long seed = 1; seed <= runs && wrong < 10; seed++) {
      RandomRuns run = new RandomRuns(seed);
      String fault = run.go();
      if (fault != null) {
        wrong++;
        System.out.println("run " + seed + ": " + fault);
      }
    }
    System.out.println(wrong == 0 ? runs + " runs by lot as due" : "runs by lot not as due");
    if (wrong != 0) System.exit(1);
  }

  private String go() {
    if (random.nextInt(4) > 0) settle();
    for (int i = 0; i < CALLS; i++) {
      long[] both;
      try {
        both = random.nextInt(12) == 0 ? text() : one(random.nextInt(60));
      } catch (RuntimeException e) {
        return "call " + i + " " + call + " threw " + e;
      }
      if (both[0] != both[1]) return "call " + i + " " + call + " answered " + both[0] + ", the model " + both[1];
    }
    return null;
  }

  private void settle() {
    if (keen) {
      for (int i = 3 + random.nextInt(10); i > 0; i--) one(8);
      for (int i = 3 + random.nextInt(7); i > 0; i--) one(10);
      for (int i = random.nextInt(10); i > 0; i--) one(12);
      return;
    }
    for (int i = random.nextInt(13); i > 0; i--) one(8);
    for (int i = random.nextInt(15); i > 0; i--) one(10);
    for (int i = random.nextInt(10); i > 0; i--) one(14);
    for (int i = random.nextInt(6); i > 0; i--) one(15);
    for (int i = random.nextInt(10); i > 0; i--) one(11);
  }

  /** A number from a to b, seldom one beyond. */
  private int in(int a, int b) {
    if (random.nextInt(wildness) == 0) {
      switch (random.nextInt(4)) {
        case 0: return a - 1;
        case 1: return b + 1;
        case 2: return FAR_OFF[random.nextInt(FAR_OFF.length)];
        default: return random.nextInt();
      }
    }
    if (random.nextInt(12) == 0) return random.nextBoolean() ? a : b;
    return b < a ? a : a + random.nextInt(b - a + 1);
  }
  private int shelf() { return random.nextInt(3) > 0 ? in(0, 2) : in(0, 7); }
  private int source() { return in(0, Math.max(0, m.sources.size() - 1)); }
  private int who() { return in(0, Math.max(0, m.people.size() - 1)); }
  private int spot() { return random.nextBoolean() ? in(0, 63) : in(0, 3) * 8 + in(0, 3); }
  private int hour() { return in(0, 239); }
  private int later(int a) { return random.nextInt(4) > 0 ? in(a, Math.max(a, Math.min(239, a + 30))) : hour(); }
  private int tone() { return random.nextBoolean() ? in(40, 50) : in(20, 99); }
  private boolean coin() { return random.nextBoolean(); }

  private long[] pair(long got, long want, String name, long... with) {
    StringBuilder b = new StringBuilder(name).append('(');
    for (int i = 0; i < with.length; i++) b.append(i == 0 ? "" : ", ").append(with[i]);
    call = b.append(')').toString();
    return new long[] {got, want};
  }

  // ---- texts ----

  private static final String[] WORDS = {"loss ", "gain ", "right ", "wrong ", "span ", "paper "};

  private String number(int a, int b) {
    String n = Integer.toString(Math.abs(in(a, b) % 10000));
    if (random.nextInt(10) == 0) n = "0" + n;
    if (random.nextInt(20) == 0) n = "00" + n;
    return n;
  }
  private String law() {
    int which = random.nextInt(6);
    int most = which == 2 || which == 3 ? 9 : which == 5 ? 239 : 99;
    return WORDS[which] + number(which == 2 || which == 3 ? 1 : 0, random.nextBoolean() ? most : Math.min(most, 12));
  }
  private String item() {
    int a = Math.max(0, Math.min(239, hour()));
    String text = (coin() ? "off " : "on ") + number(0, m.sources.size() - 1) + " from " + number(a, a)
        + " to " + number(a, Math.min(239, a + (coin() ? 20 : 200)));
    return random.nextInt(3) == 0 ? text + " each " + number(1, 99) : text;
  }
  private String someText(boolean plan) {
    StringBuilder b = new StringBuilder(plan ? item() : law());
    while (random.nextInt(3) > 0 && b.length() < 45) b.append(';').append(plan ? item() : law());
    int changes = random.nextInt(3) == 0 ? 1 + random.nextInt(2) : 0;
    for (int i = 0; i < changes && b.length() > 0; i++) {
      int at = random.nextInt(b.length());
      char sign = "onf 0123456789;lxeachtrm".charAt(random.nextInt(24));
      switch (random.nextInt(4)) {
        case 0: b.setCharAt(at, sign); break;
        case 1: b.insert(at, sign); break;
        case 2: b.deleteCharAt(at); break;
        default: b.setLength(at);
      }
    }
    if (b.length() > 60) b.setLength(60);
    return b.toString();
  }
  /** Writes a text into a row and reads it. */
  private long[] text() {
    boolean plan = coin();
    String text = random.nextInt(40) == 0 ? "" : someText(plan);
    int s = random.nextInt(8), sort = random.nextInt(4);
    x.row(s, sort, text.length());
    m.row(s, sort, text.length());
    for (int i = 0; i < text.length(); i++) {
      long v = text.charAt(i);
      if (sort == 3 && random.nextInt(4) == 0) v += 1L << 32 + random.nextInt(30);
      x.set(s, i, v);
      m.set(s, i, v);
    }
    boolean read = random.nextInt(10) == 0 ? !plan : plan;
    String named = (read ? "plan: " : "laws: ") + text;
    long[] both = pair(read ? x.plan(s) : x.laws(s), read ? m.plan(s) : m.laws(s), named, s);
    if (both[0] != both[1]) return both;
    both = pair(x.fault(), m.fault(), "fault after " + named);
    if (both[0] == both[1] && read && m.plans.size() > 0 && coin()) {
      int last = m.plans.size() - 1;
      return pair(x.force(last), m.force(last), "force", last);
    }
    return both;
  }

  // ---- calls ----

  private long[] one(int which) {
    if (which < 20) return change(which);
    return which < 40 ? tell(which) : seek(which);
  }

  private long[] change(int which) {
    int a = shelf(), b, c, d, e;
    switch (which) {
      case 0: b = in(0, 3); c = in(0, 60); return pair(x.row(a, b, c), m.row(a, b, c), "row", a, b, c);
      case 1: {
        b = in(0, 20);
        long v = coin() ? in(0, 2) : random.nextLong();
        return pair(x.set(a, b, v), m.set(a, b, v), "set", a, b, v);
      }
      case 2:
        b = shelf(); c = in(0, 20); d = in(0, 20); e = in(0, 20);
        return pair(x.copy(a, b, c, d, e), m.copy(a, b, c, d, e), "copy", a, b, c, d, e);
      case 3: b = in(0, 20); return pair(x.element(a, b), m.element(a, b), "element", a, b);
      case 4: b = random.nextInt(4) == 0 ? -1 : source(); return pair(x.show(a, b), m.show(a, b), "show", a, b);
      case 5: return pair(x.holds(a), m.holds(a), "holds", a);
      case 6: {
        b = source(); c = in(0, 7);
        x.show(1, b); m.show(1, b);
        return pair(x.says(1, c), m.says(1, c), "show and says", 1, b, c);
      }
      case 7: b = in(0, 7); return pair(x.says(a, b), m.says(a, b), "says", a, b);
      case 8: {
        a = spot(); b = tone(); c = coin() && !keen ? in(0, 99) : in(0, 9); d = coin() && !keen ? in(0, 9) : 0;
        boolean reads = coin() && !keen;
        return pair(x.person(a, b, c, d, reads), m.person(a, b, c, d, reads), "person", a, b, c, d, reads ? 1 : 0);
      }
      case 9: a = who(); b = spot(); return pair(x.go(a, b), m.go(a, b), "go", a, b);
      case 10:
        a = keen && random.nextInt(8) > 0 ? in(1, 3) : in(1, 7); b = a == 4 ? who() : spot(); c = tone();
        d = keen ? in(1, 25) : in(1, 99);
        return pair(x.source(a, b, c, d), m.source(a, b, c, d), "source", a, b, c, d);
      case 11: a = source(); b = in(0, 23); c = in(0, 23); return pair(x.hours(a, b, c), m.hours(a, b, c), "hours", a, b, c);
      case 12: a = source(); b = coin() ? in(0, 99) : in(0, 3); return pair(x.cost(a, b), m.cost(a, b), "cost", a, b);
      case 13: { a = source(); boolean is = coin(); return pair(x.off(a, is), m.off(a, is), "off", a, is ? 1 : 0); }
      case 14: a = spot(); b = in(0, 9); return pair(x.size(a, b), m.size(a, b), "size", a, b);
      case 15: a = in(0, 9); b = in(0, 1); return pair(x.weather(a, b), m.weather(a, b), "weather", a, b);
      case 16: a = random.nextInt(8) == 0 ? in(1, 100) : in(1, 5); return pair(x.pass(a), m.pass(a), "pass", a);
      case 17: return coin() ? pair(x.laws(a), m.laws(a), "laws", a) : pair(x.plan(a), m.plan(a), "plan", a);
      case 18: return pair(x.fault(), m.fault(), "fault");
      default: a = in(-1, m.plans.size() - 1); return pair(x.force(a), m.force(a), "force", a);
    }
  }

  private long[] tell(int which) {
    int a = who(), b, c, d;
    switch (which) {
      case 20: a = source(); b = hour(); return pair(x.sounds(a, b), m.sounds(a, b), "sounds", a, b);
      case 21: a = source(); b = spot(); return pair(x.reach(a, b), m.reach(a, b), "reach", a, b);
      case 22: b = tone(); return pair(x.needs(a, b), m.needs(a, b), "needs", a, b);
      case 23: case 24: b = hour(); return pair(x.hears(a, b), m.hears(a, b), "hears", a, b);
      case 25: b = hour(); return pair(x.loudest(a, b), m.loudest(a, b), "loudest", a, b);
      case 26: case 27: { boolean h = coin(); return pair(x.press(a, h), m.press(a, h), "press", a, h ? 1 : 0); }
      case 28: b = shelf(); c = in(0, 10); d = in(0, 15); return pair(x.pressed(a, b, c, d), m.pressed(a, b, c, d), "pressed", a, b, c, d);
      case 29: return manyPresses(a);
      case 30: case 31: b = tone(); return pair(x.match(a, b), m.match(a, b), "match", a, b);
      case 32: b = in(0, m.now); return pair(x.letter(a, b), m.letter(a, b), "letter", a, b);
      case 33: case 34: b = source(); return pair(x.odds(a, b), m.odds(a, b), "odds", a, b);
      case 35: b = in(1, 100); return pair(x.sure(a, b), m.sure(a, b), "sure", a, b);
      case 36: b = tone(); return pair(x.could(a, b), m.could(a, b), "could", a, b);
      case 37: return pair(x.lacks(a), m.lacks(a), "lacks", a);
      case 38: a = in(0, 5); return pair(x.law(a), m.law(a), "law", a);
      default: a = in(0, 2); return pair(x.told(a), m.told(a), "told", a);
    }
  }

  private long[] manyPresses(int a) {
    int n = random.nextInt(12), sort = random.nextInt(4);
    x.row(7, sort, n);
    m.row(7, sort, n);
    for (int i = 0; i < n; i++) {
      long v = random.nextInt(3) + (sort == 3 && coin() ? 1L << 40 : 0);
      x.set(7, i, v);
      m.set(7, i, v);
    }
    return pair(x.pressed(a, 7, 0, n), m.pressed(a, 7, 0, n), "row and pressed", a, 7, 0, n);
  }

  private long[] seek(int which) {
    int a = hour(), b = later(a), c, d;
    switch (which) {
      case 40: c = in(0, (1 << m.sources.size()) - 1); return pair(x.rid(c, a, b), m.rid(c, a, b), "rid", c, a, b);
      case 41: case 42: {
        if (m.sources.size() > 9 && random.nextInt(6) > 0) return pair(0, 0, "");
        c = coin() ? in(0, 999) : coin() ? in(0, 100) : in(0, 10);
        return pair(x.best(c, a, b), m.best(c, a, b), "best", c, a, b);
      }
      case 43: c = in(0, 30); d = in(0, 31); return pair(x.lots(c, d), m.lots(c, d), "lots", c, d);
      case 44: c = coin() ? in(0, 1000000) : in(0, 70); return pair(x.need(c), m.need(c), "need", c);
      case 45: c = who(); return pair(x.beats(c, a), m.beats(c, a), "beats", c, a);
      case 46: c = coin() ? in(1, 1000) : in(1, 70); return pair(x.halve(c), m.halve(c), "halve", c);
      case 47: case 48: c = spot(); d = in(1, 99); return pair(x.meter(c, d, a, b), m.meter(c, d, a, b), "meter", c, d, a, b);
      case 49: c = in(1, 99); return pair(x.place(c, a, b), m.place(c, a, b), "place", c, a, b);
      case 50: c = who(); return pair(x.bed(c, a, b), m.bed(c, a, b), "bed", c, a, b);
      case 51: case 52: {
        a = source(); b = in(0, 2); c = coin() ? random.nextInt() : in(-50, 50);
        return pair(x.act(a, b, c), m.act(a, b, c), "act", a, b, c);
      }
      case 53: case 54: a = in(0, 8); return pair(x.trace(a), m.trace(a), "trace", a);
      case 55: return random.nextInt(3) > 0 ? pair(0, 0, "") : pair(x.image(), m.image(), "image");
      case 56: return random.nextInt(3) > 0 ? pair(0, 0, "") : pair(x.restore(), m.restore(), "restore");
      default: a = in(0, 17); return pair(x.status(a), m.status(a), "status", a);
    }
  }
}
