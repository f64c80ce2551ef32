import java.util.ArrayList;
import java.util.Arrays;
import java.util.List;
import java.util.Set;
import java.util.TreeSet;
import java.util.function.IntPredicate;
import java.util.regex.Matcher;
import java.util.regex.Pattern;

/**
 * The document once more, written without a thought of speed or size and in another way than the program:
 * sources as a tree of classes, texts by patterns, sets by trying all of them. RandomRuns holds the two together.
 */
final class Model {
  static final int NONE = -1;

  // ---- the sources, a class for each KIND ----

  class Hum {
    int number, where, tone, strength, p = 0, q = 23, cost = 0;
    boolean off = false;

    boolean isOff(int hour) {
      Boolean last = null;
      if (force != NONE) {
        for (Item item : plans.get(force)) {
          if (item.source == number && item.isOf(hour)) last = item.off;
        }
      }
      return last == null ? off : last;
    }
    boolean sounds(int hour) { return !isOff(hour); }
    int plain(int spot) { return Math.max(0, strength - laws[0] * far(where, spot)); }
    int reaches(int spot) { return plain(spot); }
    boolean stands(int spot) { return sizes[spot] > 0 && tone % sizes[spot] == 0; }
    int level(int spot) {
      int level = reaches(spot);
      return stands(spot) && level > 0 ? level + laws[1] : level;
    }
    boolean heardBy(Person one, int spot) {
      return level(spot) > 0 && level(spot) >= one.needs(tone);
    }
    boolean inAir() { return true; }
    Integer says(int kind) { return kind == 0 ? (Integer) tone : null; }
    int actSounds(int x) { trace.add(10); return x + number; }
    int actReaches(int x) { trace.add(11); return actSounds(x) * 2; }
    int actHears(int x) { trace.add(12); int a = actReaches(x); int b = actSounds(x - tone); return a ^ b; }
  }
  class Fan extends Hum {
    boolean asFan(int hour) {
      Set<Integer> hours = new TreeSet<>();
      for (int h = p; h != q; h = (h + 1) % 24) hours.add(h);
      hours.add(q);
      return !isOff(hour) && hours.contains(hour % 24);
    }
    @Override boolean sounds(int hour) { return asFan(hour); }
    @Override Integer says(int kind) { return kind == 1 ? (Integer) (100 * p + q) : super.says(kind); }
    @Override int actSounds(int x) { trace.add(20); return super.actSounds(x) * 3; }
  }
  class Ground extends Hum {
    @Override int reaches(int spot) { return Math.max(0, strength - laws[0] * far(where, spot) / 4); }
    @Override Integer says(int kind) { return kind == 2 ? (Integer) where : super.says(kind); }
    @Override int actReaches(int x) { trace.add(30); return super.actReaches(x) + tone; }
  }
  class Room extends Hum {
    @Override int reaches(int spot) { return stands(spot) ? 2 * plain(spot) : plain(spot); }
    @Override Integer says(int kind) { return kind == 3 ? (Integer) where : super.says(kind); }
    @Override int actReaches(int x) { trace.add(40); return super.actReaches(x + 1); }
    @Override int actHears(int x) { trace.add(41); return -super.actHears(x); }
  }
  class Ear extends Hum {
    @Override int level(int spot) { return strength; }
    @Override boolean heardBy(Person one, int spot) { return people.indexOf(one) == where; }
    @Override boolean inAir() { return false; }
    @Override Integer says(int kind) { return kind == 4 ? (Integer) where : super.says(kind); }
    @Override int actHears(int x) { trace.add(50); return super.actHears(x) - number; }
  }
  class Told extends Hum {
    @Override boolean sounds(int hour) { return !isOff(hour) && hour >= laws[5]; }
    @Override int level(int spot) { return strength; }
    @Override boolean heardBy(Person one, int spot) { return one.reads; }
    @Override boolean inAir() { return false; }
    @Override Integer says(int kind) { return kind == 5 ? (Integer) laws[5] : super.says(kind); }
    @Override int actSounds(int x) { trace.add(60); return super.actSounds(x) ^ 5; }
  }
  class Far extends Hum {
    @Override boolean sounds(int hour) { return !isOff(hour) && weather[hour / 24] == 1; }
    @Override int reaches(int spot) { return Math.max(0, strength - laws[0]); }
    @Override Integer says(int kind) { return kind == 6 ? (Integer) Arrays.stream(weather).sum() : super.says(kind); }
    @Override int actHears(int x) { trace.add(70); return super.actHears(x) * 2; }
  }
  class Mixed extends Fan {
    @Override boolean sounds(int hour) {
      if (!asFan(hour)) return false;
      for (Hum other : sources) {
        if (other != this && other instanceof Fan && apart(other.tone, tone) && ((Fan) other).asFan(hour)) return true;
      }
      return false;
    }
    @Override int reaches(int spot) { return plain(spot) > 0 ? plain(spot) + 6 : 0; }
    @Override Integer says(int kind) { return kind == 7 ? (Integer) (100 * p + q) : super.says(kind); }
    @Override int actSounds(int x) { trace.add(80); return super.actSounds(x - 1); }
    @Override int actReaches(int x) { trace.add(81); return super.actReaches(x) + 9; }
  }

  static final class Person {
    int spot, best, least, slope;
    boolean reads;
    int needs(int tone) { return least + slope * Math.abs(tone - best); }
  }
  static final class Item {
    boolean off;
    int source, from, to, each;
    boolean isOf(int hour) {
      for (int h = hour; h >= 0; h -= each) {
        if (h >= from && h <= to) return true;
        if (each == 0) return false;
      }
      return false;
    }
  }
  /** A PRESS (hour at least 0) or a MATCH. */
  record Sign(int person, int hour, int spot, boolean heard, int tone) { }
  record Letter(int person, int came, int since) { }

  List<Person> people = new ArrayList<>();
  List<Hum> sources = new ArrayList<>();
  List<List<Item>> plans = new ArrayList<>();
  List<Sign> signs = new ArrayList<>();
  List<Letter> letters = new ArrayList<>();
  int[] sizes = new int[64], weather = new int[10], laws = {5, 10, 4, 1, 2, 0};
  int now = 0, force = NONE, fault = NONE;
  List<Integer> trace = new ArrayList<>();
  int[] refused = new int[8];
  /** Null, a Long list of a ROW behind its SORT, or an Integer: a SOURCE. */
  Object[] shelves = new Object[8];
  Model image = null;

  static final class Row {
    int sort;
    long[] v;
    Row(int sort, int n) { this.sort = sort; v = new long[n]; }
    boolean has(long i, long n) { return i >= 0 && i + n <= v.length; }
  }

  static int far(int a, int b) { return Math.abs(a / 8 - b / 8) + Math.abs(a % 8 - b % 8); }
  static boolean apart(int a, int b) { int d = Math.abs(a - b); return d > 0 && d < 5; }
  int no(int why) { refused[-why]++; return why; }
  static boolean in(long v, long a, long b) { return v >= a && v <= b; }
  boolean isSource(int s) { return in(s, 0, sources.size() - 1); }
  boolean isPerson(int p) { return in(p, 0, people.size() - 1); }
  static boolean isHour(int h) { return in(h, 0, 239); }
  static boolean hours2(int a, int b) { return isHour(a) && isHour(b) && a <= b; }
  int ofRow(int s) {
    if (!in(s, 0, 7)) return -1;
    if (shelves[s] instanceof Integer) return -2;
    return shelves[s] == null ? -3 : 0;
  }

  int row(int s, int sort, int n) {
    if (!in(s, 0, 7)) return no(-1);
    if (n < 0) return no(-4);
    if (!in(sort, 0, 3)) return no(-6);
    if (n > 60) return no(-7);
    shelves[s] = new Row(sort, n);
    return 1;
  }
  int set(int s, int i, long v) {
    if (ofRow(s) != 0) return no(ofRow(s));
    Row r = (Row) shelves[s];
    if (!r.has(i, 1)) return no(-5);
    int lost = new int[] {56, 48, 32, 0}[r.sort];
    r.v[i] = v << lost >> lost;
    return 1;
  }
  int copy(int p, int q, int i, int j, int n) {
    if (!in(p, 0, 7) || !in(q, 0, 7)) return no(-1);
    if (shelves[p] instanceof Integer || shelves[q] instanceof Integer) return no(-2);
    Row a = (Row) shelves[p], b = (Row) shelves[q];
    if (a != null && b != null && a.sort != b.sort) return no(-2);
    if (a == null || b == null) return no(-3);
    if (n < 0) return no(-4);
    if (!a.has(i, n) || !b.has(j, n)) return no(-5);
    long[] were = a.v.clone();
    for (int k = 0; k < n; k++) b.v[j + k] = were[i + k];
    return 1;
  }
  long element(int s, int i) { return in(s, 0, 7) && shelves[s] instanceof Row r && r.has(i, 1) ? r.v[i] : 0; }
  int show(int s, int source) {
    if (!in(s, 0, 7)) return no(-1);
    if (source == NONE) { shelves[s] = null; return 0; }
    if (!isSource(source)) return no(-1);
    shelves[s] = source;
    return 1;
  }
  int holds(int s) {
    if (!in(s, 0, 7) || shelves[s] == null) return NONE;
    return shelves[s] instanceof Row r ? 100 + r.sort : (Integer) shelves[s];
  }
  int says(int s, int kind) {
    if (!in(s, 0, 7) || !in(kind, 0, 7)) return no(-1);
    if (shelves[s] instanceof Row) return no(-2);
    if (shelves[s] == null) return no(-3);
    Integer said = sources.get((Integer) shelves[s]).says(kind);
    return said == null ? no(-2) : said;
  }
  int person(int spot, int best, int least, int slope, boolean reads) {
    if (!in(spot, 0, 63)) return no(-1);
    if (!in(best, 20, 99) || !in(least, 0, 99) || !in(slope, 0, 9)) return no(-6);
    if (people.size() == 12) return no(-7);
    Person one = new Person();
    one.spot = spot; one.best = best; one.least = least; one.slope = slope; one.reads = reads;
    people.add(one);
    return people.size() - 1;
  }
  int go(int person, int spot) {
    if (!isPerson(person) || !in(spot, 0, 63)) return no(-1);
    int was = people.get(person).spot;
    people.get(person).spot = spot;
    return was;
  }
  Hum make(int kind) {
    switch (kind) {
      case 1: return new Fan();
      case 2: return new Ground();
      case 3: return new Room();
      case 4: return new Ear();
      case 5: return new Told();
      case 6: return new Far();
      default: return new Mixed();
    }
  }
  int source(int kind, int where, int tone, int strength) {
    if (!in(kind, 1, 7)) return no(-1);
    if (kind == 4 && !isPerson(where)) return no(-1);
    if (kind != 4 && !in(where, 0, 63)) return no(-1);
    if (!in(tone, 20, 99) || !in(strength, 1, 99)) return no(-6);
    if (sources.size() == 14) return no(-7);
    Hum made = make(kind);
    made.number = sources.size(); made.where = where; made.tone = tone; made.strength = strength;
    sources.add(made);
    return made.number;
  }
  int hours(int source, int p, int q) {
    if (!isSource(source)) return no(-1);
    if (!in(p, 0, 23) || !in(q, 0, 23)) return no(-6);
    Hum its = sources.get(source);
    int was = its.p * 100 + its.q;
    its.p = p; its.q = q;
    return was;
  }
  int cost(int source, int v) {
    if (!isSource(source)) return no(-1);
    if (!in(v, 0, 99)) return no(-6);
    int was = sources.get(source).cost;
    sources.get(source).cost = v;
    return was;
  }
  int off(int source, boolean is) {
    if (!isSource(source)) return no(-1);
    if (sources.get(source).off == is) return 0;
    sources.get(source).off = is;
    return 1;
  }
  int size(int spot, int v) {
    if (!in(spot, 0, 63)) return no(-1);
    if (!in(v, 0, 9)) return no(-6);
    int was = sizes[spot];
    sizes[spot] = v;
    return was;
  }
  int weather(int day, int v) {
    if (!in(day, 0, 9) || !in(v, 0, 1)) return no(-6);
    int was = weather[day];
    weather[day] = v;
    return was;
  }
  int pass(int n) {
    if (!in(n, 1, 100) || now + n > 239) return no(-6);
    return now += n;
  }

  // ---- texts ----

  static final String LAW = "(?:loss|gain|right|wrong|span|paper) [0-9]{1,3}";
  static final String ITEM = "(?:off|on) [0-9]{1,3} from [0-9]{1,3} to [0-9]{1,3}(?: each [0-9]{1,3})?";
  static final Pattern LAWS = Pattern.compile(LAW + "(?:;" + LAW + ")*");
  static final Pattern PLAN = Pattern.compile(ITEM + "(?:;" + ITEM + "){0,7}");
  static final Pattern NUMBER = Pattern.compile("[0-9]{1,3}");

  String text(Row r) {
    StringBuilder b = new StringBuilder();
    for (long v : r.v) b.append((int) v >= 1 && (int) v <= 126 ? (char) (int) v : '~');
    return b.toString();
  }
  static int badPlace(Pattern form, String text) {
    for (int n = 1; n <= text.length(); n++) {
      Matcher m = form.matcher(text.substring(0, n));
      if (!m.matches() && !m.hitEnd()) return n - 1;
    }
    return form.matcher(text).matches() ? Integer.MAX_VALUE : text.length();
  }
  /** The places of the first digits of the numbers that lie ahead of a bad place. */
  static List<int[]> numbers(String text, int bad) {
    List<int[]> found = new ArrayList<>();
    Matcher m = NUMBER.matcher(text);
    while (m.find() && m.start() < bad) found.add(new int[] {m.start(), Integer.parseInt(m.group())});
    return found;
  }
  static String wordAhead(String text, int place) {
    int end = place - 1, start = end;
    while (start > 0 && Character.isLetter(text.charAt(start - 1))) start--;
    return text.substring(start, end);
  }
  static boolean mayBeLaw(String name, int v) {
    if (name.equals("right") || name.equals("wrong")) return in(v, 1, 9);
    return in(v, 0, name.equals("paper") ? 239 : 99);
  }
  int laws(int s) {
    if (ofRow(s) != 0) return no(ofRow(s));
    String text = text((Row) shelves[s]);
    int bad = badPlace(LAWS, text);
    List<int[]> numbers = numbers(text, bad);
    for (int[] n : numbers) if (!mayBeLaw(wordAhead(text, n[0]), n[1])) bad = Math.min(bad, n[0]);
    fault = bad == Integer.MAX_VALUE ? NONE : bad;
    if (fault != NONE) return no(-6);
    List<String> names = List.of("loss", "gain", "right", "wrong", "span", "paper");
    for (int[] n : numbers) laws[names.indexOf(wordAhead(text, n[0]))] = n[1];
    return numbers.size();
  }
  int law(int which) { return in(which, 0, 5) ? laws[which] : no(-5); }
  int plan(int s) {
    if (ofRow(s) != 0) return no(ofRow(s));
    String text = text((Row) shelves[s]);
    int bad = badPlace(PLAN, text);
    List<Item> items = new ArrayList<>();
    for (int[] n : numbers(text, bad)) {
      Item last = items.isEmpty() ? null : items.get(items.size() - 1);
      String word = wordAhead(text, n[0]);
      boolean may;
      switch (word) {
        case "from": may = in(n[1], 0, 239); last.from = n[1]; break;
        case "to": may = in(n[1], last.from, 239); last.to = n[1]; break;
        case "each": may = in(n[1], 1, 99); last.each = n[1]; break;
        default:
          may = isSource(n[1]);
          last = new Item();
          last.off = word.equals("off"); last.source = n[1];
          items.add(last);
      }
      if (!may) bad = Math.min(bad, n[0]);
    }
    fault = bad == Integer.MAX_VALUE ? NONE : bad;
    if (fault != NONE) return no(-6);
    if (plans.size() == 8) return no(-7);
    plans.add(items);
    return plans.size() - 1;
  }
  int fault() { return fault; }
  int force(int plan) {
    if (!in(plan, NONE, plans.size() - 1)) { no(-1); return -11; }
    int was = force;
    force = plan;
    return was;
  }

  // ---- what is heard ----

  int sounds(int source, int hour) {
    if (!isSource(source) || !isHour(hour)) return NONE;
    return sources.get(source).sounds(hour) ? 1 : 0;
  }
  int reach(int source, int spot) {
    return isSource(source) && in(spot, 0, 63) ? sources.get(source).level(spot) : NONE;
  }
  int needs(int person, int tone) {
    return isPerson(person) && in(tone, 20, 99) ? people.get(person).needs(tone) : NONE;
  }
  int bits(IntPredicate p) {
    int bits = 0;
    for (int i = 0; i < sources.size(); i++) if (p.test(i)) bits |= 1 << i;
    return bits;
  }
  int heard(int person, int spot, int a, int b) {
    int all = 0;
    for (int h = a; h <= b; h++) {
      int hour = h;
      all |= bits(i -> sources.get(i).sounds(hour) && sources.get(i).heardBy(people.get(person), spot));
    }
    return all;
  }
  int hears(int person, int hour) {
    return isPerson(person) && isHour(hour) ? heard(person, people.get(person).spot, hour, hour) : NONE;
  }
  List<Integer> listed(int bits) {
    List<Integer> all = new ArrayList<>();
    for (int i = 0; i < 14; i++) if ((bits & 1 << i) != 0) all.add(i);
    return all;
  }
  int loudest(int person, int hour) {
    if (!isPerson(person) || !isHour(hour)) return NONE;
    int best = NONE;
    for (int i : listed(hears(person, hour))) {
      int spot = people.get(person).spot;
      if (best == NONE || sources.get(i).level(spot) > sources.get(best).level(spot)) best = i;
    }
    return best;
  }
  int presses() { return (int) signs.stream().filter(s -> s.hour >= 0).count(); }
  int matches() { return signs.size() - presses(); }
  int press(int person, boolean heard) {
    if (!isPerson(person)) return no(-1);
    if (presses() == 60) return no(-7);
    signs.add(new Sign(person, now, people.get(person).spot, heard, 0));
    return presses();
  }
  int pressed(int person, int s, int i, int n) {
    if (!isPerson(person)) return no(-1);
    if (ofRow(s) != 0) return no(ofRow(s));
    Row r = (Row) shelves[s];
    if (n < 0) return no(-4);
    if (!r.has(i, n)) return no(-5);
    if (now < n) return no(-6);
    List<Sign> more = new ArrayList<>();
    for (int k = 0; k < n; k++) {
      int v = (int) r.v[i + k];
      if (in(v, 0, 1)) more.add(new Sign(person, now - n + k, people.get(person).spot, v == 1, 0));
    }
    if (presses() + more.size() > 60) return no(-7);
    signs.addAll(more);
    return presses();
  }
  int match(int person, int tone) {
    if (!isPerson(person)) return no(-1);
    if (!in(tone, 20, 99)) return no(-6);
    if (matches() == 20) return no(-7);
    signs.add(new Sign(person, NONE, 0, false, tone));
    return matches();
  }
  int letter(int person, int since) {
    if (!isPerson(person)) return no(-1);
    if (!in(since, 0, now)) return no(-6);
    if (letters.size() == 30) return no(-7);
    letters.add(new Letter(person, now, since));
    return letters.size();
  }
  long odds(int person, int source) {
    if (!isPerson(person) || !isSource(source)) return 0;
    List<Sign> its = new ArrayList<>(signs.stream().filter(s -> s.person == person).toList());
    while (its.size() > 16) its.remove(0);
    long worth = 1;
    for (Sign s : its) {
      boolean agrees;
      if (s.hour < 0) agrees = Math.abs(s.tone - sources.get(source).tone) <= laws[4];
      else agrees = ((heard(person, s.spot, s.hour, s.hour) >> source & 1) == 1) == s.heard;
      worth *= laws[agrees ? 2 : 3];
    }
    return worth;
  }
  int sure(int person, int n) {
    if (!isPerson(person) || !in(n, 1, 100)) return NONE;
    long sum = 0, most = 0;
    for (int i = 0; i < sources.size(); i++) { sum += odds(person, i); most = Math.max(most, odds(person, i)); }
    List<Integer> first = new ArrayList<>();
    for (int i = 0; i < sources.size(); i++) if (odds(person, i) == most) first.add(i);
    return first.size() == 1 && 100 * most >= n * sum ? first.get(0) : NONE;
  }
  int could(int person, int tone) {
    if (!isPerson(person) || !in(tone, 20, 99)) return NONE;
    Person one = people.get(person);
    return bits(i -> sources.get(i).inAir() && Math.abs(sources.get(i).tone - tone) <= laws[4]
        && sources.get(i).heardBy(one, one.spot));
  }
  int lacks(int person) {
    if (!isPerson(person)) return NONE;
    Person one = people.get(person);
    return sources.stream().filter(Hum::inAir)
        .mapToInt(s -> Math.max(0, one.needs(s.tone) - s.level(one.spot))).min().orElse(NONE);
  }
  int ridBy(int set, int[] heard) {
    int n = 0;
    for (int h : heard) if ((h | set) == set) n++;
    return n;
  }
  int[] allHeard(int a, int b) {
    int[] heard = new int[people.size()];
    for (int i = 0; i < heard.length; i++) heard[i] = heard(i, people.get(i).spot, a, b);
    return heard;
  }
  int rid(int set, int a, int b) {
    if (!in(set, 0, (1 << sources.size()) - 1)) return no(-1);
    if (!hours2(a, b)) return no(-6);
    return ridBy(set, allHeard(a, b));
  }
  int best(int budget, int a, int b) {
    if (!in(budget, 0, 999) || !hours2(a, b)) return no(-6);
    int[] heard = allHeard(a, b);
    int best = 0, rid = -1, cost = 0;
    for (int set = 0; set < 1 << sources.size(); set++) {
      if (listed(set).stream().anyMatch(i -> !sources.get(i).inAir())) continue;
      int itsCost = listed(set).stream().mapToInt(i -> sources.get(i).cost).sum();
      int itsRid = ridBy(set, heard);
      if (itsCost <= budget && (itsRid > rid || itsRid == rid && itsCost < cost)) {
        best = set; rid = itsRid; cost = itsCost;
      }
    }
    return best;
  }
  int lots(int n, int c) {
    if (!in(n, 0, 30) || c < 0) return no(-6);
    long[] ways = new long[32];
    ways[0] = 1;
    for (int i = 0; i < n; i++) for (int k = 31; k > 0; k--) ways[k] += ways[k - 1];
    long sum = 0;
    for (int k = c; k < 32 && k >= 0; k++) sum += ways[k];
    return (int) sum;
  }
  int need(int k) {
    if (!in(k, 0, 1000000)) return no(-6);
    return Integer.toBinaryString(k).length() - (k == 0 ? 1 : 0);
  }
  int told(int what) {
    if (!in(what, 0, 2)) return no(-5);
    return (int) letters.stream().filter(l -> l.came >= laws[5])
        .filter(l -> what != 1 || l.since < laws[5])
        .filter(l -> what != 2 || hears(l.person, l.came) == 0).count();
  }
  int beats(int person, int hour) {
    if (!isPerson(person) || !isHour(hour)) return NONE;
    int pairs = 0;
    List<Integer> heard = listed(hears(person, hour));
    for (int i : heard) for (int j : heard) if (i < j && apart(sources.get(i).tone, sources.get(j).tone)) pairs++;
    return pairs;
  }
  int halve(int n) {
    if (!in(n, 1, 1000)) return no(-6);
    return n == 1 ? 0 : 1 + new Model().halve((n + 1) / 2);
  }
  int metered(int spot, int least, int a, int b) {
    return Integer.bitCount(bits(i -> {
      boolean sounded = false;
      for (int h = a; h <= b; h++) sounded |= sources.get(i).sounds(h);
      return sounded && sources.get(i).inAir() && sources.get(i).level(spot) >= least;
    }));
  }
  int meter(int spot, int least, int a, int b) {
    if (!in(spot, 0, 63)) return no(-1);
    if (!in(least, 1, 99) || !hours2(a, b)) return no(-6);
    return metered(spot, least, a, b);
  }
  int place(int least, int a, int b) {
    if (!in(least, 1, 99) || !hours2(a, b)) return no(-6);
    int best = 0;
    for (int spot = 1; spot < 64; spot++) if (metered(spot, least, a, b) > metered(best, least, a, b)) best = spot;
    return best;
  }
  int bed(int person, int a, int b) {
    if (!isPerson(person)) return no(-1);
    if (!hours2(a, b)) return no(-6);
    int best = 0;
    long least = Long.MAX_VALUE;
    for (int spot = 0; spot < 64; spot++) {
      long rank = Integer.bitCount(heard(person, spot, a, b)) * 100L + far(spot, people.get(person).spot);
      if (rank < least) { least = rank; best = spot; }
    }
    return best;
  }
  int act(int source, int act, int x) {
    trace.clear();
    if (!isSource(source) || !in(act, 0, 2)) return 0;
    Hum its = sources.get(source);
    return act == 0 ? its.actSounds(x) : act == 1 ? its.actReaches(x) : its.actHears(x);
  }
  int trace(int i) { return in(i, 0, Math.min(20, trace.size()) - 1) ? trace.get(i) : NONE; }

  /** All that THE IMAGE has goes from one to the other, each thing anew. */
  void take(Model from) {
    now = from.now; force = from.force;
    sizes = from.sizes.clone(); weather = from.weather.clone(); laws = from.laws.clone();
    plans = new ArrayList<>(from.plans);
    signs = new ArrayList<>(from.signs);
    letters = new ArrayList<>(from.letters);
    people = new ArrayList<>();
    for (Person p : from.people) {
      Person one = new Person();
      one.spot = p.spot; one.best = p.best; one.least = p.least; one.slope = p.slope; one.reads = p.reads;
      people.add(one);
    }
    sources = new ArrayList<>();
    for (Hum h : from.sources) {
      Hum made = make(kindOf(h));
      made.number = h.number; made.where = h.where; made.tone = h.tone; made.strength = h.strength;
      made.p = h.p; made.q = h.q; made.cost = h.cost; made.off = h.off;
      sources.add(made);
    }
  }
  int kindOf(Hum h) {
    if (h instanceof Mixed) return 7;
    return List.of("Hum", "Fan", "Ground", "Room", "Ear", "Told", "Far").indexOf(h.getClass().getSimpleName());
  }
  int image() {
    image = new Model();
    image.take(this);
    return now;
  }
  int restore() {
    if (image == null) return no(-6);
    take(image);
    for (int s = 0; s < 8; s++) if (shelves[s] instanceof Integer n && !isSource(n)) shelves[s] = null;
    return now;
  }
  int status(int what) {
    int[] counts = {sources.size(), people.size(), presses(), matches(), letters.size(), plans.size(), now, trace.size()};
    if (in(what, 0, 7)) return counts[what];
    return in(what, 11, 17) ? refused[what - 10] : NONE;
  }
}
