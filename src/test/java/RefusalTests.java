import java.util.ArrayList;
import java.util.List;
import java.util.function.Consumer;
import java.util.function.ToLongFunction;

/**
 * REFUSALS: each call that is refused is made in one of two towns that are alike. It answers the number of the first
 * REFUSAL that fits, and afterwards the towns are alike still, but for how many of that REFUSAL there were.
 */
public final class RefusalTests extends Answers {
  private static final int NOBODY = -1, OTHER = -2, NOTHING = -3, BELOW = -4, BEYOND = -5, WRONG = -6, ROOM = -7;
  /** What the SHELVES of a town hold. */
  private static final int BYTES = 0, FEW_BYTES = 1, LONGS = 2, SOURCE = 3, EMPTY = 4, EMPTY_TOO = 5, TEXT = 6, BAD_TEXT = 7;
  private static final Consumer<HumUnheard> AS_IT_IS = town -> { };

  public static void main(String[] args) {
    rows();
    copies();
    sourcesInShelves();
    people();
    sources();
    town();
    texts();
    presses();
    matchesAndLetters();
    numbersThatMayNotBe();
    hours();
    image();
    none();
    counts();
    finish();
  }

  // ---- two towns ----

  private static HumUnheard town(Consumer<HumUnheard> more) {
    HumUnheard town = new HumUnheard();
    town.person(0, 40, 5, 1, true); town.person(9, 50, 0, 2, false); town.person(63, 30, 20, 0, true);
    for (int kind = 1; kind <= 7; kind++) town.source(kind, kind == 4 ? 1 : 9 * (kind - 1), 38 + kind, 20 + 5 * kind);
    town.hours(0, 22, 5); town.hours(6, 3, 20); town.cost(0, 3); town.cost(6, 9); town.off(1, true);
    town.size(0, 3); town.size(9, 7); town.weather(0, 1); town.weather(3, 1); town.pass(30);
    write(town, TEXT, 0, "off 0 from 5 to 9"); town.plan(TEXT);
    write(town, TEXT, 0, "on 1 from 0 to 9"); town.plan(TEXT); town.force(1);
    write(town, BAD_TEXT, 0, "span 3"); town.laws(BAD_TEXT);
    town.press(0, true); town.press(1, false); town.press(0, false); town.match(0, 41); town.match(2, 30); town.letter(0, 9); town.letter(1, 30);
    town.image(); town.act(6, 2, 5);
    write(town, BAD_TEXT, 0, "loss x"); town.laws(BAD_TEXT);
    town.row(BYTES, 0, 5); town.set(BYTES, 4, 1); town.row(FEW_BYTES, 0, 3); town.set(FEW_BYTES, 0, 7);
    town.row(LONGS, 3, 4); town.set(LONGS, 0, Long.MIN_VALUE); town.show(SOURCE, 6);
    more.accept(town);
    return town;
  }

  /** All that can be asked of a town but the REFUSALS, the changing questions last: some 300 calls. */
  private static List<Long> allOf(HumUnheard town) {
    List<Long> all = new ArrayList<>();
    for (int what = 0; what <= 7; what++) all.add((long) town.status(what));
    all.add((long) town.fault());
    for (int i = 0; i < 10; i++) all.add((long) town.trace(i));
    for (int s = 0; s < 8; s++) {
      all.add((long) town.holds(s));
      for (int i = 0; i < 6; i++) all.add(town.element(s, i));
    }
    for (int which = 0; which < 6; which++) all.add((long) town.law(which));
    for (int source = 0; source < town.status(0); source++) askOfSource(town, source, all);
    for (int person = 0; person < town.status(1); person++) askOfPerson(town, person, all);
    for (int what = 0; what < 3; what++) all.add((long) town.told(what));
    all.add((long) town.best(999, 0, 239));
    for (int spot : new int[] {0, 9, 27, 63}) all.add((long) town.size(spot, 0));
    for (int day = 0; day < 10; day++) all.add((long) town.weather(day, 0));
    all.add((long) town.force(-1));
    all.add((long) town.restore());
    for (int what = 0; what <= 7; what++) all.add((long) town.status(what));
    all.add((long) town.hears(0, 4));
    return all;
  }

  private static void askOfSource(HumUnheard town, int source, List<Long> all) {
    all.add((long) town.sounds(source, 4)); all.add((long) town.sounds(source, 80)); all.add((long) town.reach(source, 9));
    all.add((long) town.off(source, false)); all.add((long) town.hours(source, 0, 23)); all.add((long) town.cost(source, 0));
  }

  private static void askOfPerson(HumUnheard town, int person, List<Long> all) {
    all.add((long) town.needs(person, 77)); all.add((long) town.hears(person, 4)); all.add(town.odds(person, 0)); all.add(town.odds(person, 3));
    all.add((long) town.go(person, 9)); all.add((long) town.hears(person, 4));
  }

  /** Makes a call in one of two towns; why is the REFUSAL that is counted, 0 if none may be. */
  private static void asked(Consumer<HumUnheard> more, ToLongFunction<HumUnheard> call, long want, int why) {
    HumUnheard asked = town(more), left = town(more);
    due(call.applyAsLong(asked), want);
    for (int what = 11; what <= 17; what++) due(asked.status(what), left.status(what) + (what == 10 - why ? 1 : 0));
    due(asked.status(7), left.status(7));
    if (!allOf(asked).equals(allOf(left))) fail("a call that is refused has changed the town");
  }

  private static void refused(int why, Consumer<HumUnheard> more, ToLongFunction<HumUnheard> call) { asked(more, call, why, why); }
  private static void refused(int why, ToLongFunction<HumUnheard> call) { asked(AS_IT_IS, call, why, why); }
  /** A call that answers NONE, or 0, and refuses nothing. */
  private static void unmoved(long want, ToLongFunction<HumUnheard> call) { asked(AS_IT_IS, call, want, 0); }

  // ---- towns that are full ----

  private static void fillPeople(HumUnheard town) { for (int i = 3; i < 12; i++) town.person(0, 40, 0, 0, true); }
  private static void fillSources(HumUnheard town) { for (int i = 7; i < 14; i++) town.source(3, 0, 40, 9); }
  private static void fillPlans(HumUnheard town) { for (int i = 2; i < 8; i++) town.plan(TEXT); }
  private static void fillMatches(HumUnheard town) { for (int i = 2; i < 20; i++) town.match(2, 50); }
  private static void fillLetters(HumUnheard town) { for (int i = 2; i < 30; i++) town.letter(2, 0); }
  private static void fillPresses(HumUnheard town) {
    town.row(EMPTY, 0, 30);
    town.pressed(2, EMPTY, 0, 30);
    town.pressed(2, EMPTY, 0, 27);
    town.show(EMPTY, -1);
  }
  private static void pastAll(HumUnheard town) { town.pass(100); town.pass(100); town.pass(9); }

  // ---- SHELVES ----

  private static void rows() {
    fresh("row: -1");
    for (int s : new int[] {-1, 8, MIN, MAX}) refused(NOBODY, t -> t.row(s, 0, 1));
    fresh("row: -1 ahead of -4, -6, -7");
    refused(NOBODY, t -> t.row(8, 0, -1)); refused(NOBODY, t -> t.row(8, 4, 1)); refused(NOBODY, t -> t.row(-1, 0, 61));
    fresh("row: -4");
    refused(BELOW, t -> t.row(BYTES, 0, -1)); refused(BELOW, t -> t.row(SOURCE, 0, MIN));
    fresh("row: -4 ahead of -6");
    refused(BELOW, t -> t.row(BYTES, 4, -1)); refused(BELOW, t -> t.row(BYTES, -1, -1));
    fresh("row: -6 SORT");
    for (int sort : new int[] {-1, 4, MIN, MAX}) refused(WRONG, t -> t.row(BYTES, sort, 0));
    fresh("row: -6 ahead of -7");
    refused(WRONG, t -> t.row(BYTES, 4, 61)); refused(WRONG, t -> t.row(EMPTY, -1, MAX));
    fresh("row: -7 n above 60");
    refused(ROOM, t -> t.row(BYTES, 0, 61)); refused(ROOM, t -> t.row(EMPTY, 3, MAX)); refused(ROOM, t -> t.row(SOURCE, 0, 61));

    fresh("set: -1; -2; -3; -5");
    for (int s : new int[] {-1, 8, MIN, MAX}) refused(NOBODY, t -> t.set(s, 99, 1));
    refused(OTHER, t -> t.set(SOURCE, 0, 1)); refused(OTHER, t -> t.set(SOURCE, -1, 1));
    refused(NOTHING, t -> t.set(EMPTY, 0, 1)); refused(NOTHING, t -> t.set(EMPTY, -1, 1));
    for (int i : new int[] {-1, 5, 60, MIN, MAX}) refused(BEYOND, t -> t.set(BYTES, i, 1));
    refused(BEYOND, t -> t.row(EMPTY, 0, 0), t -> t.set(EMPTY, 0, 1));
  }

  private static void copies() {
    fresh("copy: -1 of either, ahead of -2, -3, -4, -5");
    for (int s : new int[] {-1, 8, MIN, MAX}) { refused(NOBODY, t -> t.copy(s, BYTES, 0, 0, 1)); refused(NOBODY, t -> t.copy(BYTES, s, 0, 0, 1)); }
    refused(NOBODY, t -> t.copy(SOURCE, 8, 0, 0, 1)); refused(NOBODY, t -> t.copy(8, SOURCE, 0, 0, 1));
    refused(NOBODY, t -> t.copy(EMPTY, 8, 0, 0, 1));
    refused(NOBODY, t -> t.copy(8, EMPTY, 0, 0, 1)); refused(NOBODY, t -> t.copy(8, BYTES, 0, 0, -1));
    refused(NOBODY, t -> t.copy(BYTES, 8, 9, 0, 1));
    fresh("copy: -2 a SOURCE of either, ahead of -3, -4, -5");
    refused(OTHER, t -> t.copy(SOURCE, BYTES, 0, 0, 1)); refused(OTHER, t -> t.copy(BYTES, SOURCE, 0, 0, 1));
    refused(OTHER, t -> t.copy(SOURCE, SOURCE, 0, 0, 0));
    refused(OTHER, t -> t.copy(SOURCE, EMPTY, 0, 0, 1)); refused(OTHER, t -> t.copy(EMPTY, SOURCE, 0, 0, 1));
    refused(OTHER, t -> t.copy(SOURCE, BYTES, 0, 0, -1)); refused(OTHER, t -> t.copy(BYTES, SOURCE, 9, 0, 1));
    fresh("copy: -2 also of two SORTS (when both hold something)");
    refused(OTHER, t -> t.copy(BYTES, LONGS, 0, 0, 1)); refused(OTHER, t -> t.copy(LONGS, BYTES, 0, 0, 0));
    refused(OTHER, t -> t.copy(LONGS, BYTES, 0, 0, -1));
    refused(OTHER, t -> t.copy(LONGS, BYTES, 9, 9, 9));
    for (int sort = 1; sort < 3; sort++) { int its = sort; refused(OTHER, t -> t.row(EMPTY, its, 5), t -> t.copy(EMPTY, BYTES, 0, 0, 1)); }
    fresh("copy: -3 either");
    refused(NOTHING, t -> t.copy(EMPTY, BYTES, 0, 0, 1)); refused(NOTHING, t -> t.copy(BYTES, EMPTY, 0, 0, 1));
    refused(NOTHING, t -> t.copy(EMPTY, EMPTY_TOO, 0, 0, 0));
    refused(NOTHING, t -> t.copy(EMPTY, EMPTY, 0, 0, -1)); refused(NOTHING, t -> t.copy(LONGS, EMPTY, 9, 9, 9));
    fresh("copy: -4 n");
    refused(BELOW, t -> t.copy(BYTES, FEW_BYTES, 0, 0, -1)); refused(BELOW, t -> t.copy(BYTES, BYTES, 1, 1, MIN));
    refused(BELOW, t -> t.copy(BYTES, FEW_BYTES, -1, 9, -1));
    fresh("copy: -5 i or j below 0, or an end that isn't there");
    refused(BEYOND, t -> t.copy(BYTES, FEW_BYTES, -1, 0, 1)); refused(BEYOND, t -> t.copy(BYTES, FEW_BYTES, 0, -1, 1));
    refused(BEYOND, t -> t.copy(BYTES, BYTES, 0, 1, 5));
    refused(BEYOND, t -> t.copy(BYTES, BYTES, 1, 0, 5)); refused(BEYOND, t -> t.copy(BYTES, FEW_BYTES, 0, 0, 4));
    refused(BEYOND, t -> t.copy(FEW_BYTES, BYTES, 0, 0, 4));
    refused(BEYOND, t -> t.copy(BYTES, FEW_BYTES, 6, 0, 0)); refused(BEYOND, t -> t.copy(BYTES, FEW_BYTES, 0, 4, 0));
    refused(BEYOND, t -> t.copy(BYTES, BYTES, 1, 1, MAX));
    refused(BEYOND, t -> t.copy(BYTES, BYTES, MAX, 0, 1)); refused(BEYOND, t -> t.copy(BYTES, BYTES, 0, MAX, MAX));
  }

  private static void sourcesInShelves() {
    fresh("show: -1");
    for (int s : new int[] {-1, 8, MIN, MAX}) { refused(NOBODY, t -> t.show(s, 0)); refused(NOBODY, t -> t.show(s, -1)); }
    for (int source : new int[] {7, 14, -2, MIN, MAX}) { refused(NOBODY, t -> t.show(BYTES, source)); refused(NOBODY, t -> t.show(SOURCE, source)); }

    fresh("says: -1 SHELF, KIND, ahead of -2, -3");
    for (int no : new int[] {-1, 8, MIN, MAX}) {
      refused(NOBODY, t -> t.says(no, 0)); refused(NOBODY, t -> t.says(SOURCE, no)); refused(NOBODY, t -> t.says(BYTES, no));
    }
    refused(NOBODY, t -> t.says(EMPTY, 8)); refused(NOBODY, t -> t.says(8, -1));
    fresh("says: -2 a ROW");
    for (int kind = 0; kind <= 7; kind++) { int its = kind; refused(OTHER, t -> t.says(BYTES, its)); }
    fresh("says: -2 also a SOURCE of another KIND");
    for (int source = 0; source < 7; source++) {
      for (int kind = 1; kind <= 7; kind++) {
        int which = source, its = kind;
        if (kind != source + 1 && (source != 6 || kind != 1)) refused(OTHER, t -> t.show(SOURCE, which), t -> t.says(SOURCE, its));
      }
    }
    fresh("says: -3");
    for (int kind = 0; kind <= 7; kind++) { int its = kind; refused(NOTHING, t -> t.says(EMPTY, its)); }
  }

  // ---- THE TOWN ----

  private static void people() {
    fresh("person: -1 SPOT, ahead of -6, -7");
    for (int spot : new int[] {-1, 64, MIN, MAX}) refused(NOBODY, t -> t.person(spot, 40, 0, 0, true));
    refused(NOBODY, t -> t.person(64, 19, 0, 0, true)); refused(NOBODY, t -> t.person(64, 40, -1, 0, true));
    refused(NOBODY, t -> t.person(-1, 40, 0, 10, true));
    refused(NOBODY, RefusalTests::fillPeople, t -> t.person(64, 40, 0, 0, true));
    fresh("person: -6 BEST, LEAST, SLOPE");
    for (int best : new int[] {19, 100, 0, -1, MIN, MAX}) refused(WRONG, t -> t.person(0, best, 0, 0, true));
    for (int least : new int[] {-1, 100, MIN, MAX}) refused(WRONG, t -> t.person(0, 40, least, 0, true));
    for (int slope : new int[] {-1, 10, MIN, MAX}) refused(WRONG, t -> t.person(0, 40, 0, slope, false));
    fresh("person: -6 ahead of -7");
    refused(WRONG, RefusalTests::fillPeople, t -> t.person(0, 19, 0, 0, true));
    refused(WRONG, RefusalTests::fillPeople, t -> t.person(0, 40, 100, 0, true));
    refused(WRONG, RefusalTests::fillPeople, t -> t.person(0, 40, 0, 10, true));
    fresh("person: -7");
    refused(ROOM, RefusalTests::fillPeople, t -> t.person(0, 40, 0, 0, true));

    fresh("go: -1");
    for (int person : new int[] {-1, 3, 12, MIN, MAX}) refused(NOBODY, t -> t.go(person, 5));
    for (int spot : new int[] {-1, 64, MIN, MAX}) refused(NOBODY, t -> t.go(0, spot));
    refused(NOBODY, t -> t.go(3, 64));
  }

  private static void sources() {
    fresh("source: -1 KIND, SPOT, person, ahead of -6, -7");
    for (int kind : new int[] {0, 8, -1, MIN, MAX}) {
      refused(NOBODY, t -> t.source(kind, 0, 40, 9)); refused(NOBODY, t -> t.source(kind, 0, 19, 0));
    }
    for (int spot : new int[] {-1, 64, MIN, MAX}) for (int kind : new int[] {1, 2, 3, 5, 6, 7}) refused(NOBODY, t -> t.source(kind, spot, 40, 9));
    for (int person : new int[] {-1, 3, 63, MIN, MAX}) {
      refused(NOBODY, t -> t.source(4, person, 40, 9)); refused(NOBODY, t -> t.source(4, person, 100, 9));
    }
    refused(NOBODY, t -> t.source(1, 64, 40, 0)); refused(NOBODY, RefusalTests::fillSources, t -> t.source(1, 64, 40, 9));
    refused(NOBODY, RefusalTests::fillSources, t -> t.source(0, 0, 40, 9)); refused(NOBODY, RefusalTests::fillSources, t -> t.source(4, 3, 40, 9));
    fresh("source: -6 TONE, STRENGTH");
    for (int tone : new int[] {19, 100, 0, -1, MIN, MAX}) {
      refused(WRONG, t -> t.source(1, 0, tone, 9)); refused(WRONG, t -> t.source(4, 0, tone, 9));
    }
    for (int strength : new int[] {0, 100, -1, MIN, MAX}) {
      refused(WRONG, t -> t.source(1, 0, 40, strength)); refused(WRONG, t -> t.source(4, 2, 40, strength));
    }
    fresh("source: -6 ahead of -7");
    refused(WRONG, RefusalTests::fillSources, t -> t.source(1, 0, 19, 9)); refused(WRONG, RefusalTests::fillSources, t -> t.source(1, 0, 40, 0));
    fresh("source: -7");
    for (int kind = 1; kind <= 7; kind++) { int its = kind; refused(ROOM, RefusalTests::fillSources, t -> t.source(its, 0, 40, 9)); }
  }

  private static void town() {
    fresh("hours: -1; -6");
    for (int source : new int[] {-1, 7, MIN, MAX}) { refused(NOBODY, t -> t.hours(source, 0, 0)); refused(NOBODY, t -> t.hours(source, 24, 0)); }
    for (int hour : new int[] {-1, 24, MIN, MAX}) { refused(WRONG, t -> t.hours(0, hour, 0)); refused(WRONG, t -> t.hours(0, 0, hour)); }
    fresh("cost: -1; -6");
    for (int source : new int[] {-1, 7, MIN, MAX}) { refused(NOBODY, t -> t.cost(source, 0)); refused(NOBODY, t -> t.cost(source, 100)); }
    for (int v : new int[] {-1, 100, MIN, MAX}) refused(WRONG, t -> t.cost(0, v));
    fresh("off: -1");
    for (int source : new int[] {-1, 7, 31, 32, 33, MIN, MAX}) {
      refused(NOBODY, t -> t.off(source, true)); refused(NOBODY, t -> t.off(source, false));
    }
    fresh("size: -1; -6");
    for (int spot : new int[] {-1, 64, MIN, MAX}) { refused(NOBODY, t -> t.size(spot, 1)); refused(NOBODY, t -> t.size(spot, 10)); }
    for (int v : new int[] {-1, 10, MIN, MAX}) refused(WRONG, t -> t.size(0, v));
    fresh("weather: -6 DAY, v");
    for (int day : new int[] {-1, 10, MIN, MAX}) { refused(WRONG, t -> t.weather(day, 1)); refused(WRONG, t -> t.weather(day, 2)); }
    for (int v : new int[] {-1, 2, MIN, MAX}) refused(WRONG, t -> t.weather(0, v));
    fresh("pass: -6 also beyond 239");
    for (int n : new int[] {0, -1, 101, MIN, MAX}) refused(WRONG, t -> t.pass(n));
    refused(WRONG, RefusalTests::pastAll, t -> t.pass(1)); refused(WRONG, t -> { t.pass(100); t.pass(100); }, t -> t.pass(10));
    refused(WRONG, t -> { t.pass(100); t.pass(100); }, t -> t.pass(100));
  }

  // ---- TEXTS ----

  private static void texts() {
    fresh("laws: -1; -2; -3; -6 a FAULT");
    for (int s : new int[] {-1, 8, MIN, MAX}) refused(NOBODY, t -> t.laws(s));
    refused(OTHER, t -> t.laws(SOURCE)); refused(NOTHING, t -> t.laws(EMPTY)); refused(WRONG, t -> t.laws(BAD_TEXT));
    refusedText("", 0, true); refusedText("loss 1;span 9;x", 14, true); refusedText("loss 1;right 0", 13, true);
    refusedText("off 0 from 1 to 2", 0, true);
    fresh("plan: -1; -2; -3; -6 a FAULT; -7");
    for (int s : new int[] {-1, 8, MIN, MAX}) { refused(NOBODY, t -> t.plan(s)); refused(NOBODY, RefusalTests::fillPlans, t -> t.plan(s)); }
    refused(OTHER, t -> t.plan(SOURCE)); refused(NOTHING, t -> t.plan(EMPTY));
    refused(OTHER, RefusalTests::fillPlans, t -> t.plan(SOURCE)); refused(NOTHING, RefusalTests::fillPlans, t -> t.plan(EMPTY));
    refusedText("", 0, false); refusedText("off 7 from 1 to 2", 4, false); refusedText("on 0 from 1 to 2;off 0 from 2 to 1", 33, false);
    refusedText("loss 1", 0, false);
    fresh("plan: -6 ahead of -7");
    refused(WRONG, t -> { fillPlans(t); t.plan(BAD_TEXT); }, t -> t.plan(BAD_TEXT));
    fresh("plan: -7");
    refused(ROOM, t -> { fillPlans(t); t.plan(TEXT); }, t -> t.plan(TEXT));

    fresh("force: -1, as -11");
    for (int plan : new int[] {2, 8, -2, -11, MIN, MAX}) asked(AS_IT_IS, t -> t.force(plan), -11, NOBODY);
    asked(RefusalTests::fillPlans, t -> t.force(8), -11, NOBODY);
    fresh("law: -5: another one");
    for (int which : new int[] {-1, 6, MIN, MAX}) refused(BEYOND, t -> t.law(which));
  }

  /** The text was read ahead, so that its FAULT is told already; it is read anew, and nothing but the count changes. */
  private static void refusedText(String text, int fault, boolean laws) {
    refused(WRONG, t -> {
      write(t, EMPTY, 0, text);
      due(laws ? t.laws(EMPTY) : t.plan(EMPTY), WRONG);
      due(t.fault(), fault);
    }, t -> laws ? t.laws(EMPTY) : t.plan(EMPTY));
  }

  // ---- WHAT IS TOLD ----

  private static void presses() {
    fresh("press: -1; -7");
    for (int person : new int[] {-1, 3, MIN, MAX}) {
      refused(NOBODY, t -> t.press(person, true)); refused(NOBODY, RefusalTests::fillPresses, t -> t.press(person, true));
    }
    refused(ROOM, RefusalTests::fillPresses, t -> t.press(0, true)); refused(ROOM, RefusalTests::fillPresses, t -> t.press(1, false));

    fresh("pressed: -1 a person, a SHELF, ahead of -2, -3, -4, -5");
    for (int person : new int[] {-1, 3, MIN, MAX}) refused(NOBODY, t -> t.pressed(person, BYTES, 0, 1));
    for (int s : new int[] {-1, 8, MIN, MAX}) refused(NOBODY, t -> t.pressed(0, s, 0, 1));
    refused(NOBODY, t -> t.pressed(3, SOURCE, 0, 1)); refused(NOBODY, t -> t.pressed(3, EMPTY, 0, 1));
    refused(NOBODY, t -> t.pressed(3, BYTES, 0, -1)); refused(NOBODY, t -> t.pressed(3, BYTES, 9, 1));
    fresh("pressed: -2 ahead of -4, -5; -3 ahead of -4, -5");
    refused(OTHER, t -> t.pressed(0, SOURCE, 0, 1)); refused(OTHER, t -> t.pressed(0, SOURCE, 0, -1));
    refused(OTHER, t -> t.pressed(0, SOURCE, 9, 1));
    refused(NOTHING, t -> t.pressed(0, EMPTY, 0, 1)); refused(NOTHING, t -> t.pressed(0, EMPTY, 0, -1));
    refused(NOTHING, t -> t.pressed(0, EMPTY, 9, 1));
    fresh("pressed: -4 n, ahead of -5");
    refused(BELOW, t -> t.pressed(0, BYTES, 0, -1)); refused(BELOW, t -> t.pressed(0, BYTES, 9, -1));
    refused(BELOW, t -> t.pressed(0, BYTES, 0, MIN));
    fresh("pressed: -5, ahead of -6, -7");
    refused(BEYOND, t -> t.pressed(0, BYTES, -1, 1)); refused(BEYOND, t -> t.pressed(0, BYTES, 5, 1));
    refused(BEYOND, t -> t.pressed(0, BYTES, 0, 6)); refused(BEYOND, t -> t.pressed(0, BYTES, 6, 0));
    refused(BEYOND, t -> t.pressed(0, BYTES, 1, MAX)); refused(BEYOND, t -> t.pressed(0, BYTES, MAX, 1));
    refused(BEYOND, t -> t.row(EMPTY, 0, 40), t -> t.pressed(0, EMPTY, 1, 40));
    refused(BEYOND, RefusalTests::fillPresses, t -> t.pressed(0, BYTES, 1, 5));
    fresh("pressed: -6 NOW is below n, ahead of -7");
    refused(WRONG, t -> t.row(EMPTY, 0, 31), t -> t.pressed(0, EMPTY, 0, 31));
    refused(WRONG, t -> { fillPresses(t); t.row(EMPTY, 0, 31); }, t -> t.pressed(0, EMPTY, 0, 31));
    fresh("pressed: -7 more than may be (none is taken then)");
    refused(ROOM, RefusalTests::fillPresses, t -> t.pressed(0, BYTES, 0, 1));
    refused(ROOM, t -> { t.pass(40); t.row(EMPTY, 0, 60); }, t -> t.pressed(0, EMPTY, 0, 58));
  }

  private static void matchesAndLetters() {
    fresh("match: -1; -6 TONE; -7");
    for (int person : new int[] {-1, 3, MIN, MAX}) {
      refused(NOBODY, t -> t.match(person, 40)); refused(NOBODY, t -> t.match(person, 19));
      refused(NOBODY, RefusalTests::fillMatches, t -> t.match(person, 40));
    }
    for (int tone : new int[] {19, 100, 0, -1, MIN, MAX}) {
      refused(WRONG, t -> t.match(0, tone)); refused(WRONG, RefusalTests::fillMatches, t -> t.match(0, tone));
    }
    refused(ROOM, RefusalTests::fillMatches, t -> t.match(0, 40));
    fresh("letter: -1; -6 since: below 0, or above NOW; -7");
    for (int person : new int[] {-1, 3, MIN, MAX}) {
      refused(NOBODY, t -> t.letter(person, 0)); refused(NOBODY, t -> t.letter(person, 31));
      refused(NOBODY, RefusalTests::fillLetters, t -> t.letter(person, 0));
    }
    for (int since : new int[] {-1, 31, 240, MIN, MAX}) {
      refused(WRONG, t -> t.letter(0, since)); refused(WRONG, RefusalTests::fillLetters, t -> t.letter(0, since));
    }
    refused(ROOM, RefusalTests::fillLetters, t -> t.letter(0, 0));
  }

  private static void numbersThatMayNotBe() {
    fresh("lots: -6 n, c below 0");
    for (int n : new int[] {-1, 31, MIN, MAX}) refused(WRONG, t -> t.lots(n, 0));
    for (int c : new int[] {-1, MIN}) refused(WRONG, t -> t.lots(5, c));
    fresh("need: -6");
    for (int k : new int[] {-1, 1000001, MIN, MAX}) refused(WRONG, t -> t.need(k));
    fresh("halve: -6");
    for (int n : new int[] {0, -1, 1001, MIN, MAX}) refused(WRONG, t -> t.halve(n));
    fresh("told: -5: another one");
    for (int what : new int[] {-1, 3, MIN, MAX}) refused(BEYOND, t -> t.told(what));
    fresh("best: -6 a BUDGET");
    for (int budget : new int[] {-1, 1000, MIN, MAX}) refused(WRONG, t -> t.best(budget, 0, 5));
    fresh("meter: -1, ahead of -6");
    for (int spot : new int[] {-1, 64, MIN, MAX}) {
      refused(NOBODY, t -> t.meter(spot, 1, 0, 5)); refused(NOBODY, t -> t.meter(spot, 0, 0, 5)); refused(NOBODY, t -> t.meter(spot, 1, 5, 0));
    }
    fresh("meter, place: -6 a LEAST");
    for (int least : new int[] {0, 100, -1, MIN, MAX}) { refused(WRONG, t -> t.meter(0, least, 0, 5)); refused(WRONG, t -> t.place(least, 0, 5)); }
    fresh("rid: -1 a SOURCE, ahead of -6");
    for (int set : new int[] {1 << 7, 1 << 14, 255, -1, MIN, MAX}) { refused(NOBODY, t -> t.rid(set, 0, 5)); refused(NOBODY, t -> t.rid(set, 5, 0)); }
    fresh("bed: -1, ahead of -6");
    for (int person : new int[] {-1, 3, MIN, MAX}) { refused(NOBODY, t -> t.bed(person, 0, 5)); refused(NOBODY, t -> t.bed(person, 5, 0)); }
  }

  private static void hours() {
    int[][] no = {{5, 4}, {-1, 5}, {-1, -1}, {0, 240}, {240, 240}, {239, 240}, {239, 238}, {MIN, MAX}, {MAX, MIN}, {MIN, 5}, {0, MAX}};
    for (int[] ab : no) {
      int a = ab[0], b = ab[1];
      fresh("-6 HOURS " + a + " to " + b);
      refused(WRONG, t -> t.rid(0, a, b)); refused(WRONG, t -> t.best(5, a, b)); refused(WRONG, t -> t.meter(0, 1, a, b));
      refused(WRONG, t -> t.place(1, a, b)); refused(WRONG, t -> t.bed(0, a, b));
    }
  }

  private static void image() {
    fresh("restore: -6 there is none");
    due(x.status(16), 0); due(x.restore(), -6); due(x.status(16), 1); people(1); due(x.restore(), -6); due(x.status(1), 1); due(x.status(16), 2);
    x.image(); due(x.restore(), 0); due(x.status(16), 2);
  }

  // ---- answers that are no REFUSALS ----

  private static void none() {
    int[] noPerson = {-1, 3, 12, MIN, MAX}, noSource = {-1, 7, 14, MIN, MAX};
    int[] noHour = {-1, 240, MIN, MAX}, noSpot = {-1, 64, MIN, MAX}, noTone = {19, 100, MIN, MAX};
    fresh("element: 0 if there is none (nothing is refused)");
    for (int i : new int[] {-1, 5, MIN, MAX}) unmoved(0, t -> t.element(BYTES, i));
    for (int s : new int[] {-1, 8, SOURCE, EMPTY, MIN, MAX}) unmoved(0, t -> t.element(s, 0));
    fresh("holds: NONE");
    for (int s : new int[] {-1, 8, EMPTY, MIN, MAX}) unmoved(-1, t -> t.holds(s));
    fresh("sounds: NONE: no such ones");
    for (int source : noSource) unmoved(-1, t -> t.sounds(source, 0));
    for (int hour : noHour) unmoved(-1, t -> t.sounds(0, hour));
    fresh("reach: NONE: no such ones");
    for (int source : noSource) unmoved(-1, t -> t.reach(source, 0));
    for (int spot : noSpot) unmoved(-1, t -> t.reach(0, spot));
    fresh("needs, could: NONE: no such person, TONE");
    for (int person : noPerson) { unmoved(-1, t -> t.needs(person, 40)); unmoved(-1, t -> t.could(person, 40)); }
    for (int tone : noTone) { unmoved(-1, t -> t.needs(0, tone)); unmoved(-1, t -> t.could(0, tone)); }
    fresh("hears, loudest, beats: NONE: no such ones");
    for (int person : noPerson) {
      unmoved(-1, t -> t.hears(person, 0)); unmoved(-1, t -> t.loudest(person, 0)); unmoved(-1, t -> t.beats(person, 0));
    }
    for (int hour : noHour) { unmoved(-1, t -> t.hears(0, hour)); unmoved(-1, t -> t.loudest(0, hour)); unmoved(-1, t -> t.beats(0, hour)); }
    fresh("odds: 0: no such ones (nothing is refused)");
    for (int person : noPerson) unmoved(0, t -> t.odds(person, 0));
    for (int source : noSource) unmoved(0, t -> t.odds(0, source));
    fresh("sure: NONE: none, no such person, n");
    for (int person : noPerson) unmoved(-1, t -> t.sure(person, 1));
    for (int n : new int[] {0, -1, 101, MIN, MAX}) unmoved(-1, t -> t.sure(0, n));
    fresh("lacks: NONE: no such person, SOURCES");
    for (int person : noPerson) unmoved(-1, t -> t.lacks(person));
    fresh("trace: NONE: none such");
    for (int i : new int[] {-1, 9, 20, MIN, MAX}) unmoved(-1, t -> t.trace(i));
    fresh("status: NONE for another what");
    for (int what : new int[] {-1, 8, 9, 10, 18, MIN, MAX}) unmoved(-1, t -> t.status(what));
    fresh("act: 0, and no TRACE then: no such SOURCE, act");
    Consumer<HumUnheard> noTrace = t -> t.act(7, 0, 0);
    for (int source : noSource) asked(noTrace, t -> t.act(source, 0, 5), 0, 0);
    for (int act : new int[] {-1, 3, MIN, MAX}) asked(noTrace, t -> t.act(0, act, 5), 0, 0);
    fresh("fault, image and what is only asked");
    unmoved(5, t -> t.fault()); unmoved(30, t -> t.image());
    unmoved(0, t -> t.show(EMPTY, -1)); unmoved(1, t -> t.force(1)); unmoved(0, t -> t.off(1, true));
    unmoved(1, t -> t.copy(BYTES, FEW_BYTES, 5, 3, 0)); unmoved(3, t -> t.pressed(0, BYTES, 5, 0));
  }

  private static void counts() {
    fresh("REFUSALS -1 to -7, each counted by itself");
    hums(1); x.show(1, 0); x.row(0, 0, 1);
    int[] due = {5, 4, 3, 2, 1, 6, 7};
    for (int i = 0; i < due[0]; i++) x.size(64, 0);
    for (int i = 0; i < due[1]; i++) x.set(1, 0, 0);
    for (int i = 0; i < due[2]; i++) x.set(2, 0, 0);
    for (int i = 0; i < due[3]; i++) x.row(0, 0, -1);
    for (int i = 0; i < due[4]; i++) x.set(0, 1, 0);
    for (int i = 0; i < due[5]; i++) x.pass(0);
    for (int i = 0; i < due[6]; i++) x.row(0, 0, 61);
    for (int what = 11; what <= 17; what++) due(x.status(what), due[what - 11]);

    fresh("REFUSALS are none of what THE IMAGE has");
    x.pass(0); x.image(); x.pass(0); x.size(64, 0); x.restore(); due(x.status(16), 2); due(x.status(11), 1);
  }
}
