/**
 * Each sentence of the document's Terms, Details and promises that names a boundary, on an object of its own:
 * too small, too large, empty, full, a wrap-around. What is refused, and in which order, is in RefusalTests.
 */
public final class EdgeTests extends Answers {
  // The KINDS.
  private static final int HUM = 0, FAN = 1, GROUND = 2, ROOM = 3, EAR = 4, TOLD = 5, FAR = 6, MIXED = 7;

  public static void main(String[] args) {
    spotsAndHours();
    peopleAndSources();
    offAndSounds();
    soundsOfMixed();
    reaches();
    stands();
    hears();
    lawTexts();
    lawFaults();
    planTexts();
    planFaults();
    itemsOfHours();
    shelves();
    copies();
    saying();
    passing();
    pressesAndMatches();
    worths();
    sure();
    couldAndLacks();
    lettersTold();
    rid();
    bestSets();
    nightsAndSteps();
    meters();
    beds();
    acts();
    images();
    statuses();
    finish();
  }

  // ---- 1. THE TOWN ----

  private static void spotsAndHours() {
    fresh("SPOTS are 0 to 63");
    due(x.size(0, 1), 0); due(x.size(63, 1), 0); due(x.size(64, 1), -1); due(x.size(-1, 1), -1);

    fresh("on a board of 8 by 8: SPOT i in row i / 8, column i modulo 8; FAR APART: rows and columns between two, together");
    laws("loss 1");
    int[] corners = {0, 7, 56, 63};
    for (int i = 0; i < 4; i++) x.source(FAN, corners[i], 40, 99);
    for (int spot = 0; spot < 64; spot++) {
      due(x.reach(0, spot), 99 - (spot / 8 + spot % 8));
      due(x.reach(1, spot), 99 - (spot / 8 + 7 - spot % 8));
      due(x.reach(2, spot), 99 - (7 - spot / 8 + spot % 8));
      due(x.reach(3, spot), 99 - (7 - spot / 8 + 7 - spot % 8));
    }
    due(x.reach(1, 8), 91); due(x.reach(3, 0), 85);

    fresh("Each has a SIZE (0 to 9; 0 at first)");
    for (int spot = 0; spot < 64; spot++) due(x.size(spot, 9), 0);
    for (int spot = 0; spot < 64; spot++) due(x.size(spot, 0), 9);
    due(x.size(5, 10), -6); due(x.size(5, -1), -6); due(x.size(5, 1), 0);

    fresh("HOURS are 0 to 239");
    hums(1);
    due(x.sounds(0, 0), 1); due(x.sounds(0, 239), 1); due(x.sounds(0, 240), -1); due(x.sounds(0, -1), -1);

    fresh("of the DAY: modulo 24");
    x.source(FAN, 0, 40, 9); x.source(FAN, 0, 60, 9); x.hours(0, 0, 0); x.hours(1, 23, 23);
    for (int day = 0; day < 10; day++) {
      due(x.sounds(0, 24 * day), 1); due(x.sounds(0, 24 * day + 1), 0); due(x.sounds(0, 24 * day + 23), 0);
      due(x.sounds(1, 24 * day), 0); due(x.sounds(1, 24 * day + 22), 0); due(x.sounds(1, 24 * day + 23), 1);
    }

    fresh("the DAY: by 24");
    x.source(FAR, 0, 40, 9);
    x.weather(0, 1); due(x.sounds(0, 0), 1); due(x.sounds(0, 23), 1); due(x.sounds(0, 24), 0); x.weather(0, 0);
    x.weather(9, 1); due(x.sounds(0, 215), 0); due(x.sounds(0, 216), 1); due(x.sounds(0, 239), 1);

    fresh("NOW is an HOUR, 0 at first");
    due(x.status(6), 0); people(1); due(x.letter(0, 0), 1); due(x.letter(0, 1), -6); due(x.image(), 0);

    fresh("Each DAY (0 to 9) has WEATHER (0 calm, at first, 1 storm)");
    x.source(FAR, 0, 40, 9);
    for (int day = 0; day < 10; day++) { due(x.sounds(0, 24 * day), 0); due(x.weather(day, 1), 0); due(x.sounds(0, 24 * day), 1); }
    due(x.weather(10, 1), -6); due(x.weather(-1, 1), -6); due(x.weather(0, 2), -6); due(x.weather(0, -1), -6); due(x.weather(0, 0), 1);

    fresh("LAWS (numbers): LOSS 5, GAIN 10, RIGHT 4, WRONG 1, SPAN 2, PAPER 0 at first");
    int[] first = {5, 10, 4, 1, 2, 0};
    for (int which = 0; which < 6; which++) due(x.law(which), first[which]);
    people(2); x.source(FAN, 0, 40, 50); x.source(TOLD, 0, 80, 9);
    due(x.reach(0, 1), 45); x.size(1, 1); due(x.reach(0, 1), 55); due(x.sounds(1, 0), 1);
    x.match(0, 42); due(x.odds(0, 0), 4); due(x.odds(0, 1), 1); x.match(1, 43); due(x.odds(1, 0), 1);
  }

  private static void peopleAndSources() {
    fresh("PEOPLE have numbers, from 0 on, 12 at most");
    for (int i = 0; i < 12; i++) due(x.person(i, 40, 0, 0, true), i);
    due(x.person(0, 40, 0, 0, true), -7); due(x.status(1), 12); due(x.go(11, 0), 11); due(x.go(12, 0), -1);

    fresh("a BEST TONE (20 to 99)");
    due(x.person(0, 20, 0, 1, true), 0); due(x.person(0, 99, 0, 1, true), 1); due(x.needs(0, 99), 79); due(x.needs(1, 20), 79);
    due(x.person(0, 19, 0, 1, true), -6); due(x.person(0, 100, 0, 1, true), -6); due(x.status(1), 2);

    fresh("a LEAST (0 to 99)");
    due(x.person(0, 40, 0, 0, true), 0); due(x.person(0, 40, 99, 0, true), 1); due(x.needs(0, 40), 0); due(x.needs(1, 40), 99);
    due(x.person(0, 40, -1, 0, true), -6); due(x.person(0, 40, 100, 0, true), -6); due(x.status(1), 2);

    fresh("a SLOPE (0 to 9)");
    due(x.person(0, 40, 3, 0, true), 0); due(x.person(0, 40, 3, 9, true), 1); due(x.needs(0, 99), 3); due(x.needs(1, 41), 12);
    due(x.person(0, 40, 3, -1, true), -6); due(x.person(0, 40, 3, 10, true), -6); due(x.status(1), 2);

    fresh("NEEDS for a TONE: LEAST and SLOPE times how far it is from the BEST one");
    x.person(0, 20, 99, 9, true); x.person(0, 60, 7, 2, true);
    due(x.needs(0, 20), 99); due(x.needs(0, 21), 108); due(x.needs(0, 99), 99 + 9 * 79);
    due(x.needs(1, 60), 7); due(x.needs(1, 59), 9); due(x.needs(1, 61), 9); due(x.needs(1, 20), 87); due(x.needs(1, 99), 85);
    due(x.needs(1, 19), -1); due(x.needs(1, 100), -1); due(x.needs(2, 60), -1);

    fresh("SOURCES have numbers, from 0 on, 14 at most");
    for (int i = 0; i < 14; i++) due(x.source(1 + i % 3, 0, 40, 9), i);
    due(x.source(FAN, 0, 40, 9), -7); due(x.status(0), 14); due(x.sounds(13, 0), 1); due(x.sounds(14, 0), -1);

    fresh("each of a KIND: 1 FAN .. 6 FAR, each under 0 HUM; 7 MIXED, under FAN");
    people(1);
    for (int kind = 1; kind <= 7; kind++) { due(x.source(kind, 0, 40, 9), kind - 1); x.show(0, kind - 1); due(x.says(0, HUM), 40); }
    due(x.says(0, FAN), 23); due(x.says(0, MIXED), 23); x.show(0, 0); due(x.says(0, MIXED), -2);
    due(x.source(0, 0, 40, 9), -1); due(x.source(8, 0, 40, 9), -1); due(x.source(-1, 0, 40, 9), -1);

    fresh("a SPOT (of EAR: one of the PEOPLE instead)");
    due(x.source(EAR, 0, 40, 9), -1); people(12);
    due(x.source(EAR, 11, 40, 9), 0); due(x.source(EAR, 12, 40, 9), -1); due(x.source(EAR, 63, 40, 9), -1); due(x.source(EAR, -1, 40, 9), -1);
    due(x.source(TOLD, 63, 40, 9), 1); due(x.source(TOLD, 64, 40, 9), -1); due(x.source(FAR, 63, 40, 9), 2); due(x.source(FAR, -1, 40, 9), -1);

    fresh("a TONE (20 to 99)");
    due(x.source(FAN, 0, 20, 9), 0); due(x.source(FAN, 0, 99, 9), 1); due(x.source(FAN, 0, 19, 9), -6); due(x.source(FAN, 0, 100, 9), -6);
    due(x.status(0), 2);

    fresh("a STRENGTH (1 to 99)");
    due(x.source(FAN, 0, 40, 1), 0); due(x.source(FAN, 0, 40, 99), 1); due(x.source(FAN, 0, 40, 0), -6); due(x.source(FAN, 0, 40, 100), -6);
    due(x.reach(0, 0), 1); due(x.reach(1, 0), 99); due(x.status(0), 2);

    fresh("HOURS of the DAY p to q (0 to 23); p 0, q 23 at first");
    x.source(FAN, 0, 40, 9);
    due(x.sounds(0, 0), 1); due(x.sounds(0, 23), 1); due(x.hours(0, 23, 0), 23); due(x.hours(0, 0, 0), 2300); due(x.hours(0, 23, 23), 0);
    due(x.hours(0, 24, 0), -6); due(x.hours(0, 0, 24), -6); due(x.hours(0, -1, 0), -6); due(x.hours(0, 0, -1), -6); due(x.hours(0, 1, 2), 2323);

    fresh("a COST (0 to 99); COST 0 at first");
    hums(1); due(x.cost(0, 99), 0); due(x.cost(0, 100), -6); due(x.cost(0, -1), -6); due(x.cost(0, 0), 99); due(x.cost(0, 1), 0);
  }

  private static void offAndSounds() {
    fresh("It may be OFF, by hand, or by the PLAN in force");
    hums(2); plan("off 0 from 5 to 5"); x.off(1, true);
    due(x.sounds(0, 5), 1); due(x.sounds(1, 5), 0); x.force(0); due(x.sounds(0, 4), 1); due(x.sounds(0, 5), 0); due(x.sounds(1, 5), 0);
    x.force(-1); due(x.sounds(0, 5), 1);

    fresh("A SOURCE is OFF by hand, or not: 1; 0 if it was so");
    hums(14);
    due(x.off(0, false), 0); due(x.off(13, false), 0); due(x.off(13, true), 1); due(x.off(13, true), 0); due(x.off(0, true), 1);
    due(x.off(13, false), 1); due(x.sounds(13, 0), 1); due(x.sounds(0, 0), 0); due(x.off(14, true), -1); due(x.off(31, true), -1);

    fresh("HUM: if it isn't OFF; the others: as HUM");
    people(1); x.source(GROUND, 0, 40, 9); x.source(ROOM, 0, 40, 9); x.source(EAR, 0, 40, 9); laws("paper 239");
    for (int i = 0; i < 3; i++) {
      x.hours(i, 5, 5); due(x.sounds(i, 4), 1); due(x.sounds(i, 239), 1); x.off(i, true); due(x.sounds(i, 4), 0); due(x.sounds(i, 5), 0);
    }

    fresh("FAN: as HUM, and the HOUR of the DAY is from p to q");
    x.source(FAN, 0, 40, 9);
    x.hours(0, 6, 20); due(x.sounds(0, 5), 0); due(x.sounds(0, 6), 1); due(x.sounds(0, 20), 1); due(x.sounds(0, 21), 0);
    due(x.sounds(0, 216 + 5), 0); due(x.sounds(0, 216 + 6), 1); due(x.sounds(0, 216 + 20), 1); due(x.sounds(0, 216 + 21), 0);
    x.hours(0, 6, 6); due(x.sounds(0, 5), 0); due(x.sounds(0, 6), 1); due(x.sounds(0, 7), 0);
    x.hours(0, 0, 23); due(x.sounds(0, 24), 1); x.off(0, true); due(x.sounds(0, 24), 0);

    fresh("(if p is above q: from p on, or till q)");
    x.source(FAN, 0, 40, 9);
    x.hours(0, 23, 0); due(x.sounds(0, 22), 0); due(x.sounds(0, 23), 1); due(x.sounds(0, 24), 1); due(x.sounds(0, 25), 0);
    x.hours(0, 20, 6); due(x.sounds(0, 6), 1); due(x.sounds(0, 7), 0); due(x.sounds(0, 19), 0); due(x.sounds(0, 20), 1); due(x.sounds(0, 0), 1);
    x.hours(0, 7, 6); for (int hour = 0; hour < 24; hour++) due(x.sounds(0, hour), 1);

    fresh("TOLD: as HUM, and the HOUR isn't before PAPER");
    x.source(TOLD, 0, 40, 9); x.hours(0, 5, 5); due(x.sounds(0, 0), 1);
    laws("paper 1"); due(x.sounds(0, 0), 0); due(x.sounds(0, 1), 1); laws("paper 239"); due(x.sounds(0, 238), 0); due(x.sounds(0, 239), 1);
    x.off(0, true); due(x.sounds(0, 239), 0);

    fresh("FAR: as HUM, and its DAY has storm");
    x.source(FAR, 0, 40, 9); x.hours(0, 5, 5); due(x.sounds(0, 24), 0);
    x.weather(1, 1); due(x.sounds(0, 23), 0); due(x.sounds(0, 24), 1); due(x.sounds(0, 47), 1); due(x.sounds(0, 48), 0); x.off(0, true);
    due(x.sounds(0, 24), 0);

    fresh("Whether a SOURCE SOUNDS in an HOUR: 1, 0. NONE: no such ones");
    due(x.sounds(0, 0), -1); hums(1); due(x.sounds(0, 0), 1); due(x.sounds(1, 0), -1); due(x.sounds(-1, 0), -1);
    due(x.sounds(MAX, 0), -1); due(x.sounds(MIN, 0), -1); due(x.sounds(0, MAX), -1); due(x.sounds(0, MIN), -1);
  }

  /** A MIXED one of TONE 44 beside one other: whether it sounds in HOUR 0. */
  private static int mixedBeside(int kind, int tone) {
    people(1);
    x.source(MIXED, 0, 44, 9);
    x.source(kind, 0, tone, 9);
    return x.sounds(0, 0);
  }

  private static void soundsOfMixed() {
    fresh("MIXED: another FAN: alone it is silent");
    x.source(MIXED, 0, 44, 9); due(x.sounds(0, 0), 0);
    int[] tones = {39, 40, 43, 44, 45, 48, 49}, due = {0, 1, 1, 0, 1, 1, 0};
    for (int i = 0; i < tones.length; i++) {
      fresh("MIXED: whose TONE is 1 to 4 apart: 44 and " + tones[i]);
      due(mixedBeside(FAN, tones[i]), due[i]);
    }

    fresh("MIXED: (or one under it)");
    due(mixedBeside(MIXED, 48), 1); due(x.sounds(1, 0), 1);

    fresh("MIXED: (or one under it), 5 apart");
    due(mixedBeside(MIXED, 49), 0); due(x.sounds(1, 0), 0);
    for (int kind = GROUND; kind <= FAR; kind++) {
      fresh("MIXED: another FAN: KIND " + kind + " is none"); x.weather(0, 1); due(mixedBeside(kind, 45), 0);
    }

    fresh("MIXED: as FAN");
    due(mixedBeside(FAN, 45), 1); x.hours(0, 5, 6); due(x.sounds(0, 4), 0); due(x.sounds(0, 5), 1); due(x.sounds(0, 6), 1); due(x.sounds(0, 7), 0);
    x.hours(0, 6, 5); due(x.sounds(0, 4), 1); due(x.sounds(0, 5), 1); x.off(0, true); due(x.sounds(0, 5), 0);

    fresh("MIXED: the other one is not OFF, by hand");
    due(mixedBeside(FAN, 45), 1); x.off(1, true); due(x.sounds(0, 0), 0); x.off(1, false); due(x.sounds(0, 0), 1);

    fresh("MIXED: the other one is not OFF, by the PLAN in force");
    mixedBeside(FAN, 45); plan("off 1 from 7 to 8"); x.force(0);
    due(x.sounds(0, 6), 1); due(x.sounds(0, 7), 0); due(x.sounds(0, 8), 0); due(x.sounds(0, 9), 1);

    fresh("MIXED: the other one, as a FAN, SOUNDS in that HOUR");
    mixedBeside(FAN, 45); x.hours(1, 22, 2); due(x.sounds(0, 2), 1); due(x.sounds(0, 3), 0); due(x.sounds(0, 21), 0); due(x.sounds(0, 22), 1);

    fresh("MIXED: (or one under it): two of them by each other, till one is OFF");
    x.source(MIXED, 0, 40, 9); x.source(MIXED, 0, 44, 9); x.source(FAN, 0, 48, 9); x.hours(2, 9, 9);
    due(x.sounds(1, 0), 1); due(x.sounds(0, 0), 1); x.off(0, true); due(x.sounds(1, 0), 0); due(x.sounds(1, 9), 1); due(x.sounds(2, 0), 0);

    fresh("MIXED: as a FAN, of three in a chain");
    x.source(MIXED, 0, 40, 9); x.source(MIXED, 0, 44, 9); x.source(MIXED, 0, 48, 9); x.hours(0, 1, 1); x.hours(1, 1, 2); x.hours(2, 2, 3);
    due(x.sounds(0, 1), 1); due(x.sounds(1, 1), 1); due(x.sounds(1, 2), 1); due(x.sounds(2, 2), 1); due(x.sounds(2, 3), 0); due(x.sounds(0, 2), 0);
  }

  private static void reaches() {
    fresh("HUM: STRENGTH less LOSS times FAR APART (0 at least)");
    x.source(FAN, 0, 40, 10); x.source(FAN, 0, 40, 11); x.source(FAN, 0, 40, 9);
    due(x.reach(0, 0), 10); due(x.reach(0, 1), 5); due(x.reach(0, 2), 0); due(x.reach(1, 2), 1); due(x.reach(2, 2), 0); due(x.reach(0, 63), 0);
    laws("loss 0"); due(x.reach(0, 63), 10); laws("loss 99"); due(x.reach(1, 0), 11); due(x.reach(1, 1), 0); due(x.reach(1, 63), 0);

    fresh("GROUND: STRENGTH less LOSS times FAR APART / 4, cut (0 at least)");
    x.source(GROUND, 0, 40, 30); x.source(GROUND, 0, 40, 17);
    int[] levels = {30, 29, 28, 27, 25, 24, 23, 22};
    for (int i = 0; i < 8; i++) due(x.reach(0, i), levels[i]);
    due(x.reach(1, 63), 0); laws("loss 4"); due(x.reach(1, 63), 3); laws("loss 1"); due(x.reach(0, 3), 30); due(x.reach(0, 4), 29);
    laws("loss 0"); due(x.reach(0, 63), 30); laws("loss 99"); due(x.reach(0, 1), 6); due(x.reach(0, 2), 0); due(x.reach(0, 63), 0);

    fresh("ROOM: as HUM, twice that where it STANDS");
    x.source(ROOM, 0, 40, 10); laws("gain 0"); due(x.reach(0, 0), 10); due(x.reach(0, 1), 5); due(x.reach(0, 2), 0);
    x.size(0, 8); x.size(1, 8); x.size(2, 8); x.size(3, 7); due(x.reach(0, 0), 20); due(x.reach(0, 1), 10); due(x.reach(0, 2), 0);
    laws("loss 3"); due(x.reach(0, 3), 1); due(x.reach(0, 2), 8);

    fresh("FAR: STRENGTH less LOSS (0 at least)");
    x.source(FAR, 0, 40, 5); x.source(FAR, 0, 40, 6); x.source(FAR, 0, 40, 4);
    due(x.reach(0, 0), 0); due(x.reach(1, 0), 1); due(x.reach(2, 0), 0); due(x.reach(1, 63), 1); laws("loss 0"); due(x.reach(0, 63), 5);
    laws("loss 99"); due(x.reach(1, 0), 0);

    fresh("MIXED: as HUM, and 6 if that is above 0");
    x.source(MIXED, 0, 40, 10); due(x.reach(0, 0), 16); due(x.reach(0, 1), 11); due(x.reach(0, 2), 0); due(x.reach(0, 3), 0);
    laws("loss 9"); due(x.reach(0, 1), 7);

    fresh("EAR, TOLD: STRENGTH");
    people(1); x.source(EAR, 0, 40, 1); x.source(TOLD, 0, 40, 99); laws("loss 99");
    for (int spot = 0; spot < 64; spot += 21) { due(x.reach(0, spot), 1); due(x.reach(1, spot), 99); }

    fresh("LEVEL with which a SOURCE REACHES a SPOT. NONE: no such ones");
    due(x.reach(0, 0), -1); x.source(FAN, 0, 40, 9); x.off(0, true); due(x.reach(0, 0), 9); due(x.reach(1, 0), -1); due(x.reach(-1, 0), -1);
    due(x.reach(0, 64), -1); due(x.reach(0, -1), -1); due(x.reach(0, MAX), -1); due(x.reach(MIN, 0), -1);
  }

  private static void stands() {
    fresh("A TONE STANDS at a SPOT of a SIZE above 0, if the TONE modulo SIZE is 0");
    x.source(FAN, 0, 63, 9);
    int[] due = {9, 19, 9, 19, 9, 9, 9, 19, 9, 19};
    for (int size = 0; size < 10; size++) { x.size(0, size); due(x.reach(0, 0), due[size]); }

    fresh("there the LEVEL of all but EAR and TOLD ones is GAIN more, if it is above 0");
    people(1);
    for (int kind = 1; kind <= 7; kind++) x.source(kind, 0, 40, 6);
    x.size(0, 1); x.size(63, 1); x.size(1, 1);
    int[] here = {16, 16, 22, 6, 6, 11, 22}, there = {0, 0, 0, 6, 6, 11, 0}, next = {11, 15, 12, 6, 6, 11, 17};
    for (int i = 0; i < 7; i++) { due(x.reach(i, 0), here[i]); due(x.reach(i, 63), there[i]); due(x.reach(i, 1), next[i]); }
    laws("gain 0"); due(x.reach(0, 0), 6); laws("gain 99"); due(x.reach(0, 0), 105); due(x.reach(0, 63), 0); due(x.reach(3, 0), 6);
    due(x.reach(4, 0), 6);
    laws("loss 6"); due(x.reach(5, 0), 0);

    fresh("(of ROOM ones behind twice)");
    x.source(ROOM, 0, 40, 20); x.size(0, 1); due(x.reach(0, 0), 50); x.size(1, 1); due(x.reach(0, 1), 40); due(x.reach(0, 2), 10);
  }

  private static void hears() {
    fresh("its LEVEL at the SPOT is above 0 and not below what one NEEDS for its TONE");
    x.person(0, 40, 9, 0, true); x.person(0, 40, 10, 0, true); x.person(0, 40, 11, 0, true); x.person(2, 40, 0, 0, true); x.person(1, 40, 0, 5, true);
    x.source(FAN, 0, 40, 10); x.source(FAN, 0, 41, 10); x.source(FAN, 0, 42, 10);
    due(x.hears(0, 0), 7); due(x.hears(1, 0), 7); due(x.hears(2, 0), 0); due(x.hears(3, 0), 0); due(x.hears(4, 0), 3);

    fresh("above 0: at LEVEL 1 it is heard, if one NEEDS no more");
    x.person(0, 40, 0, 0, true); x.person(0, 40, 1, 0, true); x.person(0, 40, 2, 0, true); x.source(FAN, 1, 40, 6);
    due(x.reach(0, 0), 1); due(x.hears(0, 0), 1); due(x.hears(1, 0), 1); due(x.hears(2, 0), 0);

    fresh("One HEARS a SOURCE in an HOUR, if it SOUNDS then");
    people(1); x.source(FAN, 0, 40, 9); x.source(EAR, 0, 60, 9); x.source(TOLD, 0, 70, 9); x.hours(0, 5, 5); laws("paper 6"); x.off(1, true);
    due(x.hears(0, 4), 0); due(x.hears(0, 5), 1); due(x.hears(0, 6), 4); x.off(1, false); due(x.hears(0, 4), 2); due(x.hears(0, 239), 6);

    fresh("an EAR only if it is one's own (at any LEVEL)");
    x.person(0, 20, 99, 9, false); people(1); x.source(EAR, 0, 99, 1); x.source(EAR, 1, 40, 99);
    due(x.hears(0, 0), 1); due(x.hears(1, 0), 2); x.go(0, 63); due(x.hears(0, 0), 1);

    fresh("a TOLD one only who READS (at any LEVEL)");
    x.person(0, 20, 99, 9, true); x.person(0, 40, 0, 0, false); x.source(TOLD, 0, 99, 1);
    due(x.hears(0, 0), 1); due(x.hears(1, 0), 0); x.go(0, 63); due(x.hears(0, 0), 1);

    fresh("The SOURCES (bits) that a person HEARS in an HOUR. NONE: no such ones");
    due(x.hears(0, 0), -1); people(12); due(x.hears(11, 0), 0); hums(14); due(x.hears(11, 239), (1 << 14) - 1); due(x.hears(12, 0), -1);
    due(x.hears(-1, 0), -1); due(x.hears(0, 240), -1); due(x.hears(0, -1), -1); due(x.hears(0, MAX), -1);

    fresh("LOUDEST: of those that one HEARS the one of the greatest LEVEL, of several the first");
    x.person(0, 40, 20, 0, true); x.source(FAN, 0, 40, 19); x.source(FAN, 1, 40, 29); x.source(FAN, 0, 40, 24); x.source(FAN, 0, 40, 23);
    due(x.loudest(0, 0), 1); x.off(1, true); due(x.loudest(0, 0), 2); x.off(2, true); due(x.loudest(0, 0), 3); x.off(3, true);
    due(x.loudest(0, 0), -1);
    x.source(EAR, 0, 99, 1); due(x.loudest(0, 0), 4); x.source(TOLD, 0, 99, 2); due(x.loudest(0, 0), 5);

    fresh("LOUDEST; NONE: nothing, no such ones");
    due(x.loudest(0, 0), -1); people(1); due(x.loudest(0, 0), -1); x.source(FAN, 0, 40, 9); due(x.loudest(0, 0), 0);
    due(x.loudest(1, 0), -1); due(x.loudest(-1, 0), -1); due(x.loudest(0, 240), -1); due(x.loudest(0, -1), -1);

    fresh("Pairs of SOURCES that a person HEARS in an HOUR whose TONES are 1 to 4 apart");
    x.person(0, 40, 5, 0, true); due(x.beats(0, 0), 0); x.source(ROOM, 0, 40, 9); due(x.beats(0, 0), 0); x.source(ROOM, 0, 40, 9);
    due(x.beats(0, 0), 0);
    x.source(ROOM, 0, 45, 9); due(x.beats(0, 0), 0); x.source(ROOM, 0, 44, 9); due(x.beats(0, 0), 3); x.source(ROOM, 0, 41, 4); due(x.beats(0, 0), 3);
    x.source(EAR, 0, 41, 1); due(x.beats(0, 0), 7); x.off(3, true); due(x.beats(0, 0), 3);

    fresh("Pairs: as many as there can be; NONE: no such ones");
    people(1); for (int i = 0; i < 14; i++) x.source(ROOM, 0, 40 + i / 3, 9);
    due(x.beats(0, 239), 14 * 13 / 2 - 4 * 3 - 1); due(x.beats(1, 0), -1); due(x.beats(-1, 0), -1); due(x.beats(0, 240), -1); due(x.beats(0, -1), -1);
  }

  // ---- 2. TEXTS, PLANS ----

  /** What laws() answers to one text in a new object, and the law that it tells of. */
  private static void law(String text, int told, int which, int value) {
    fresh("A TEXT OF LAWS: " + text);
    due(laws(text), told);
    due(x.fault(), -1);
    due(x.law(which), value);
  }

  private static void lawTexts() {
    String[] names = {"loss", "gain", "right", "wrong", "span", "paper"};
    int[] least = {0, 0, 1, 1, 0, 0}, most = {99, 99, 9, 9, 99, 239}, first = {5, 10, 4, 1, 2, 0};
    for (int i = 0; i < 6; i++) {
      law(names[i] + " " + least[i], 1, i, least[i]);
      law(names[i] + " " + most[i], 1, i, most[i]);
      lawFault(names[i] + " " + (most[i] + 1), names[i].length() + 1);
      due(x.law(i), first[i]);
      lawFault(names[i] + " -1", names[i].length() + 1);
      if (least[i] > 0) lawFault(names[i] + " 0", names[i].length() + 1);
    }
    law("loss 7", 1, 0, 7); law("loss 07", 1, 0, 7); law("loss 007", 1, 0, 7); law("right 009", 1, 2, 9); law("span 000", 1, 4, 0);
    law("loss 1;loss 2", 2, 0, 2); law("loss 1;gain 2;loss 3", 3, 0, 3); law("gain 3;span 0;paper 9", 3, 5, 9);
    law("span 1;span 2;span 3;span 4;span 5;span 6;span 7;span 8", 8, 4, 8);

    fresh("A TEXT OF LAWS that is as long as a ROW can be");
    due(laws("paper 100;paper 101;paper 102;paper 103;paper 104;loss 1;l"), -6); due(x.fault(), 58);
    due(laws("paper 100;paper 101;paper 102;paper 103;paper 104;paper 0105"), -6); due(x.fault(), 59); due(x.law(5), 0);
    due(laws("paper 100;paper 101;paper 102;paper 103;paper 104;paper 105;"), -6); due(x.fault(), 60); due(x.law(5), 0);
    due(laws("paper 100;paper 101;paper 102;paper 103;paper 104;right 001"), 6); due(x.law(5), 104);

    fresh("all are told so; none of a text with a FAULT");
    due(laws("loss 1;gain 2;span 3;x"), -6); due(x.law(0), 5); due(x.law(1), 10); due(x.law(4), 2);
    due(laws("loss 1;gain 2;span 3"), 3); due(x.law(0), 1); due(x.law(1), 2); due(x.law(4), 3); due(x.law(2), 4); due(x.law(3), 1); due(x.law(5), 0);

    fresh("(As ints: of longs the lowest 32 bits.): LAWS");
    write(0, 3, "loss 7"); x.set(0, 0, (1L << 32) + 'l'); x.set(0, 5, Long.MIN_VALUE + '7'); due(x.laws(0), 1); due(x.law(0), 7);
    x.set(0, 5, (1L << 31) + '7'); due(x.laws(0), -6); due(x.fault(), 5); write(0, 2, "loss 7"); x.set(0, 5, 256 + '7'); due(x.laws(0), -6);
    due(x.fault(), 5);
    write(0, 1, "loss 7"); x.set(0, 5, 65536 + '7'); due(x.laws(0), 1); write(0, 0, "loss 7"); x.set(0, 5, 256 + '7'); due(x.laws(0), 1);
  }

  private static void lawFault(String text, int fault) {
    fresh("The FAULT of a TEXT OF LAWS: " + text);
    due(laws(text), -6);
    due(x.fault(), fault);
    due(x.status(16), 1);
  }

  private static void lawFaults() {
    // The number of elements, if it ends too early.
    lawFault("", 0); lawFault("l", 1); lawFault("loss", 4); lawFault("loss ", 5); lawFault("loss 5;", 7); lawFault("loss 5;g", 8);
    lawFault("loss 5;gain", 11); lawFault("loss 5;gain ", 12); lawFault("paper", 5); lawFault("paper ", 6);
    // The first place at which an element can't stand.
    lawFault("x", 0); lawFault(" loss 5", 0); lawFault(";loss 5", 0); lawFault("5", 0); lawFault("LOSS 5", 0); lawFault("losx 5", 3);
    lawFault("loss5", 4); lawFault("loss  5", 5); lawFault("loss x", 5); lawFault("loss ;", 5); lawFault("loss 5 ", 6); lawFault("loss 5x", 6);
    lawFault("loss 5,gain 1", 6); lawFault("loss 5; gain 1", 7); lawFault("loss 5;;", 7); lawFault("lain 5", 1); lawFault("gpan 5", 1);
    lawFault("riht 5", 2);
    lawFault("wright 5", 2); lawFault("spin 5", 2); lawFault("papr 5", 3); lawFault("off 0 from 1 to 2", 0); lawFault("loss 5;off 0", 7);
    // Just beside the digits.
    lawFault("loss /", 5); lawFault("loss :", 5); lawFault("loss 1/", 6); lawFault("loss 1:", 6);
    // NUMBERS: 1 to 3 digits; of a NUMBER that may not be the place of its first digit.
    lawFault("loss 0001", 8); lawFault("loss 0991", 8); lawFault("paper 2390", 9); lawFault("loss 1000", 5); lawFault("loss 100", 5);
    lawFault("loss 999", 5);
    lawFault("loss 100;x", 5); lawFault("right 000", 6); lawFault("right 010", 6); lawFault("wrong 10", 6); lawFault("paper 240", 6);
    lawFault("paper 999", 6);
    lawFault("loss 5;gain 100", 12); lawFault("loss 100;gain 100", 5);
    // Too early, with a NUMBER that may not be.
    lawFault("loss 1;right 0", 13); lawFault("paper 300", 6);
  }

  /** What plan() answers to one text in a new object of three SOURCES. */
  private static void planned(String text) {
    fresh("A PLAN: " + text);
    hums(3);
    due(plan(text), 0);
    due(x.fault(), -1);
    due(x.status(5), 1);
  }

  private static void planTexts() {
    planned("off 0 from 20 to 44"); planned("on 1 from 20 to 44"); planned("off 0 from 0 to 0"); planned("off 0 from 239 to 239");
    planned("off 0 from 0 to 239");
    planned("off 000 from 000 to 000"); planned("off 1 from 5 to 5 each 1"); planned("off 1 from 5 to 6 each 99");
    planned("off 1 from 5 to 6 each 099");
    planned("on 0 from 0 to 0;on 0 from 0 to 0;on 0 from 0 to 0"); planned("off 0 from 100 to 200 each 99;on 01 from 001 to 239 each 010");

    fresh("PLANS have numbers, from 0 on, 8 at most");
    hums(1); write(0, 0, "on 0 from 0 to 0");
    for (int i = 0; i < 8; i++) due(x.plan(0), i);
    due(x.plan(0), -7); due(x.fault(), -1); due(x.status(5), 8); due(x.force(7), -1); due(x.force(8), -11); due(x.force(7), 7);

    fresh("a PLAN refused for ROOM has no FAULT, one with a FAULT is refused for that first");
    hums(1); write(0, 0, "on 0 from 0 to 0"); write(1, 0, "on 0 from 0 to 0 ");
    due(x.plan(1), -6); due(x.fault(), 17); for (int i = 0; i < 8; i++) x.plan(0);
    due(x.plan(1), -6); due(x.fault(), 17); due(x.plan(0), -7); due(x.fault(), -1);

    fresh("one may be in force (none at first)");
    hums(1); plan("off 0 from 0 to 239"); due(x.sounds(0, 0), 1); due(x.force(-1), -1); due(x.force(0), -1); due(x.sounds(0, 0), 0);
    due(x.force(0), 0);
    due(x.force(-1), 0); due(x.sounds(0, 0), 1); due(x.force(-1), -1); due(x.status(11), 0);

    fresh("A PLAN is in force (NONE: none): which was. (NONE as -1; a REFUSAL as -11.)");
    due(x.force(0), -11); due(x.force(-2), -11); due(x.force(MIN), -11); due(x.force(MAX), -11); due(x.status(11), 4); due(x.force(-1), -1);
    due(x.status(11), 4);
    hums(1); plan("on 0 from 0 to 0"); x.force(0); due(x.force(1), -11); due(x.force(0), 0); due(x.status(11), 5);

    fresh("a NUMBER (of a SOURCE that there is)");
    due(planFault("off 0 from 1 to 2"), 4); hums(1); due(plan("off 0 from 1 to 2"), 0); due(planFault("off 1 from 1 to 2"), 4); hums(13);
    due(plan("off 13 from 1 to 2"), 1); due(planFault("off 14 from 1 to 2"), 4); due(planFault("on 14 from 1 to 2"), 3);
    due(planFault("off 999 from 1 to 2"), 4);

    fresh("(As ints: of longs the lowest 32 bits.): PLANS");
    hums(1); write(0, 3, "off 0 from 5 to 5"); x.set(0, 4, (7L << 40) + '0'); x.set(0, 0, 'o' - (1L << 32)); due(x.plan(0), 0); x.force(0);
    due(x.sounds(0, 5), 0); due(x.sounds(0, 6), 1);
  }

  /** The FAULT of one text in a new object of three SOURCES. */
  private static void planFault(String text, int fault) {
    fresh("The FAULT of a PLAN: " + text);
    hums(3);
    due(plan(text), -6);
    due(x.fault(), fault);
    due(x.status(5), 0);
  }

  private static void planFaults() {
    // The number of elements, if it ends too early: at each place but those at which a PLAN may end.
    String whole = "off 2 from 20 to 44 each 7;on 1 from 3 to 9";
    // (Behind 18 of them the 4 of 44 stands there as a NUMBER, below from.)
    for (int n = 0; n < whole.length(); n++) {
      String early = whole.substring(0, n);
      if (n == 18) planFault(early, 17);
      else if (n == 19 || n == 26) planned(early);
      else planFault(early, n);
    }
    planned(whole);
    // The first place at which an element can't stand.
    for (int n = 0; n < whole.length(); n++) {
      String other = whole.substring(0, n) + "#" + whole.substring(n + 1);
      planFault(other, n == 18 ? 17 : n);
    }
    planFault("loss 5", 0); planFault("of 2 from 1 to 2", 2); planFault("onn", 2); planFault("offf", 3); planFault("on  2", 3); planFault("off x", 4);
    planFault("off 2f", 5);
    planFault("off 2  from", 6); planFault("off 2 form", 7); planFault("off 2 from1", 10); planFault("off 2 from 1to", 12);
    planFault("off 2 from 1 too", 15);
    planFault("off 2 from 1 to 2each", 17); planFault("off 2 from 1 to 2 ;", 18); planFault("off 2 from 1 to 2; on", 18);
    planFault("off 2 from 1 to 2;;", 18);
    planFault("off 2 from 1 to 2 each 3 each 4", 24); planFault("off 2 from 1 to 2 each 3 ", 24); planFault("off 2 from 1 to 2 ", 18);
    planFault("off 2 from 1 to 2;", 18);
    // NUMBERS: 1 to 3 digits.
    planFault("off 0000 from 1 to 2", 7); planFault("off 2 from 0001 to 2", 14); planFault("off 2 from 0 to 0002", 19);
    planFault("off 2 from 1 to 2 each 0013", 26);
    // Of a NUMBER that may not be the place of its first digit.
    planFault("off 3 from 1 to 2", 4); planFault("on 03 from 1 to 2", 3); planFault("off 3", 4); planFault("off 3333", 4);
    planFault("off 2 from 240 to 240", 11);
    planFault("off 2 from 999", 11); planFault("off 2 from 5 to 4", 16); planFault("off 2 from 5 to 04;", 16); planFault("off 2 from 100 to 99", 18);
    planFault("off 2 from 50 to 5", 17);
    planFault("off 2 from 5 to 240", 16); planFault("off 2 from 5 to 2400", 16); planFault("off 2 from 5 to 5 each 0", 23);
    planFault("off 2 from 5 to 5 each 100", 23);
    planFault("off 2 from 5 to 5 each 000", 23); planFault("off 2 from 5 to 5 each 999", 23); planFault("off 2 from 5 to 4 each 0", 16);
    planFault("off 3 from 5 to 4", 4);
    planFault("off 2 from 5 to 5;on 3 from 1 to 2", 21); planFault("on 2 from 5 to 5;on 2 from 7 to 6", 32);

    fresh("The FAULT of the latest laws() or plan() that came to a ROW; NONE: there was none, or none yet");
    due(x.fault(), -1); hums(1); x.laws(0); due(x.fault(), -1); x.show(1, 0); x.plan(1); due(x.fault(), -1); due(lawFault("loss"), 4);
    due(x.laws(0), -3); due(x.fault(), 4); due(x.plan(0), -3); due(x.fault(), 4); due(x.laws(1), -2); due(x.fault(), 4); due(x.plan(8), -1);
    due(x.fault(), 4);
    due(laws("loss 1"), 1); due(x.fault(), -1); due(planFault("o"), 1); due(plan("on 0 from 0 to 0"), 0); due(x.fault(), -1); due(planFault("on"), 2);
    due(lawFault("gain 1"), -1);
  }

  private static void itemsOfHours() {
    fresh("An ITEM is of an HOUR, if that is from .. to");
    hums(1); plan("off 0 from 20 to 44"); x.force(0);
    due(x.sounds(0, 19), 1); due(x.sounds(0, 20), 0); due(x.sounds(0, 44), 0); due(x.sounds(0, 45), 1); due(x.sounds(0, 0), 1);
    due(x.sounds(0, 239), 1);

    fresh("An ITEM of one HOUR, at the first and the last");
    hums(2); plan("off 0 from 0 to 0;off 1 from 239 to 239"); x.force(0);
    due(x.sounds(0, 0), 0); due(x.sounds(0, 1), 1); due(x.sounds(0, 239), 1); due(x.sounds(1, 0), 1); due(x.sounds(1, 238), 1);
    due(x.sounds(1, 239), 0);

    fresh("(with each N) if it is so less some times N");
    hums(1); plan("off 0 from 10 to 12 each 24"); x.force(0);
    for (int hour = 0; hour < 240; hour++) due(x.sounds(0, hour), hour % 24 >= 10 && hour % 24 <= 12 ? 0 : 1);

    fresh("(with each N) not ahead of from");
    hums(1); plan("off 0 from 50 to 51 each 10"); x.force(0);
    due(x.sounds(0, 40), 1); due(x.sounds(0, 49), 1); due(x.sounds(0, 50), 0); due(x.sounds(0, 51), 0); due(x.sounds(0, 52), 1);
    due(x.sounds(0, 60), 0); due(x.sounds(0, 231), 0); due(x.sounds(0, 232), 1);

    fresh("(with each 1), (with each 99)");
    hums(2); plan("off 0 from 7 to 7 each 1;off 1 from 0 to 0 each 99"); x.force(0);
    due(x.sounds(0, 6), 1); due(x.sounds(0, 7), 0); due(x.sounds(0, 8), 0); due(x.sounds(0, 239), 0);
    due(x.sounds(1, 0), 0); due(x.sounds(1, 98), 1); due(x.sounds(1, 99), 0); due(x.sounds(1, 100), 1); due(x.sounds(1, 198), 0);

    fresh("(with each N) less than from .. to is long");
    hums(2); plan("off 0 from 5 to 14 each 10;off 1 from 5 to 13 each 10"); x.force(0);
    due(x.sounds(0, 4), 1); for (int hour = 5; hour < 40; hour++) { due(x.sounds(0, hour), 0); due(x.sounds(1, hour), hour % 10 == 4 ? 1 : 0); }

    fresh("if the last of its ITEMS for it that is of the HOUR says off");
    hums(2); plan("off 0 from 10 to 20;on 0 from 15 to 30"); plan("on 0 from 15 to 30;off 0 from 10 to 20");
    plan("off 0 from 10 to 20;on 1 from 0 to 239");
    x.force(0); due(x.sounds(0, 14), 0); due(x.sounds(0, 15), 1); due(x.sounds(0, 20), 1); x.force(1); due(x.sounds(0, 15), 0);
    due(x.sounds(0, 20), 0); due(x.sounds(0, 21), 1);
    x.force(2); due(x.sounds(0, 15), 0);

    fresh("each PLAN has its own ITEMS, none of one read before it, nor of a text with a FAULT");
    hums(2); plan("off 0 from 0 to 9"); plan("off 1 from 0 to 9"); due(planFault("off 0 from 0 to 9;x"), 18); plan("on 1 from 0 to 0");
    x.force(1); due(x.sounds(0, 0), 1); due(x.sounds(1, 0), 0); x.force(2); due(x.sounds(0, 0), 1); due(x.sounds(1, 0), 1);
    x.force(0); due(x.sounds(0, 0), 0); due(x.sounds(1, 0), 1);

    fresh("if there is none, as by hand; if it says on: not");
    hums(2); plan("on 0 from 10 to 20"); x.force(0); x.off(0, true); x.off(1, true);
    due(x.sounds(0, 9), 0); due(x.sounds(0, 10), 1); due(x.sounds(0, 20), 1); due(x.sounds(0, 21), 0);
    due(x.sounds(0, 0), 0); due(x.sounds(1, 15), 0); x.off(0, false); due(x.sounds(0, 9), 1);
  }

  private static void shelves() {
    fresh("SHELVES 0 to 7 hold NOTHING (at first)");
    for (int s = -1; s <= 8; s++) due(x.holds(s), -1);
    due(x.row(7, 0, 0), 1); due(x.holds(7), 100); due(x.row(8, 0, 0), -1); due(x.row(-1, 0, 0), -1);

    fresh("A ROW has a SORT (0 bytes, 1 shorts, 2 ints, 3 longs)");
    for (int sort = 0; sort < 4; sort++) { due(x.row(sort, sort, 1), 1); due(x.holds(sort), 100 + sort); }
    due(x.row(0, 4, 1), -6); due(x.row(0, -1, 1), -6); due(x.holds(0), 100);

    fresh("and 0 to 60 elements, 0 at first");
    due(x.row(0, 3, 60), 1); for (int i = 0; i < 60; i++) due(x.element(0, i), 0);
    due(x.set(0, 59, 5), 1); due(x.element(0, 59), 5); due(x.set(0, 60, 5), -5); due(x.row(1, 3, 0), 1); due(x.set(1, 0, 5), -5);
    due(x.element(1, 0), 0);
    due(x.row(0, 3, 61), -7); due(x.element(0, 59), 5); due(x.row(0, 3, 60), 1); due(x.element(0, 59), 0);
    due(x.set(0, 3, 7), 1); due(x.row(0, 0, 3), 1); due(x.element(0, 3), 0); due(x.row(0, 0, 4), 1); due(x.element(0, 3), 0);

    fresh("0 at first, of a ROW that comes where another was");
    x.row(0, 2, 3); for (int i = 0; i < 3; i++) x.set(0, i, 7);
    x.row(0, 3, 3); for (int i = 0; i < 3; i++) due(x.element(0, i), 0);

    fresh("no element is there any more, when a SOURCE or NOTHING comes where a ROW was");
    hums(1); x.row(0, 2, 1); x.set(0, 0, 7); x.show(0, 0); due(x.element(0, 0), 0); due(x.set(0, 0, 1), -2);
    x.row(0, 2, 1); x.set(0, 0, 7); x.show(0, -1); due(x.element(0, 0), 0); due(x.set(0, 0, 1), -3);

    fresh("what is put in keeps its lowest bits");
    long[] v = {127, 128, -128, -129, 255, 256, 32767, 32768, -32769, 65535, MAX, MAX + 1L, MIN - 1L, 0xFFFFFFFFL, Long.MAX_VALUE, Long.MIN_VALUE};
    for (int sort = 0; sort < 4; sort++) x.row(sort, sort, 1);
    for (long one : v) {
      for (int sort = 0; sort < 4; sort++) x.set(sort, 0, one);
      due(x.element(0, 0), (byte) one); due(x.element(1, 0), (short) one); due(x.element(2, 0), (int) one); due(x.element(3, 0), one);
    }

    fresh("Element i of the ROW; 0 if there is none (nothing is refused)");
    hums(1); x.row(0, 0, 2); x.set(0, 0, 1); x.set(0, 1, 2); x.show(1, 0);
    due(x.element(0, 0), 1); due(x.element(0, 1), 2); due(x.element(0, 2), 0); due(x.element(0, -1), 0); due(x.element(0, MAX), 0);
    due(x.element(0, MIN), 0);
    due(x.element(1, 0), 0); due(x.element(2, 0), 0); due(x.element(8, 0), 0); due(x.element(-1, 0), 0);
    for (int what = 11; what <= 17; what++) due(x.status(what), 0);

    fresh("SHELF s holds a SOURCE, or NOTHING (source NONE): 1, 0");
    due(x.show(0, 0), -1); due(x.show(0, -1), 0); hums(14); due(x.show(0, 13), 1); due(x.holds(0), 13); due(x.show(0, 14), -1); due(x.holds(0), 13);
    due(x.show(0, -2), -1);
    due(x.show(0, -1), 0); due(x.holds(0), -1); x.row(0, 2, 3); due(x.show(0, 0), 1); due(x.holds(0), 0); due(x.element(0, 0), 0); x.row(0, 2, 3);
    due(x.show(0, -1), 0); due(x.holds(0), -1);

    fresh("What SHELF s holds: NONE NOTHING, or no such SHELF; a SOURCE's number; 100 and the SORT of a ROW");
    hums(1); x.show(0, 0); x.row(1, 3, 0); due(x.holds(0), 0); due(x.holds(1), 103); due(x.holds(2), -1); due(x.holds(8), -1); due(x.holds(-1), -1);
    due(x.holds(MAX), -1); due(x.status(11), 0);
  }

  private static void copies() {
    fresh("Elements i, i + 1, .. n of them, come to elements j, j + 1, .. (as they were ahead)");
    x.row(0, 0, 6); for (int i = 0; i < 6; i++) x.set(0, i, i + 1);
    due(x.copy(0, 0, 0, 1, 5), 1); int[] up = {1, 1, 2, 3, 4, 5}; for (int i = 0; i < 6; i++) due(x.element(0, i), up[i]);
    due(x.copy(0, 0, 2, 0, 4), 1); int[] down = {2, 3, 4, 5, 4, 5}; for (int i = 0; i < 6; i++) due(x.element(0, i), down[i]);
    due(x.copy(0, 0, 0, 0, 6), 1); for (int i = 0; i < 6; i++) due(x.element(0, i), down[i]);

    fresh("n of them: none, all");
    x.row(0, 3, 60); x.row(1, 3, 60); for (int i = 0; i < 60; i++) x.set(0, i, Long.MIN_VALUE + i);
    due(x.copy(0, 1, 0, 0, 0), 1); due(x.element(1, 0), 0); due(x.copy(0, 1, 60, 60, 0), 1); due(x.copy(0, 1, 0, 0, 60), 1);
    for (int i = 0; i < 60; i++) due(x.element(1, i), Long.MIN_VALUE + i);
    x.row(2, 3, 0); due(x.copy(2, 2, 0, 0, 0), 1); due(x.copy(2, 1, 0, 60, 0), 1); due(x.copy(2, 1, 0, 0, 1), -5);

    fresh("i or j below 0, or an end that isn't there");
    x.row(0, 0, 3); x.row(1, 0, 5);
    due(x.copy(0, 1, 0, 0, 3), 1); due(x.copy(0, 1, 0, 2, 3), 1); due(x.copy(0, 1, 0, 3, 3), -5); due(x.copy(0, 1, 1, 0, 3), -5);
    due(x.copy(0, 1, 0, 0, 4), -5);
    due(x.copy(0, 1, -1, 0, 1), -5); due(x.copy(0, 1, 0, -1, 1), -5); due(x.copy(0, 1, -1, 0, 0), -5); due(x.copy(0, 1, 0, -1, 0), -5);
    due(x.copy(0, 1, 4, 0, 0), -5); due(x.copy(0, 1, 3, 5, 0), 1); due(x.copy(0, 1, 3, 6, 0), -5); due(x.copy(0, 1, 1, 1, MAX), -5);
    due(x.copy(0, 1, MAX, 0, MAX), -5);
    due(x.copy(0, 1, 0, MAX, 1), -5); due(x.copy(0, 1, MIN, MIN, 0), -5);
  }

  private static void saying() {
    fresh("FAN, MIXED 100 times p and q");
    x.source(FAN, 0, 40, 9); x.source(MIXED, 0, 40, 9); x.show(0, 0); x.show(1, 1); due(x.says(0, FAN), 23); due(x.says(1, MIXED), 23);
    x.hours(0, 23, 23); x.hours(1, 0, 0); due(x.says(0, FAN), 2323); due(x.says(1, MIXED), 0); due(x.says(1, FAN), 0);

    fresh("GROUND, ROOM its SPOT");
    x.source(GROUND, 0, 40, 9); x.source(ROOM, 63, 40, 9); x.show(0, 0); x.show(1, 1); due(x.says(0, GROUND), 0); due(x.says(1, ROOM), 63);
    due(x.says(0, ROOM), -2); due(x.says(1, GROUND), -2);

    fresh("EAR whose");
    people(12); x.source(EAR, 11, 40, 9); x.source(EAR, 0, 40, 9); x.show(0, 0); x.show(1, 1); due(x.says(0, EAR), 11); due(x.says(1, EAR), 0);
    due(x.says(0, HUM), 40);

    fresh("TOLD PAPER");
    x.source(TOLD, 9, 40, 9); x.show(0, 0); due(x.says(0, TOLD), 0); laws("paper 239"); due(x.says(0, TOLD), 239); due(x.says(0, HUM), 40);
    due(x.says(0, FAR), -2);

    fresh("FAR how many DAYS have storm");
    x.source(FAR, 9, 99, 9); x.show(0, 0); due(x.says(0, FAR), 0);
    for (int day = 0; day < 10; day++) { x.weather(day, 1); due(x.says(0, FAR), day + 1); }
    x.weather(9, 1); due(x.says(0, FAR), 10); due(x.says(0, HUM), 99);
  }

  private static void passing() {
    fresh("n HOURS (1 to 100) go by: NOW");
    due(x.pass(1), 1); due(x.pass(100), 101); due(x.pass(101), -6); due(x.pass(0), -6); due(x.pass(-1), -6); due(x.pass(MAX), -6);
    due(x.pass(MIN), -6); due(x.status(6), 101);

    fresh("-6 also beyond 239");
    x.pass(100); x.pass(100); due(x.pass(40), -6); due(x.status(6), 200); due(x.pass(39), 239); due(x.pass(1), -6); due(x.status(6), 239);
  }

  // ---- 3. WHAT IS TOLD ----

  private static void pressesAndMatches() {
    fresh("PRESSES, 60 at most");
    people(2); for (int i = 1; i <= 60; i++) due(x.press(i % 2, i % 3 == 0), i);
    due(x.press(0, true), -7); due(x.press(1, false), -7); due(x.status(2), 60); due(x.match(0, 40), 1);

    fresh("MATCHES, 20 at most");
    people(2); for (int i = 1; i <= 20; i++) due(x.match(i % 2, 20), i);
    due(x.match(0, 20), -7); due(x.status(3), 20); due(x.press(0, true), 1);

    fresh("A MATCH of a TONE (20 to 99)");
    people(1); due(x.match(0, 20), 1); due(x.match(0, 99), 2); due(x.match(0, 19), -6); due(x.match(0, 100), -6); due(x.status(3), 2);

    fresh("LETTERS, 30 at most");
    people(2); for (int i = 1; i <= 30; i++) due(x.letter(i % 2, 0), i);
    due(x.letter(0, 0), -7); due(x.status(4), 30);

    fresh("-6 since: below 0, or above NOW");
    people(1); due(x.letter(0, 0), 1); due(x.letter(0, 1), -6); due(x.letter(0, -1), -6); x.pass(100); x.pass(100); x.pass(39);
    due(x.letter(0, 239), 2); due(x.letter(0, 240), -6); due(x.letter(0, 0), 3);

    fresh("A PRESS of a person in NOW");
    people(2); x.source(FAN, 0, 40, 50); x.hours(0, 5, 5); x.pass(4); x.press(0, true); x.pass(1); x.press(1, true); due(x.odds(0, 0), 1);
    due(x.odds(1, 0), 4);

    fresh("A PRESS at the SPOT of now");
    people(1); x.source(FAN, 0, 40, 5); x.press(0, true); due(x.odds(0, 0), 4); x.go(0, 1); due(x.odds(0, 0), 4); x.press(0, true);
    due(x.odds(0, 0), 4); x.press(0, false); due(x.odds(0, 0), 16);

    fresh("PRESSES by n elements of the ROW: 0 not heard, 1 heard, others none");
    people(1); x.row(0, 0, 7); int[] v = {0, 1, 2, -1, 127, 1, 0}; for (int i = 0; i < 7; i++) x.set(0, i, v[i]);
    x.pass(7); due(x.pressed(0, 0, 0, 7), 4); due(x.pressed(0, 0, 2, 3), 4); due(x.pressed(0, 0, 0, 1), 5); due(x.pressed(0, 0, 6, 1), 6);

    fresh("PRESSES by elements as ints: of longs the lowest 32 bits");
    people(1); x.row(0, 3, 4); x.set(0, 0, 1L << 32); x.set(0, 1, (1L << 32) + 1); x.set(0, 2, 1L << 31); x.set(0, 3, (1L << 33) + 2); x.pass(4);
    due(x.pressed(0, 0, 0, 4), 2);

    fresh("PRESSES by no element");
    people(1); x.row(0, 0, 0); due(x.pressed(0, 0, 0, 0), 0); x.row(0, 0, 4); due(x.pressed(0, 0, 4, 0), 0); due(x.pressed(0, 0, 5, 0), -5);

    fresh("one an HOUR from NOW less n on (NOW isn't counted)");
    people(4); x.source(FAN, 0, 40, 9); x.hours(0, 5, 6); x.row(0, 0, 4); x.set(0, 1, 1); x.set(0, 2, 1);
    x.pass(7); x.pressed(0, 0, 0, 4); x.pass(1); x.pressed(1, 0, 0, 4); x.pass(1); x.pressed(2, 0, 0, 4); x.pressed(3, 0, 1, 3);
    due(x.odds(0, 0), 16); due(x.odds(1, 0), 256); due(x.odds(2, 0), 16); due(x.odds(3, 0), 16); x.pressed(3, 0, 1, 2); due(x.odds(3, 0), 16);

    fresh("-6 NOW is below n");
    people(1); x.row(0, 0, 60); x.pass(59); due(x.pressed(0, 0, 0, 60), -6); due(x.pressed(0, 0, 0, 59), 59); x.pass(1); x.row(0, 0, 60);
    x.set(0, 0, 1); for (int i = 1; i < 60; i++) x.set(0, i, 2); due(x.pressed(0, 0, 0, 60), 60);

    fresh("-7 more than may be (none is taken then); in pressed(), -7 is by the PRESSES that would come");
    people(1); x.row(0, 0, 60); x.pass(100); due(x.pressed(0, 0, 0, 60), 60); due(x.pressed(0, 0, 0, 1), -7); due(x.pressed(0, 0, 0, 0), 60);
    x.set(0, 0, 2); due(x.pressed(0, 0, 0, 1), 60); due(x.pressed(0, 0, 0, 2), -7);

    fresh("-7: one too many");
    people(1); x.row(0, 0, 60); x.pass(100); x.press(0, true); due(x.pressed(0, 0, 0, 60), -7); due(x.status(2), 1); x.set(0, 30, 3);
    due(x.pressed(0, 0, 0, 60), 60);
  }

  private static void worths() {
    fresh("a PRESS AGREES, if the person (at that SPOT) HEARS it in that HOUR just if it was heard");
    people(4); x.source(FAN, 0, 40, 9); x.source(FAN, 63, 60, 9); x.press(0, true); x.press(1, false); due(x.odds(0, 0), 4); due(x.odds(0, 1), 1);
    due(x.odds(1, 0), 1); due(x.odds(1, 1), 4);
    x.off(0, true); due(x.odds(0, 0), 1); due(x.odds(1, 0), 4);

    fresh("a MATCH, if the TONE is no more than SPAN from its own");
    people(1); x.source(FAN, 0, 40, 9); int[] tones = {37, 38, 40, 42, 43}, due = {1, 4, 16, 64, 64};
    for (int i = 0; i < 5; i++) { x.match(0, tones[i]); due(x.odds(0, 0), due[i]); }
    laws("span 0"); due(x.odds(0, 0), 4); laws("span 3"); due(x.odds(0, 0), 1024); laws("span 99"); due(x.odds(0, 0), 1024);

    fresh("RIGHT for each that AGREES, WRONG for each that doesn't, all multiplied");
    people(1); hums(1); due(x.odds(0, 0), 1); laws("right 9;wrong 7"); x.press(0, true); x.press(0, false); x.match(0, 40); x.match(0, 99);
    due(x.odds(0, 0), 9 * 7 * 9 * 7); laws("right 1;wrong 1"); due(x.odds(0, 0), 1);

    fresh("by the latest 16 of a person's PRESSES and MATCHES");
    people(1); hums(1); laws("right 3;wrong 2"); x.press(0, false);
    for (int i = 1; i < 16; i++) { x.press(0, true); due(x.odds(0, 0), 2 * pow(3, i)); }
    x.press(0, true); due(x.odds(0, 0), pow(3, 16)); x.match(0, 99); due(x.odds(0, 0), 2 * pow(3, 15));

    fresh("of a person's: those of others don't count");
    people(2); hums(1); laws("right 3;wrong 2"); for (int i = 0; i < 16; i++) x.press(0, true); for (int i = 0; i < 20; i++) x.match(1, 99);
    for (int i = 0; i < 20; i++) x.press(1, false); due(x.odds(0, 0), pow(3, 16)); due(x.odds(1, 0), pow(2, 16));

    fresh("in the order in which they came: by pressed() later than by press(), though of HOURS before");
    people(1); hums(1); laws("right 3;wrong 2"); x.pass(16); for (int i = 0; i < 16; i++) x.press(0, true); x.row(0, 0, 1); x.pressed(0, 0, 0, 1);
    due(x.odds(0, 0), 2 * pow(3, 15));
    x.match(0, 40); due(x.odds(0, 0), 2 * pow(3, 15)); for (int i = 0; i < 14; i++) x.match(0, 40); due(x.odds(0, 0), 2 * pow(3, 15)); x.match(0, 40);
    due(x.odds(0, 0), pow(3, 16));

    fresh("the greatest WORTH");
    people(1); hums(14); laws("right 9"); for (int i = 0; i < 60; i++) x.press(0, true);
    for (int i = 0; i < 14; i++) due(x.odds(0, i), 1853020188851841L);

    fresh("WORTH of a SOURCE for a person. 0: no such ones (nothing is refused)");
    due(x.odds(0, 0), 0); people(1); due(x.odds(0, 0), 0); hums(1); due(x.odds(0, 0), 1); due(x.odds(1, 0), 0); due(x.odds(-1, 0), 0);
    due(x.odds(0, 1), 0); due(x.odds(0, -1), 0); due(x.odds(MAX, MIN), 0); due(x.status(11), 0);
  }

  private static void sure() {
    fresh("SURE: the SOURCE of the greatest WORTH (of several none)");
    people(1); due(x.sure(0, 1), -1); x.source(FAN, 0, 40, 9); due(x.sure(0, 100), 0); x.source(FAN, 0, 50, 9); due(x.sure(0, 1), -1); x.match(0, 50);
    due(x.sure(0, 1), 1); x.match(0, 40); due(x.sure(0, 1), -1);

    fresh("of several none, though one ahead of them has less, or one behind");
    people(1); x.source(FAN, 0, 40, 9); x.source(FAN, 0, 50, 9); x.source(FAN, 0, 51, 9); x.source(FAN, 0, 60, 9); x.match(0, 50);
    due(x.sure(0, 1), -1); x.match(0, 53); due(x.sure(0, 1), 2);

    fresh("if 100 times WORTH is no less than n times the sum");
    people(1); x.source(FAN, 0, 40, 9); x.source(FAN, 0, 50, 9); x.match(0, 50); due(x.sure(0, 80), 1); due(x.sure(0, 81), -1);
    x.source(FAN, 0, 60, 9); due(x.sure(0, 66), 1); due(x.sure(0, 67), -1);

    fresh("SURE of the greatest WORTHS that there can be");
    people(1); x.source(FAN, 0, 40, 9); for (int i = 0; i < 13; i++) x.source(FAN, 63, 60, 9); laws("right 9");
    for (int i = 0; i < 16; i++) x.press(0, true); due(x.sure(0, 99), 0); due(x.sure(0, 100), -1);

    fresh("SURE by n (1 to 100); NONE: none, no such person, n");
    people(1); hums(1); due(x.sure(0, 1), 0); due(x.sure(0, 100), 0); due(x.sure(0, 0), -1); due(x.sure(0, 101), -1); due(x.sure(0, -1), -1);
    due(x.sure(1, 50), -1); due(x.sure(-1, 50), -1); due(x.sure(0, MAX), -1); due(x.status(11), 0); due(x.status(16), 0);
  }

  private static void couldAndLacks() {
    fresh("COULD: of a TONE no more than SPAN away");
    people(1); for (int tone = 37; tone <= 43; tone++) x.source(FAN, 0, tone, 9);
    due(x.could(0, 40), 2 | 4 | 8 | 16 | 32); laws("span 0"); due(x.could(0, 40), 8); laws("span 3"); due(x.could(0, 40), 127);
    due(x.could(0, 34), 1); due(x.could(0, 33), 0); laws("span 99"); due(x.could(0, 99), 127);

    fresh("COULD: that a person could hear, if all that aren't EARS, TOLD sounded");
    x.person(0, 40, 9, 0, true); x.source(FAN, 0, 40, 9); x.source(FAN, 0, 40, 8); x.source(FAR, 0, 40, 14); x.source(MIXED, 0, 40, 3);
    x.off(0, true); x.hours(3, 5, 5); due(x.could(0, 40), 1 | 4 | 8);
    x.go(0, 1); due(x.could(0, 40), 4); x.person(0, 40, 0, 0, true); laws("loss 14"); due(x.could(1, 40), 1 | 2 | 8); laws("loss 5"); x.go(1, 2);
    due(x.could(1, 40), 4);

    fresh("EARS and TOLD are none of what COULD be heard");
    people(1); x.source(EAR, 0, 40, 99); x.source(TOLD, 0, 40, 99); due(x.could(0, 40), 0); due(x.hears(0, 0), 3);

    fresh("COULD of a person and a TONE. NONE: no such ones");
    due(x.could(0, 40), -1); people(1); due(x.could(0, 40), 0); due(x.could(0, 20), 0); due(x.could(0, 99), 0); due(x.could(0, 19), -1);
    due(x.could(0, 100), -1); due(x.could(1, 40), -1); due(x.could(-1, 40), -1); due(x.status(11), 0);

    fresh("By how much the SOURCE that comes nearest to being heard lacks: what a person NEEDS less LEVEL");
    x.person(0, 40, 30, 2, true); x.source(FAN, 63, 40, 99); due(x.lacks(0), 1); x.go(0, 9); due(x.lacks(0), 0); x.go(0, 0); laws("loss 9");
    due(x.lacks(0), 30); x.source(FAN, 0, 45, 12); due(x.lacks(0), 28);
    x.off(1, true); due(x.lacks(0), 28); x.source(FAR, 0, 40, 12); due(x.lacks(0), 27); x.size(0, 8); due(x.lacks(0), 17);

    fresh("(0 if it is enough)");
    x.person(0, 40, 9, 0, true); x.source(FAN, 0, 40, 8); due(x.lacks(0), 1); x.source(FAN, 0, 40, 9); due(x.lacks(0), 0); x.source(FAN, 0, 40, 99);
    due(x.lacks(0), 0);

    fresh("What lacks() tells is never below 0, and 0 where nothing is NEEDED");
    people(1); x.source(FAN, 0, 40, 99); due(x.lacks(0), 0);

    fresh("0 where nothing is NEEDED, at LEVEL 0");
    people(1); x.source(FAN, 63, 40, 1);
    due(x.reach(0, 0), 0); due(x.hears(0, 0), 0); due(x.lacks(0), 0);

    fresh("(no EAR, TOLD); NONE: no such person, SOURCES");
    due(x.lacks(0), -1); x.person(0, 40, 9, 0, true); due(x.lacks(0), -1); x.source(EAR, 0, 40, 99); due(x.lacks(0), -1); x.source(TOLD, 0, 40, 99);
    due(x.lacks(0), -1); x.source(FAN, 0, 40, 1); due(x.lacks(0), 8);
    due(x.lacks(1), -1); due(x.lacks(-1), -1); due(x.lacks(MAX), -1); due(x.status(11), 0);
  }

  private static void lettersTold() {
    fresh("LETTERS that came in or after PAPER: all (0)");
    people(1); due(x.told(0), 0); laws("paper 10"); x.pass(9); x.letter(0, 0); due(x.told(0), 0); x.pass(1); x.letter(0, 0); due(x.told(0), 1);
    x.pass(1); x.letter(0, 0); due(x.told(0), 2); laws("paper 0"); due(x.told(0), 3); laws("paper 12"); due(x.told(0), 0);

    fresh("of those who say since an HOUR before PAPER (1)");
    people(1); laws("paper 10"); x.pass(9); x.letter(0, 0); due(x.told(1), 0); x.pass(1); x.letter(0, 10); due(x.told(1), 0); x.letter(0, 9);
    due(x.told(1), 1); x.letter(0, 0); due(x.told(1), 2); laws("paper 0"); due(x.told(1), 0);

    fresh("of those who HEAR nothing in the HOUR in which it came (2; by all as it is now)");
    people(2); x.source(FAN, 0, 40, 9); x.hours(0, 5, 5); x.pass(4); x.letter(0, 0); due(x.told(2), 1); x.pass(1); x.letter(0, 0); due(x.told(2), 1);
    x.letter(1, 0); due(x.told(2), 1); x.go(1, 63); due(x.told(2), 2); x.off(0, true); due(x.told(2), 3);
    laws("paper 5"); due(x.told(2), 2); x.off(0, false); due(x.told(2), 1);

    fresh("-5: another one");
    due(x.told(0), 0); due(x.told(2), 0); due(x.told(3), -5); due(x.told(-1), -5); due(x.told(MAX), -5); due(x.status(15), 3);
  }

  private static void rid() {
    fresh("RID by a set: people of whom all SOURCES that they HEAR are of the set (who HEARS none, too)");
    due(x.rid(0, 0, 0), 0); people(1); due(x.rid(0, 0, 0), 1); x.source(FAN, 0, 40, 9); x.source(ROOM, 7, 60, 9); x.person(63, 40, 0, 0, true);
    x.person(7, 40, 0, 0, true);
    due(x.rid(0, 0, 0), 1); due(x.rid(1, 0, 0), 2); due(x.rid(2, 0, 0), 2); due(x.rid(3, 0, 0), 3);

    fresh("in some of HOURS a to b");
    people(1); x.source(FAN, 0, 40, 9); x.hours(0, 5, 6); due(x.rid(0, 0, 4), 1); due(x.rid(0, 0, 5), 0); due(x.rid(0, 6, 6), 0);
    due(x.rid(0, 7, 28), 1); due(x.rid(0, 7, 29), 0); due(x.rid(1, 0, 239), 1);

    fresh("(at their SPOTS)");
    people(1); x.source(FAN, 0, 40, 5); due(x.rid(0, 0, 0), 0); x.go(0, 1); due(x.rid(0, 0, 0), 1);

    fresh("EARS and TOLD may be of the set, too");
    people(1); x.source(EAR, 0, 40, 9); x.source(TOLD, 0, 40, 9); due(x.rid(0, 0, 0), 0); due(x.rid(1, 0, 0), 0); due(x.rid(3, 0, 0), 1);

    fresh("-1 a SOURCE");
    due(x.rid(1, 0, 0), -1); hums(1); due(x.rid(1, 0, 0), 0); due(x.rid(2, 0, 0), -1); hums(13); due(x.rid((1 << 14) - 1, 0, 0), 0);
    due(x.rid(1 << 14, 0, 0), -1); due(x.rid(1 << 31, 0, 0), -1); due(x.rid(-1, 0, 0), -1); due(x.rid(MAX, 0, 0), -1);

    fresh("-6 HOURS (0 to 239, b no less than a)");
    due(x.rid(0, 0, 239), 0); due(x.rid(0, 5, 5), 0); due(x.rid(0, 5, 4), -6); due(x.rid(0, -1, 4), -6); due(x.rid(0, 0, 240), -6);
    due(x.rid(0, 239, 239), 0); due(x.rid(0, 240, 240), -6); due(x.rid(0, MIN, MAX), -6);
  }

  private static void bestSets() {
    fresh("BEST SET: of COSTS no more than that together the one by which most are RID");
    people(1); x.person(63, 40, 0, 0, true); x.source(ROOM, 0, 40, 9); x.source(ROOM, 63, 50, 9); x.cost(0, 10); x.cost(1, 20);
    due(x.best(9, 0, 0), 0); due(x.best(10, 0, 0), 1); due(x.best(19, 0, 0), 1); due(x.best(20, 0, 0), 1); due(x.best(29, 0, 0), 1);
    due(x.best(30, 0, 0), 3); due(x.best(999, 0, 0), 3);

    fresh("of several that of the least COST");
    people(1); x.person(63, 40, 0, 0, true); x.source(ROOM, 0, 40, 9); x.source(ROOM, 63, 50, 9); x.cost(0, 10); x.cost(1, 9);
    due(x.best(10, 0, 0), 2); x.cost(1, 10); due(x.best(10, 0, 0), 1); x.cost(1, 11); due(x.best(11, 0, 0), 1);

    fresh("then the least as bits");
    people(1); x.person(63, 40, 0, 0, true); x.person(7, 40, 0, 0, true); x.source(ROOM, 7, 40, 9); x.source(ROOM, 63, 50, 9);
    x.source(ROOM, 0, 60, 9); for (int i = 0; i < 3; i++) x.cost(i, 5);
    due(x.best(5, 0, 0), 1); due(x.best(10, 0, 0), 3); due(x.best(14, 0, 0), 3); x.cost(0, 6); due(x.best(5, 0, 0), 2); due(x.best(10, 0, 0), 6);
    due(x.best(15, 0, 0), 6); due(x.best(16, 0, 0), 7);

    fresh("then the least as bits: no SOURCE for nothing, though it costs nothing");
    people(1); hums(2); x.source(ROOM, 63, 50, 9); due(x.best(0, 0, 0), 3); x.off(0, true); due(x.best(0, 0, 0), 2); x.off(1, true);
    due(x.best(0, 0, 0), 0);

    fresh("one SOURCE for several people goes ahead of cheaper ones for fewer");
    people(3); x.person(63, 40, 0, 0, true); x.source(ROOM, 0, 40, 9); x.source(ROOM, 63, 50, 9); x.cost(0, 99); x.cost(1, 1);
    due(x.best(99, 0, 0), 1); due(x.best(98, 0, 0), 2); due(x.best(100, 0, 0), 3);

    fresh("(none EAR or TOLD)");
    people(1); x.person(0, 40, 0, 0, false); x.source(TOLD, 0, 40, 9); x.source(ROOM, 0, 50, 9); due(x.best(999, 0, 0), 2); x.source(EAR, 1, 40, 9);
    due(x.best(999, 0, 0), 0); x.off(0, true); due(x.best(999, 0, 0), 2);

    fresh("of all sets: one empty, where there is no SOURCE or no one");
    due(x.best(999, 0, 239), 0); hums(14); due(x.best(999, 0, 239), 0); people(1); due(x.best(999, 0, 239), (1 << 14) - 1);

    fresh("a full town, in the greatest HOURS");
    for (int i = 0; i < 12; i++) x.person(5 * i, 40, 0, 0, false); for (int i = 0; i < 14; i++) x.source(ROOM, 5 * Math.min(i, 11), 40, 5);
    for (int i = 0; i < 14; i++) x.cost(i, 60 + i); due(x.best(999, 0, 239), 0x3fff); due(x.best(931, 0, 239), 0x3fff);
    due(x.best(930, 0, 239), 0x7ff); due(x.best(715, 0, 239), 0x7ff); due(x.best(714, 0, 239), 0x3ff); due(x.best(60, 0, 239), 1);
    due(x.best(59, 0, 239), 0);
    for (int i = 0; i < 14; i++) x.cost(i, 71); due(x.best(994, 0, 239), 0x3fff); x.cost(0, 72); due(x.best(994, 0, 239), 0x7ff); x.cost(0, 99);
    due(x.best(808, 0, 239), 0x7fe);

    fresh("BEST SET (bits) by a BUDGET (0 to 999), HOURS a to b. -6");
    people(1); x.source(FAN, 0, 40, 9); x.hours(0, 5, 5); due(x.best(0, 0, 4), 0); due(x.best(0, 0, 5), 1); due(x.best(999, 6, 28), 0);
    due(x.best(999, 6, 29), 1); due(x.best(-1, 0, 0), -6); due(x.best(1000, 0, 0), -6);
    due(x.best(0, 1, 0), -6); due(x.best(0, -1, 0), -6); due(x.best(0, 0, 240), -6); due(x.best(0, 239, 239), 0); due(x.best(0, 240, 240), -6);
    due(x.best(MIN, 0, 0), -6); due(x.best(MAX, 0, 0), -6);
  }

  private static void nightsAndSteps() {
    fresh("LOTS: of n (0 to 30) nights");
    due(x.lots(0, 0), 1); due(x.lots(30, 0), 1 << 30); due(x.lots(30, 30), 1); due(x.lots(30, 29), 31); due(x.lots(-1, 0), -6);
    due(x.lots(31, 0), -6); due(x.lots(MAX, 0), -6); due(x.lots(MIN, 0), -6);

    fresh("in how many of the 2 to the n ways c or more are right");
    for (int n = 0; n <= 30; n++) { due(x.lots(n, 0), 1 << n); due(x.lots(n, 1), (1 << n) - 1); due(x.lots(n, n), 1); due(x.lots(n, n + 1), 0); }
    due(x.lots(30, 15), 614429672); due(x.lots(30, 16), 459312152); due(x.lots(4, 2), 11); due(x.lots(4, 3), 5); due(x.lots(0, MAX), 0);
    due(x.lots(30, MAX), 0);

    fresh("c below 0");
    due(x.lots(5, -1), -6); due(x.lots(5, MIN), -6); due(x.lots(0, -1), -6); due(x.lots(5, 0), 32); due(x.status(16), 3);

    fresh("NEED of k: the least n for which 2 to the n is above k");
    due(x.need(0), 0); for (int n = 0; n < 20; n++) { due(x.need((1 << n) - 1), n); due(x.need(1 << n), n + 1); }

    fresh("NEED of k (0 to 1,000,000)");
    due(x.need(1000000), 20); due(x.need(1000001), -6); due(x.need(-1), -6); due(x.need(MAX), -6); due(x.need(MIN), -6);

    fresh("LEAST found by halving: how many times one has to ask till one of n steps is left");
    due(x.halve(1), 0);
    for (int n = 1; n < 10; n++) { due(x.halve(1 << n), n); due(x.halve((1 << n) + 1), n + 1); due(x.halve((1 << n) - 1), n < 2 ? 0 : n); }

    fresh("of n (1 to 1,000) steps");
    due(x.halve(1000), 10); due(x.halve(1001), -6); due(x.halve(0), -6); due(x.halve(-1), -6); due(x.halve(MAX), -6); due(x.halve(MIN), -6);
  }

  private static void meters() {
    fresh("METER: of a LEAST m: SOURCES of LEVEL m or more");
    x.source(FAN, 0, 40, 20); due(x.meter(0, 20, 0, 0), 1); due(x.meter(0, 21, 0, 0), 0); due(x.meter(1, 15, 0, 0), 1); due(x.meter(1, 16, 0, 0), 0);
    x.size(1, 1); due(x.meter(1, 25, 0, 0), 1); due(x.meter(1, 26, 0, 0), 0); due(x.meter(63, 1, 0, 0), 0);

    fresh("(no EAR, TOLD)");
    people(1); x.source(EAR, 0, 40, 99); x.source(TOLD, 0, 40, 99); due(x.meter(0, 1, 0, 239), 0);
    for (int kind : new int[] {FAN, GROUND, ROOM, FAR, MIXED}) x.source(kind, 0, 40, 99); x.weather(0, 1); due(x.meter(0, 1, 0, 23), 4);
    x.source(FAN, 0, 41, 99); due(x.meter(0, 1, 0, 23), 6);

    fresh("that SOUND, in HOURS a to b, each once");
    x.source(FAN, 0, 40, 20); x.hours(0, 5, 6); x.source(FAN, 0, 50, 20); x.hours(1, 7, 7); due(x.meter(0, 1, 0, 4), 0); due(x.meter(0, 1, 0, 5), 1);
    due(x.meter(0, 1, 6, 7), 2); due(x.meter(0, 1, 8, 28), 0); due(x.meter(0, 1, 8, 29), 1); due(x.meter(0, 1, 0, 239), 2);
    x.off(0, true); due(x.meter(0, 1, 0, 239), 1); due(x.meter(0, 1, 5, 6), 0);

    fresh("a METER of a LEAST (1 to 99). -1; -6");
    x.source(FAN, 63, 40, 99); due(x.meter(63, 99, 0, 0), 1); due(x.meter(63, 1, 239, 239), 1); due(x.meter(63, 0, 0, 0), -6);
    due(x.meter(63, 100, 0, 0), -6); due(x.meter(64, 1, 0, 0), -1); due(x.meter(-1, 1, 0, 0), -1);
    due(x.meter(0, 1, 1, 0), -6); due(x.meter(0, 1, -1, 0), -6); due(x.meter(0, 1, 0, 240), -6); due(x.meter(0, 1, 240, 240), -6);
    due(x.meter(0, MAX, 0, 0), -6); due(x.meter(0, MIN, 0, 0), -6);

    fresh("PLACE: the first SPOT at which it HEARS most SOURCES");
    due(x.place(1, 0, 239), 0); x.source(FAN, 63, 40, 9); due(x.place(9, 0, 0), 63); due(x.place(4, 0, 0), 55); due(x.place(10, 0, 0), 0);
    x.source(FAN, 0, 50, 9); due(x.place(9, 0, 0), 0); x.source(FAN, 61, 60, 9); due(x.place(4, 0, 0), 62); due(x.place(5, 0, 0), 0);

    fresh("PLACE: in HOURS a to b, each once");
    x.source(FAN, 20, 40, 9); x.hours(0, 5, 6); x.source(FAN, 30, 50, 9); x.hours(1, 7, 7); x.source(FAN, 30, 60, 9); x.hours(2, 8, 8);
    due(x.place(9, 0, 4), 0); due(x.place(9, 0, 6), 20); due(x.place(9, 0, 7), 20); due(x.place(9, 7, 7), 30); due(x.place(9, 0, 8), 30);

    fresh("PLACE: -6");
    due(x.place(1, 0, 0), 0); due(x.place(99, 239, 239), 0); due(x.place(0, 0, 0), -6); due(x.place(100, 0, 0), -6); due(x.place(1, 1, 0), -6);
    due(x.place(1, -1, 0), -6); due(x.place(1, 0, 240), -6); due(x.place(MAX, 0, 0), -6); due(x.place(MIN, 0, 0), -6); due(x.status(16), 7);
  }

  private static void beds() {
    fresh("The SPOT at which a person HEARS fewest SOURCES");
    people(1); due(x.bed(0, 0, 0), 0); x.source(ROOM, 0, 40, 9); due(x.bed(0, 0, 0), 2); laws("loss 0"); due(x.bed(0, 0, 0), 0);
    x.source(ROOM, 0, 50, 9); due(x.bed(0, 0, 0), 0);

    fresh("of several the one least FAR APART from the SPOT of now");
    x.person(63, 40, 0, 0, true); due(x.bed(0, 0, 239), 63); x.source(ROOM, 63, 40, 5); due(x.bed(0, 0, 239), 55); x.source(ROOM, 55, 40, 5);
    due(x.bed(0, 0, 239), 62); x.source(ROOM, 62, 40, 5); due(x.bed(0, 0, 239), 47);

    fresh("then the first");
    x.person(27, 40, 0, 0, true); x.source(ROOM, 27, 40, 5); due(x.bed(0, 0, 0), 19); x.source(ROOM, 19, 40, 5); due(x.bed(0, 0, 0), 26);
    x.source(ROOM, 26, 40, 5); due(x.bed(0, 0, 0), 28); x.source(ROOM, 28, 40, 5); due(x.bed(0, 0, 0), 35);

    fresh("then the first: SPOT 0, and the last one");
    x.person(1, 40, 0, 0, true); x.source(ROOM, 1, 40, 5); due(x.bed(0, 0, 0), 0); x.source(ROOM, 0, 40, 5); due(x.bed(0, 0, 0), 2);
    x.go(0, 62); x.source(ROOM, 62, 40, 5); x.source(ROOM, 54, 40, 5); x.source(ROOM, 61, 40, 5); due(x.bed(0, 0, 0), 63);

    fresh("(each once) in HOURS a to b");
    people(1); x.source(FAN, 0, 40, 5); x.hours(0, 5, 9); x.source(FAN, 1, 50, 5); x.hours(1, 6, 6); x.source(FAN, 8, 60, 5); x.hours(2, 7, 7);
    due(x.bed(0, 0, 4), 0); due(x.bed(0, 0, 5), 1); due(x.bed(0, 5, 6), 8); due(x.bed(0, 5, 7), 2); due(x.bed(0, 10, 28), 0);
    due(x.bed(0, 10, 29), 1);

    fresh("without any SOURCE being switched");
    people(1); x.source(FAN, 0, 40, 5); x.off(0, true); due(x.bed(0, 0, 0), 0); x.off(0, false); due(x.bed(0, 0, 0), 1); due(x.sounds(0, 0), 1);
    due(x.go(0, 0), 0);

    fresh("EARS and TOLD are heard at any SPOT; -1; -6");
    people(1); x.source(EAR, 0, 40, 9); x.source(TOLD, 0, 40, 9); due(x.bed(0, 0, 239), 0); due(x.bed(1, 0, 0), -1); due(x.bed(-1, 0, 0), -1);
    due(x.bed(0, 239, 239), 0); due(x.bed(0, 1, 0), -6); due(x.bed(0, 0, 240), -6); due(x.bed(0, -1, 0), -6); due(x.bed(0, 240, 240), -6);
  }

  private static void ran(int got, int want, int... bodies) {
    due(got, want);
    due(x.status(7), bodies.length);
    for (int i = 0; i < bodies.length; i++) due(x.trace(i), bodies[i]);
    due(x.trace(bodies.length), -1);
  }

  private static void acts() {
    fresh("ACTS of SOURCES, with x (wrapping)");
    people(1); for (int kind = 1; kind <= 7; kind++) x.source(kind, 0, 90 + kind, 9);
    due(x.act(0, 0, MAX), MAX * 3); due(x.act(1, 0, MAX), MIN); due(x.act(6, 0, MIN), (MIN + 5) * 3); due(x.act(1, 1, MAX), MIN * 2 + 92);
    due(x.act(2, 1, MAX), (MIN + 2) * 2); due(x.act(1, 1, 1 << 30), MIN + 2 + 92);
    due(x.act(5, 2, MIN), ((MIN + 5) * 2 ^ MIN - 96 + 5) * 2); due(x.act(2, 2, MIN + 92), -((MIN + 92 + 3) * 2 ^ MAX + 2));
    due(x.act(3, 2, MIN), ((MIN + 3) * 2 ^ MIN - 94 + 3) - 3); due(x.act(4, 0, MAX), MAX + 4 ^ 5);

    fresh("the body of the SOURCE's KIND, or of the next KIND above that has one; super: from the KIND above the body's on");
    people(1);
    for (int kind = 1; kind <= 7; kind++) x.source(kind, 0, 30 + kind, 9);
    ran(x.act(0, 0, 5), 15, 20, 10); ran(x.act(0, 1, 5), 30, 11, 20, 10); ran(x.act(0, 2, 5), 30 ^ (5 - 31) * 3, 12, 11, 20, 10, 20, 10);
    x.source(FAN, 0, 38, 9); ran(x.act(7, 0, 5), 36, 20, 10); ran(x.act(7, 1, 5), 72, 11, 20, 10);
    ran(x.act(1, 0, 5), 6, 10); ran(x.act(1, 1, 5), 44, 30, 11, 10); ran(x.act(1, 2, 5), 44 ^ 5 - 32 + 1, 12, 30, 11, 10, 10);
    ran(x.act(2, 0, 5), 7, 10); ran(x.act(2, 1, 5), 16, 40, 11, 10); ran(x.act(2, 2, 5), -(16 ^ 5 - 33 + 2), 41, 12, 40, 11, 10, 10);
    ran(x.act(3, 0, 5), 8, 10); ran(x.act(3, 1, 5), 16, 11, 10); ran(x.act(3, 2, 5), (16 ^ 5 - 34 + 3) - 3, 50, 12, 11, 10, 10);
    ran(x.act(4, 0, 5), 9 ^ 5, 60, 10); ran(x.act(4, 1, 5), (9 ^ 5) * 2, 11, 60, 10);
    ran(x.act(4, 2, 5), (9 ^ 5) * 2 ^ (5 - 35 + 4 ^ 5), 12, 11, 60, 10, 60, 10);
    ran(x.act(5, 0, 5), 10, 10); ran(x.act(5, 1, 5), 20, 11, 10); ran(x.act(5, 2, 5), (20 ^ 5 - 36 + 5) * 2, 70, 12, 11, 10, 10);
    ran(x.act(6, 0, 5), 30, 80, 20, 10); ran(x.act(6, 1, 5), 69, 81, 11, 80, 20, 10);
    ran(x.act(6, 2, 5), 69 ^ (5 - 37 - 1 + 6) * 3, 12, 81, 11, 80, 20, 10, 80, 20, 10);

    fresh("An ACT. 0, and no TRACE then: no such SOURCE, act");
    due(x.act(0, 0, 9), 0); due(x.status(7), 0); hums(1);
    int[][] no = {{1, 0}, {-1, 0}, {0, 3}, {0, -1}, {MAX, 0}, {0, MIN}};
    for (int[] one : no) {
      due(x.act(0, 2, 1), -(4 ^ 1 - 40)); due(x.status(7), 6); due(x.act(one[0], one[1], 9), 0); due(x.status(7), 0); due(x.trace(0), -1);
    }
    due(x.status(11), 0); due(x.status(16), 0);

    fresh("THE TRACE's i-th body. NONE: none such");
    due(x.trace(0), -1); x.source(MIXED, 0, 40, 9); x.act(0, 2, 0); int[] bodies = {12, 81, 11, 80, 20, 10, 80, 20, 10};
    for (int i = 0; i < 9; i++) due(x.trace(i), bodies[i]);
    due(x.trace(9), -1); due(x.trace(19), -1); due(x.trace(20), -1); due(x.trace(-1), -1); due(x.trace(MAX), -1); due(x.trace(MIN), -1);
    due(x.status(7), 9);

    fresh("in the latest act()");
    x.source(MIXED, 0, 40, 9); x.act(0, 2, 0); x.act(0, 0, 0); due(x.status(7), 3); due(x.trace(0), 80); due(x.trace(2), 10); due(x.trace(3), -1);
  }

  private static void images() {
    fresh("All is as THE IMAGE has it: NOW. -6 there is none");
    due(x.restore(), -6); due(x.status(16), 1); x.pass(100); due(x.image(), 100); x.pass(50); due(x.restore(), 100); due(x.status(6), 100); x.pass(7);
    due(x.image(), 107); x.pass(1); due(x.restore(), 107);

    fresh("an IMAGE of an empty town");
    x.image(); people(12); hums(14); due(x.restore(), 0); due(x.status(0), 0); due(x.status(1), 0); due(x.person(5, 40, 0, 0, true), 0);
    due(x.source(FAN, 0, 40, 9), 0); due(x.hears(0, 0), 0); due(x.source(EAR, 1, 40, 9), -1);

    fresh("an IMAGE of a full town");
    people(12); hums(14); for (int i = 0; i < 60; i++) x.press(11, true); for (int i = 0; i < 20; i++) x.match(10, 40);
    for (int i = 0; i < 30; i++) x.letter(9, 0); write(0, 0, "off 13 from 0 to 9"); for (int i = 0; i < 8; i++) x.plan(0);
    x.force(7); due(x.image(), 0); x.force(-1); x.pass(9); due(x.restore(), 0); int[] counts = {14, 12, 60, 20, 30, 8, 0, 0};
    for (int what = 0; what < 8; what++) due(x.status(what), counts[what]);
    due(x.force(7), 7); due(x.sounds(13, 9), 0); due(x.odds(11, 13), 1); due(x.odds(11, 12), pow(4, 16)); due(x.odds(10, 0), pow(4, 16));
    due(x.press(0, true), -7); due(x.person(0, 40, 0, 0, true), -7); due(x.source(FAN, 0, 40, 9), -7);

    fresh("SHELVES with SOURCES hold the SOURCES of these numbers, or NOTHING");
    hums(2); x.image(); hums(2); for (int s = 0; s < 4; s++) x.show(s, s); x.row(4, 2, 3); x.set(4, 2, 9); x.restore();
    due(x.holds(0), 0); due(x.holds(1), 1); due(x.holds(2), -1); due(x.holds(3), -1); due(x.holds(4), 102); due(x.element(4, 2), 9);
    due(x.holds(5), -1);

    fresh("the SOURCES of these numbers, of other KINDS maybe");
    x.source(FAN, 0, 40, 9); x.image(); x.source(GROUND, 9, 50, 9); x.show(0, 1); x.show(1, 0); x.restore(); due(x.holds(0), -1);
    x.source(ROOM, 7, 60, 9); due(x.holds(0), -1); x.show(0, 1); x.image(); x.restore(); due(x.says(0, ROOM), 7); due(x.says(1, FAN), 23);

    fresh("THE IMAGE of all but SHELVES (and THE IMAGE, REFUSALS, the FAULT, THE TRACE)");
    hums(1); x.image(); x.row(0, 1, 2); x.set(0, 1, 5); x.pass(0); due(lawFault("los"), 3); x.act(0, 0, 0); x.restore(); due(x.holds(0), 101);
    due(x.element(0, 1), 5); due(x.status(16), 2); due(x.fault(), 3); due(x.trace(0), 10); due(x.status(7), 1);
    x.pass(5); due(x.restore(), 0); due(x.restore(), 0);

    fresh("what is made anew after restore() has nothing of what was there");
    x.image(); x.source(MIXED, 0, 40, 9); x.source(FAN, 0, 41, 9); x.hours(0, 3, 4); x.cost(0, 5); x.off(0, true); plan("off 0 from 0 to 9");
    x.restore();
    x.source(MIXED, 0, 40, 9); due(x.hours(0, 0, 23), 23); due(x.cost(0, 0), 0); due(x.off(0, false), 0); x.source(FAN, 0, 60, 9);
    due(x.sounds(0, 0), 0);
    due(plan("on 0 from 0 to 9"), 0); x.force(0); due(x.sounds(1, 0), 1); x.off(0, true); due(x.sounds(0, 0), 0);

    fresh("what beats is as THE IMAGE has it");
    x.source(MIXED, 0, 40, 9); x.image(); x.source(FAN, 0, 41, 9); due(x.sounds(0, 0), 1); x.restore(); x.source(FAN, 0, 60, 9);
    due(x.sounds(0, 0), 0);

    fresh("PRESSES, MATCHES and LETTERS behind THE IMAGE are none any more");
    people(1); hums(1); laws("wrong 2"); x.press(0, true); x.letter(0, 0); x.image(); x.press(0, false); x.match(0, 99); x.letter(0, 0);
    due(x.odds(0, 0), 16); x.restore();
    due(x.odds(0, 0), 4); due(x.told(0), 1); x.match(0, 40); due(x.odds(0, 0), 16); due(x.letter(0, 0), 2); due(x.press(0, true), 2);
    due(x.odds(0, 0), 64);

    fresh("what changes behind image() isn't in it");
    people(1); hums(1); x.image(); x.go(0, 63); x.hours(0, 1, 2); x.cost(0, 9); x.off(0, true); x.size(0, 8); x.weather(0, 1); laws("loss 9");
    x.press(0, true); x.match(0, 40); x.letter(0, 0); plan("off 0 from 0 to 0"); x.force(0); x.restore();
    due(x.go(0, 0), 0); due(x.hours(0, 0, 0), 23); due(x.cost(0, 0), 0); due(x.off(0, false), 0); due(x.size(0, 0), 0); due(x.weather(0, 0), 0);
    due(x.law(0), 5); for (int what = 2; what < 6; what++) due(x.status(what), 0); due(x.force(-1), -1); due(x.odds(0, 0), 1);
  }

  private static void statuses() {
    fresh("HumUnheard(): No SOURCES, no PEOPLE; NOW is 0");
    for (int what = 0; what <= 7; what++) due(x.status(what), 0);
    for (int what = 11; what <= 17; what++) due(x.status(what), 0);
    for (int s = 0; s < 8; s++) due(x.holds(s), -1);
    due(x.fault(), -1); due(x.trace(0), -1); due(x.force(-1), -1); due(x.told(0), 0); due(HumUnheard.NONE, -1);

    fresh("NONE for another what");
    due(x.status(-1), -1); due(x.status(8), -1); due(x.status(9), -1); due(x.status(10), -1); due(x.status(18), -1); due(x.status(MAX), -1);
    due(x.status(MIN), -1); due(x.status(11), 0);

    fresh("one object doesn't know of another");
    people(1); hums(1); x.row(0, 0, 1); laws("loss 9"); x.act(0, 0, 0); x.image(); HumUnheard other = x; fresh("one object doesn't know of another");
    due(x.status(1), 0); due(x.holds(0), -1); due(x.law(0), 5); due(x.trace(0), -1); due(x.restore(), -6); due(other.law(0), 9);
    due(other.restore(), 0); due(other.status(16), 0);

    fresh("An object is used for at most 512 calls");
    for (int i = 0; i < 12; i++) x.person(5 * i, 40, 0, 0, true); for (int i = 0; i < 14; i++) x.source(ROOM, 5 * (i % 12), 40, 9);
    for (int i = 0; i < 484; i++) x.best(999, 0, 239); due(x.best(0, 0, 239), (1 << 14) - 1); due(x.status(0), 14);
  }
}
