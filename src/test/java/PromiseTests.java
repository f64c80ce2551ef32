/** For each promise of the document: what is ordinary, the edges that it names, each refusal in its order. */
public final class PromiseTests extends Answers {
  public static void main(String[] args) {
    shelves();
    town();
    times();
    lawTexts();
    planTexts();
    plansInForce();
    sounding();
    reaching();
    hearing();
    telling();
    weighing();
    choosing();
    counting();
    placing();
    acting();
    images();
    statuses();
    finish();
  }

  private static void shelves() {
    fresh("promise 1");
    due(x.status(0), 0); due(x.status(1), 0); due(x.status(6), 0); due(x.holds(0), -1);
    due(x.law(0), 5); due(x.law(1), 10); due(x.law(2), 4); due(x.law(3), 1); due(x.law(4), 2); due(x.law(5), 0);
    due(HumUnheard.NONE, -1);
    for (int what = 0; what <= 7; what++) due(x.status(what), 0);
    for (int what = 11; what <= 17; what++) due(x.status(what), 0);

    fresh("promise 2");
    due(x.row(0, 0, 0), 1); due(x.holds(0), 100);
    due(x.row(7, 3, 60), 1); due(x.holds(7), 103); due(x.set(7, 59, 9), 1);
    due(x.set(7, 0, 9), 1); due(x.row(7, 2, 60), 1); due(x.element(7, 59), 0); due(x.element(7, 0), 0);
    due(x.row(-1, 9, -1), -1); due(x.row(8, 0, 1), -1); due(x.row(0, 9, -1), -4); due(x.row(0, -1, 61), -6);
    due(x.row(0, 4, 1), -6); due(x.row(0, 0, 61), -7); due(x.row(0, 0, MAX), -7); due(x.row(0, 0, MIN), -4);
    due(x.holds(0), 100); due(x.holds(7), 102);
    hums(1); x.show(1, 0); due(x.row(1, 1, 2), 1); due(x.holds(1), 101);
    x.show(7, 0); due(x.element(7, 0), 0); x.show(7, -1); due(x.element(7, 0), 0);

    fresh("promise 3");
    for (int sort = 0; sort < 4; sort++) x.row(sort, sort, 2);
    due(x.set(0, 1, 200), 1); due(x.element(0, 1), -56); due(x.set(0, 1, -129), 1); due(x.element(0, 1), 127);
    due(x.set(1, 0, 65535), 1); due(x.element(1, 0), -1); due(x.set(1, 0, 32768), 1); due(x.element(1, 0), -32768);
    due(x.set(2, 0, 1L << 31), 1); due(x.element(2, 0), MIN); due(x.set(2, 0, (1L << 32) + 5), 1); due(x.element(2, 0), 5);
    due(x.set(3, 0, Long.MIN_VALUE), 1); due(x.element(3, 0), Long.MIN_VALUE);
    due(x.set(-1, 0, 1), -1); due(x.set(8, 0, 1), -1); due(x.set(6, 9, 1), -3); due(x.set(0, 2, 1), -5);
    due(x.set(0, -1, 1), -5); due(x.set(0, MAX, 1), -5);
    hums(1); x.show(5, 0); due(x.set(5, 99, 1), -2);

    fresh("promise 4");
    x.row(0, 1, 5); x.row(1, 1, 3); x.row(2, 2, 5);
    for (int i = 0; i < 5; i++) x.set(0, i, i + 1);
    due(x.copy(0, 1, 2, 0, 3), 1); due(x.element(1, 0), 3); due(x.element(1, 2), 5);
    due(x.copy(0, 0, 0, 1, 4), 1);
    for (int i = 0; i < 5; i++) due(x.element(0, i), Math.max(1, i));
    due(x.copy(0, 0, 1, 0, 4), 1); due(x.element(0, 0), 1); due(x.element(0, 1), 2); due(x.element(0, 3), 4); due(x.element(0, 4), 4);
    due(x.copy(0, 1, 5, 3, 0), 1); due(x.copy(0, 1, 6, 3, 0), -5); due(x.copy(0, 1, 5, 4, 0), -5);
    due(x.copy(8, 4, 0, 0, -1), -1); due(x.copy(4, -1, 0, 0, -1), -1);
    hums(1); x.show(3, 0);
    due(x.copy(3, 4, 0, 0, -1), -2); due(x.copy(4, 3, 0, 0, -1), -2); due(x.copy(0, 2, 0, 0, -1), -2);
    due(x.copy(0, 4, 0, 0, -1), -3); due(x.copy(4, 0, 0, 0, -1), -3); due(x.copy(4, 4, 0, 0, -1), -3);
    due(x.copy(0, 1, -1, 9, -1), -4); due(x.copy(0, 1, 3, 0, 3), -5); due(x.copy(0, 1, 0, 1, 3), -5);
    due(x.copy(0, 1, -1, 0, 1), -5); due(x.copy(0, 1, 0, -1, 1), -5); due(x.copy(0, 1, 1, 1, MAX), -5); due(x.copy(0, 1, MAX, MAX, 1), -5);

    fresh("promise 5");
    x.row(0, 0, 1); x.set(0, 0, 7); hums(1); x.show(1, 0);
    due(x.element(0, 0), 7); due(x.element(0, 1), 0); due(x.element(0, -1), 0); due(x.element(1, 0), 0);
    due(x.element(2, 0), 0); due(x.element(-1, 0), 0); due(x.element(8, 0), 0);
    for (int what = 11; what <= 17; what++) due(x.status(what), 0);

    fresh("promise 6");
    hums(2);
    due(x.show(0, 1), 1); due(x.holds(0), 1); due(x.show(0, 0), 1); due(x.holds(0), 0);
    due(x.show(0, -1), 0); due(x.holds(0), -1); due(x.show(0, -1), 0);
    x.row(0, 0, 1); due(x.show(0, 1), 1);
    due(x.show(0, 2), -1); due(x.show(0, -2), -1); due(x.show(8, -1), -1); due(x.show(-1, 0), -1); due(x.holds(0), 1);

    fresh("promise 7");
    hums(14); x.row(0, 2, 0); x.show(1, 13);
    due(x.holds(0), 102); due(x.holds(1), 13); due(x.holds(2), -1); due(x.holds(-1), -1); due(x.holds(8), -1); due(x.status(11), 0);

    fresh("promise 8");
    people(2);
    x.source(1, 3, 41, 9); x.source(2, 4, 42, 9); x.source(3, 5, 43, 9); x.source(4, 1, 44, 9);
    x.source(5, 6, 45, 9); x.source(6, 7, 46, 9); x.source(7, 8, 47, 9);
    for (int i = 0; i < 7; i++) x.show(i, i);
    x.hours(0, 3, 21); x.hours(6, 22, 4); x.weather(0, 1); x.weather(9, 1); x.weather(4, 1); laws("paper 77");
    x.row(7, 0, 1);
    int[] says = {321, 4, 5, 1, 77, 3, 2204};
    for (int s = 0; s < 7; s++) {
      due(x.says(s, 0), 41 + s);
      for (int kind = 1; kind <= 7; kind++) due(x.says(s, kind), kind == s + 1 || s == 6 && kind == 1 ? says[s] : -2);
    }
    due(x.says(7, 0), -2); due(x.says(7, 8), -1); due(x.says(-1, 0), -1); due(x.says(8, 0), -1); due(x.says(0, -1), -1);
    x.show(0, -1); due(x.says(0, 8), -1); due(x.says(0, 0), -3); due(x.says(0, 7), -3);
  }

  private static void town() {
    fresh("promise 9");
    due(x.person(0, 20, 0, 0, true), 0); due(x.person(63, 99, 99, 9, false), 1);
    due(x.person(64, 0, 0, 0, true), -1); due(x.person(-1, 40, 0, 0, true), -1);
    due(x.person(0, 19, 0, 0, true), -6); due(x.person(0, 100, 0, 0, true), -6); due(x.person(0, 40, -1, 0, true), -6);
    due(x.person(0, 40, 100, 0, true), -6); due(x.person(0, 40, 0, -1, true), -6); due(x.person(0, 40, 0, 10, true), -6);
    due(x.status(1), 2); people(10); due(x.status(1), 12);
    due(x.person(0, 40, 0, 0, true), -7); due(x.person(0, 0, 0, 0, true), -6); due(x.person(-1, 0, 0, 0, true), -1); due(x.status(1), 12);

    fresh("promise 10");
    people(1);
    due(x.go(0, 63), 0); due(x.go(0, 5), 63); due(x.go(0, 64), -1); due(x.go(0, -1), -1); due(x.go(1, 0), -1); due(x.go(-1, 0), -1); due(x.go(0, 0), 5);

    fresh("promise 11");
    people(2);
    due(x.source(1, 63, 20, 1), 0); due(x.source(7, 0, 99, 99), 1); due(x.source(4, 1, 20, 1), 2);
    due(x.source(0, 0, 0, 0), -1); due(x.source(8, 0, 40, 5), -1); due(x.source(4, 2, 0, 5), -1); due(x.source(4, -1, 40, 5), -1);
    due(x.source(2, 64, 0, 5), -1); due(x.source(3, -1, 40, 5), -1); due(x.source(2, 0, 19, 5), -6); due(x.source(2, 0, 100, 5), -6);
    due(x.source(2, 0, 40, 0), -6); due(x.source(2, 0, 40, 100), -6); due(x.status(0), 3);
    due(x.hours(0, 0, 0), 23); due(x.cost(0, 0), 0); due(x.off(0, false), 0);
    hums(11); due(x.status(0), 14); due(x.source(1, 0, 40, 5), -7); due(x.source(1, 0, 40, 0), -6); due(x.source(4, 2, 40, 0), -1); due(x.status(0), 14);

    fresh("promise 12");
    hums(1);
    due(x.hours(0, 23, 0), 23); due(x.hours(0, 7, 8), 2300); due(x.hours(0, -1, 8), -6); due(x.hours(0, 24, 8), -6);
    due(x.hours(0, 7, -1), -6); due(x.hours(0, 7, 24), -6); due(x.hours(1, 99, 0), -1); due(x.hours(-1, 0, 0), -1); due(x.hours(0, 0, 23), 708);

    fresh("promise 13");
    hums(1);
    due(x.cost(0, 99), 0); due(x.cost(0, 0), 99); due(x.cost(0, 100), -6); due(x.cost(0, -1), -6); due(x.cost(1, 100), -1); due(x.cost(-1, 0), -1); due(x.cost(0, 5), 0);

    fresh("promise 14");
    hums(2);
    due(x.off(1, false), 0); due(x.off(1, true), 1); due(x.off(1, true), 0); due(x.sounds(1, 0), 0); due(x.sounds(0, 0), 1);
    due(x.off(1, false), 1); due(x.sounds(1, 0), 1); due(x.off(2, true), -1); due(x.off(-1, true), -1); due(x.off(32, true), -1);

    fresh("promise 15");
    due(x.size(0, 9), 0); due(x.size(0, 0), 9); due(x.size(63, 5), 0); due(x.size(63, 6), 5); due(x.size(64, 99), -1); due(x.size(-1, 0), -1);
    due(x.size(0, 10), -6); due(x.size(0, -1), -6); due(x.size(0, 1), 0);

    fresh("promise 16");
    due(x.weather(0, 1), 0); due(x.weather(0, 1), 1); due(x.weather(9, 1), 0); due(x.weather(9, 0), 1); due(x.weather(10, 0), -6);
    due(x.weather(-1, 0), -6); due(x.weather(0, 2), -6); due(x.weather(0, -1), -6); due(x.weather(0, 0), 1); due(x.status(16), 4);
  }

  private static void times() {
    fresh("promise 17");
    due(x.pass(1), 1); due(x.pass(100), 101); due(x.pass(0), -6); due(x.pass(-1), -6); due(x.pass(101), -6); due(x.pass(MAX), -6); due(x.pass(MIN), -6);
    due(x.pass(100), 201); due(x.pass(39), -6); due(x.status(6), 201); due(x.pass(38), 239); due(x.pass(1), -6); due(x.status(6), 239);
  }

  private static void lawTexts() {
    fresh("promise 18");
    due(laws("loss 0"), 1); due(x.law(0), 0); due(laws("gain 99;gain 3"), 2); due(x.law(1), 3);
    due(laws("right 9;wrong 1;span 99;paper 239"), 4); due(x.law(2), 9); due(x.law(3), 1); due(x.law(4), 99); due(x.law(5), 239);
    due(laws("right 1;wrong 9;loss 099;gain 0;paper 000"), 5); due(x.law(0), 99); due(x.law(2), 1); due(x.law(3), 9); due(x.law(1), 0); due(x.law(5), 0);
    due(laws("loss 1;gain 2;loss x"), -6); due(x.law(0), 99); due(x.law(1), 0);
    for (int sort = 1; sort < 4; sort++) { write(0, sort, "span " + sort); due(x.laws(0), 1); due(x.law(4), sort); }
    write(0, 3, "span 7"); x.set(0, 2, (5L << 32) + 'a'); due(x.laws(0), 1); due(x.law(4), 7);
    write(0, 2, "span 8"); x.set(0, 2, 256 + 'a'); due(x.laws(0), -6); due(x.fault(), 2);
    hums(1); x.show(1, 0);
    due(x.laws(-1), -1); due(x.laws(8), -1); due(x.laws(1), -2); due(x.laws(2), -3);

    fresh("promise 19");
    due(x.law(0), 5); due(x.law(5), 0); due(x.law(-1), -5); due(x.law(6), -5); due(x.status(15), 2);

    fresh("promise 21");
    due(x.fault(), -1); due(lawFault(""), 0); due(lawFault("x"), 0); due(lawFault("l"), 1); due(lawFault("lo"), 2); due(lawFault("lox"), 2); due(lawFault("loss"), 4);
    due(lawFault("loss5"), 4); due(lawFault("loss "), 5); due(lawFault("loss  5"), 5); due(lawFault("loss x"), 5); due(lawFault("loss 100"), 5);
    due(lawFault("loss 99"), -1); due(lawFault("loss 0050"), 8); due(lawFault("loss 1000"), 5); due(lawFault("loss 5 "), 6); due(lawFault("loss 5;"), 7);
    due(lawFault("loss 5;;"), 7); due(lawFault("loss 5; gain 1"), 7); due(lawFault("loss 5;gain"), 11); due(lawFault(";loss 5"), 0); due(lawFault("loss -1"), 5);
    due(lawFault("gain 100"), 5); due(lawFault("right 0"), 6); due(lawFault("right 10"), 6); due(lawFault("right 9"), -1); due(lawFault("wrong 0"), 6); due(lawFault("wrong 10;x"), 6);
    due(lawFault("span 100"), 5); due(lawFault("paper 240"), 6); due(lawFault("paper 239"), -1); due(lawFault("Loss 5"), 0); due(lawFault("lain 5"), 1);
    due(lawFault("loss 7;span 8;gain 9;loss 1;span 2;gain 3;loss 4;gain 5"), -1); due(x.law(0), 4); due(x.law(4), 2);
    lawFault("loss x"); due(x.laws(6), -3); due(x.fault(), 5); due(x.plan(9), -1); due(x.fault(), 5);
    due(laws("loss 3"), 1); due(x.fault(), -1);
  }

  private static void planTexts() {
    fresh("promise 20");
    hums(2);
    due(plan("off 0 from 0 to 0"), 0); due(plan("on 1 from 5 to 239 each 99"), 1); due(plan("on 001 from 000 to 009 each 001"), 2);
    due(plan("off 1 from 3 to 2"), -6); due(x.status(5), 3);
    for (int sort = 1; sort < 4; sort++) { write(0, sort, "on 0 from 1 to 2;off 1 from 3 to 4"); due(x.plan(0), 2 + sort); }
    write(0, 3, "on 0 from 1 to 2"); x.set(0, 0, 'o' - (1L << 40)); due(x.plan(0), 6); due(plan("on 0 from 1 to 2"), 7);
    due(plan("on 0 from 1 to 2"), -7); due(x.fault(), -1); due(plan("on 0 from 1 to 2 "), -6); due(x.fault(), 17); due(x.status(5), 8);
    x.show(1, 0); due(x.plan(-1), -1); due(x.plan(8), -1); due(x.plan(1), -2); due(x.plan(2), -3); due(x.fault(), 17);

    fresh("promise 21");
    due(planFault("off 0 from 5 to 9"), 4);
    hums(3);
    due(planFault("off 2 from 5 to 9"), -1); due(planFault("off 3 from 5 to 9"), 4); due(planFault("off 2x"), 5); due(planFault("off 0000"), 7);
    due(planFault(""), 0); due(planFault("o"), 1); due(planFault("ox"), 1); due(planFault("of"), 2); due(planFault("ofx"), 2); due(planFault("on"), 2);
    due(planFault("onn"), 2); due(planFault("on "), 3); due(planFault("on x"), 3); due(planFault("f"), 0); due(planFault("off 0"), 5); due(planFault("off 0f"), 5);
    due(planFault("off 0 "), 6); due(planFault("off 0 to"), 6); due(planFault("off 0 fron"), 9); due(planFault("off 0 from"), 10); due(planFault("off 0 from "), 11);
    due(planFault("off 0 from 240"), 11); due(planFault("off 0 from 239"), 14); due(planFault("off 0 from 5 fo"), 13); due(planFault("off 0 from 5 to"), 15);
    due(planFault("off 0 from 5 to 4"), 16); due(planFault("off 0 from 5 to 5"), -1); due(planFault("off 0 from 5 to 5;"), 18); due(planFault("off 0 from 5 to 240"), 16);
    due(planFault("off 0 from 50 to 5"), 17); due(planFault("off 0 from 50 to 500"), 17); due(planFault("off 0 from 0 to 0099"), 19);
    due(planFault("off 0 from 5 to 5 "), 18); due(planFault("off 0 from 5 to 5 e"), 19); due(planFault("off 0 from 5 to 5 eacx"), 21);
    due(planFault("off 0 from 5 to 5 each"), 22); due(planFault("off 0 from 5 to 5 each "), 23); due(planFault("off 0 from 5 to 5 each 0"), 23);
    due(planFault("off 0 from 5 to 5 each 100"), 23); due(planFault("off 0 from 5 to 5 each 99"), -1); due(planFault("off 0 from 5 to 5 each 1"), -1);
    due(planFault("off 0 from 5 to 5 each 1 "), 24); due(planFault("off 0 from 5 to 5 each 1;x"), 25); due(planFault("off 0 from 5 to 5;off 3"), 22);
    due(planFault(";off 0 from 5 to 5"), 0); due(planFault("off 0 from 5 to 5;;on 0 from 5 to 5;x"), 18); due(planFault("loss 5"), 0); due(lawFault("off 0 from 5 to 5"), 0);
  }

  private static void plansInForce() {
    fresh("promise 22");
    hums(2);
    due(x.force(0), -11); due(x.force(-1), -1); due(x.status(11), 1);
    plan("off 0 from 10 to 20 each 24;on 0 from 15 to 16"); plan("off 1 from 0 to 239;off 0 from 5 to 24 each 24");
    due(x.force(0), -1); due(x.force(1), 0); due(x.force(2), -11); due(x.force(-2), -11); due(x.force(MIN), -11); due(x.force(0), 1); due(x.status(11), 4);
    int[] on = {0, 9, 15, 16, 21, 33, 45}, off = {10, 14, 17, 20, 34, 39, 40, 44, 226, 236};
    for (int h : on) due(x.sounds(0, h), 1);
    for (int h : off) due(x.sounds(0, h), 0);
    due(x.sounds(0, 225), 1); due(x.sounds(0, 237), 1);
    x.off(0, true); due(x.sounds(0, 9), 0); due(x.sounds(0, 15), 1); due(x.sounds(0, 10), 0); x.off(0, false);
    plan("off 0 from 3 to 3 each 1;on 1 from 3 to 4 each 2"); x.force(2); x.off(1, true); due(x.sounds(0, 2), 1); due(x.sounds(0, 3), 0); due(x.sounds(0, 200), 0); due(x.sounds(1, 200), 1); x.off(1, false);
    x.force(1); due(x.sounds(1, 100), 0); due(x.sounds(0, 4), 1); due(x.sounds(0, 5), 0); due(x.sounds(0, 24), 0); due(x.sounds(0, 28), 1); due(x.sounds(0, 29), 0); due(x.sounds(0, 239), 0);
    x.force(-1); due(x.sounds(1, 100), 1); due(x.sounds(0, 5), 1);
  }

  private static void sounding() {
    fresh("promise 23");
    people(1);
    x.source(1, 0, 40, 50); x.source(7, 0, 44, 50); x.source(7, 0, 45, 50); x.source(6, 0, 60, 50); x.source(5, 0, 70, 50); x.source(4, 0, 80, 50); x.source(2, 0, 41, 9);
    due(x.sounds(0, 0), 1); due(x.sounds(1, 0), 1); due(x.sounds(2, 0), 1); due(x.sounds(3, 0), 0); due(x.sounds(4, 0), 1); due(x.sounds(5, 0), 1);
    x.hours(0, 6, 20); due(x.sounds(0, 5), 0); due(x.sounds(0, 6), 1); due(x.sounds(0, 20), 1); due(x.sounds(0, 21), 0); due(x.sounds(0, 44), 1); due(x.sounds(0, 45), 0);
    x.hours(0, 20, 6); due(x.sounds(0, 7), 0); due(x.sounds(0, 19), 0); due(x.sounds(0, 20), 1); due(x.sounds(0, 30), 1); due(x.sounds(0, 31), 0);
    x.hours(0, 6, 6); due(x.sounds(0, 6), 1); due(x.sounds(0, 7), 0);
    // MIXED: 2 beats with 1 alone, 1 with 0 and 2.
    due(x.sounds(1, 7), 1); x.off(2, true); due(x.sounds(1, 7), 0); due(x.sounds(1, 6), 1); x.off(2, false);
    x.off(1, true); due(x.sounds(2, 7), 0); x.off(1, false); x.hours(1, 3, 4); due(x.sounds(2, 7), 0); due(x.sounds(2, 3), 1); due(x.sounds(1, 6), 0);
    x.weather(1, 1); due(x.sounds(3, 23), 0); due(x.sounds(3, 24), 1); due(x.sounds(3, 47), 1); due(x.sounds(3, 48), 0); x.off(3, true); due(x.sounds(3, 24), 0);
    laws("paper 100"); due(x.sounds(4, 99), 0); due(x.sounds(4, 100), 1); x.off(4, true); due(x.sounds(4, 100), 0);
    x.off(5, true); due(x.sounds(5, 0), 0); x.hours(6, 3, 3); due(x.sounds(6, 9), 1);
    due(x.sounds(7, 0), -1); due(x.sounds(-1, 0), -1); due(x.sounds(0, 240), -1); due(x.sounds(0, -1), -1); due(x.status(11), 0);
    fresh("promise 23");
    x.source(7, 0, 44, 50); due(x.sounds(0, 0), 0); x.source(1, 0, 44, 50); due(x.sounds(0, 0), 0); x.source(1, 0, 49, 50); due(x.sounds(0, 0), 0);
    x.source(1, 0, 45, 50); due(x.sounds(0, 0), 1); plan("off 3 from 0 to 9"); x.force(0); due(x.sounds(0, 0), 0); due(x.sounds(0, 10), 1);
  }

  private static void reaching() {
    fresh("promise 24");
    people(1);
    for (int kind = 1; kind <= 7; kind++) x.source(kind, kind == 4 ? 0 : 9, 40, 30);
    due(x.reach(0, 9), 30); due(x.reach(0, 10), 25); due(x.reach(0, 0), 20); due(x.reach(0, 14), 5); due(x.reach(0, 15), 0); due(x.reach(0, 63), 0);
    due(x.reach(1, 9), 30); due(x.reach(1, 10), 29); due(x.reach(1, 0), 28); due(x.reach(1, 63), 15);
    due(x.reach(2, 10), 25); due(x.reach(3, 63), 30); due(x.reach(4, 63), 30); due(x.reach(5, 9), 25); due(x.reach(5, 63), 25);
    due(x.reach(6, 9), 36); due(x.reach(6, 14), 11); due(x.reach(6, 15), 0);
    x.size(10, 8); x.size(15, 8); x.size(14, 7);
    due(x.reach(0, 10), 35); due(x.reach(0, 15), 0); due(x.reach(0, 14), 5); due(x.reach(1, 10), 39); due(x.reach(2, 10), 60); due(x.reach(2, 15), 0);
    due(x.reach(3, 10), 30); due(x.reach(4, 10), 30); due(x.reach(5, 15), 35); due(x.reach(6, 10), 41); due(x.reach(6, 15), 0);
    laws("loss 29"); due(x.reach(0, 17), 1); due(x.reach(6, 17), 7); x.size(17, 1); due(x.reach(0, 17), 11); due(x.reach(2, 17), 12); x.size(17, 0);
    laws("loss 99;gain 7"); due(x.reach(5, 0), 0); due(x.reach(5, 15), 0); due(x.reach(1, 63), 0); due(x.reach(0, 9), 30);
    x.size(9, 4); due(x.reach(0, 9), 37); due(x.reach(2, 9), 67); due(x.reach(6, 9), 43);
    due(x.reach(7, 0), -1); due(x.reach(-1, 0), -1); due(x.reach(0, 64), -1); due(x.reach(0, -1), -1); due(x.status(11), 0);

    fresh("promise 25");
    x.person(0, 40, 5, 3, false);
    due(x.needs(0, 40), 5); due(x.needs(0, 20), 65); due(x.needs(0, 99), 182); due(x.needs(0, 41), 8);
    due(x.needs(0, 19), -1); due(x.needs(0, 100), -1); due(x.needs(1, 40), -1); due(x.needs(-1, 40), -1); due(x.status(11), 0);
  }

  private static void hearing() {
    fresh("promise 26");
    x.person(0, 40, 20, 1, false); x.person(0, 40, 0, 0, true);
    x.source(1, 2, 40, 30); x.source(1, 2, 41, 30); x.source(4, 0, 99, 1); x.source(4, 1, 99, 1); x.source(5, 63, 99, 1); x.source(2, 63, 40, 5);
    due(x.hears(0, 0), 1 | 4); due(x.hears(1, 0), 1 | 2 | 8 | 16); x.go(0, 2); due(x.hears(0, 0), 1 | 2 | 4); x.go(1, 63); due(x.hears(1, 0), 8 | 16 | 32);
    x.off(2, true); x.off(4, true); due(x.hears(0, 0), 1 | 2); due(x.hears(1, 0), 8 | 32);
    laws("loss 0"); due(x.hears(1, 0), 1 | 2 | 8 | 32);
    due(x.hears(2, 0), -1); due(x.hears(-1, 0), -1); due(x.hears(0, 240), -1); due(x.hears(0, -1), -1); due(x.status(11), 0);

    fresh("promise 27");
    x.person(0, 40, 0, 0, true); due(x.loudest(0, 0), -1);
    x.source(1, 0, 40, 30); x.source(3, 1, 41, 35); x.source(5, 9, 50, 30); due(x.loudest(0, 0), 0);
    x.size(0, 1); due(x.loudest(0, 0), 1); x.off(1, true); due(x.loudest(0, 0), 0); x.off(0, true); due(x.loudest(0, 0), 2); x.off(2, true); due(x.loudest(0, 0), -1);
    x.source(1, 0, 40, 1); due(x.loudest(0, 0), 3); due(x.loudest(1, 0), -1); due(x.loudest(0, 240), -1); due(x.loudest(0, -1), -1);
  }

  private static void telling() {
    fresh("promise 28");
    people(2);
    for (int i = 1; i <= 60; i++) due(x.press(i % 2, true), i);
    due(x.press(0, true), -7); due(x.press(2, true), -1); due(x.press(-1, true), -1); due(x.status(2), 60);

    fresh("promise 29");
    people(2); hums(1); x.source(1, 0, 60, 9); x.hours(1, 5, 6);
    x.row(0, 3, 6);
    long[] v = {0, 1, 2, -1, (1L << 32) + 1, 1L << 33};
    for (int i = 0; i < 6; i++) x.set(0, i, v[i]);
    x.pass(6);
    due(x.pressed(0, 0, 0, 6), 4); due(x.pressed(0, 0, 1, 2), 5); due(x.pressed(0, 0, 2, 2), 5); due(x.pressed(0, 0, 6, 0), 5);
    due(x.pressed(2, 9, 0, -1), -1); due(x.pressed(0, 8, 0, -1), -1); x.show(1, 0); due(x.pressed(0, 1, 0, -1), -2); due(x.pressed(0, 2, 0, -1), -3);
    due(x.pressed(0, 0, 9, -1), -4); due(x.pressed(0, 0, 7, 0), -5); due(x.pressed(0, 0, -1, 1), -5); due(x.pressed(0, 0, 1, 6), -5); due(x.pressed(0, 0, 1, MAX), -5);
    x.row(0, 0, 7); due(x.pressed(0, 0, 0, 7), -6); due(x.status(2), 5);
    x.row(0, 0, 60); x.pass(94); due(x.pressed(0, 0, 0, 56), -7); due(x.status(2), 5); for (int i = 0; i < 5; i++) x.set(0, i, 9);
    due(x.pressed(1, 0, 0, 60), 60); due(x.pressed(0, 0, 0, 5), 60); due(x.pressed(0, 0, 0, 6), -7);
    // The HOURS are those from NOW less n on: source 1 sounds in 5 and 6.
    fresh("promise 29");
    people(1); x.source(1, 0, 60, 9); x.hours(0, 5, 6); x.row(0, 0, 4); x.pass(8); x.set(0, 1, 1); x.set(0, 2, 1);
    due(x.pressed(0, 0, 0, 4), 4); due(x.odds(0, 0), 256); x.go(0, 63); due(x.odds(0, 0), 256); x.pressed(0, 0, 0, 3); due(x.odds(0, 0), 256 * 4);

    fresh("promise 30");
    people(2);
    for (int i = 1; i <= 20; i++) due(x.match(i % 2, 19 + i), i);
    due(x.match(0, 40), -7); due(x.match(0, 100), -6); due(x.match(0, 19), -6); due(x.match(2, 19), -1); due(x.match(-1, 40), -1); due(x.status(3), 20);

    fresh("promise 31");
    people(1); due(x.letter(0, 1), -6); due(x.letter(0, 0), 1); x.pass(10); due(x.letter(0, 10), 2); due(x.letter(0, 11), -6); due(x.letter(0, -1), -6); due(x.letter(1, -1), -1); due(x.letter(-1, 0), -1);
    for (int i = 3; i <= 30; i++) due(x.letter(0, 0), i);
    due(x.letter(0, 0), -7); due(x.letter(0, 11), -6); due(x.status(4), 30);

    fresh("promise 40");
    people(2); x.source(4, 0, 40, 9);
    due(x.told(0), 0); x.letter(0, 0); x.letter(1, 0); x.pass(50); x.letter(1, 20); x.letter(1, 50); x.pass(50); x.letter(0, 99); x.letter(1, 60);
    due(x.told(0), 6); due(x.told(1), 0); due(x.told(2), 4);
    laws("paper 50"); due(x.told(0), 4); due(x.told(1), 1); due(x.told(2), 3); laws("paper 100"); due(x.told(0), 2); due(x.told(1), 2); due(x.told(2), 1);
    x.off(0, true); due(x.told(2), 2); due(x.told(-1), -5); due(x.told(3), -5); due(x.status(15), 2);
  }

  private static void weighing() {
    fresh("promise 32");
    people(2); x.source(1, 0, 40, 50); x.source(1, 0, 50, 50); x.off(1, true);
    due(x.odds(0, 0), 1); x.press(0, true); due(x.odds(0, 0), 4); due(x.odds(0, 1), 1); due(x.odds(1, 0), 1); x.press(0, false); due(x.odds(0, 0), 4); due(x.odds(0, 1), 4);
    laws("wrong 3"); due(x.odds(0, 0), 12); x.match(0, 42); due(x.odds(0, 0), 48); due(x.odds(0, 1), 36); x.match(0, 43); due(x.odds(0, 0), 144); x.match(0, 48); due(x.odds(0, 1), 36 * 3 * 4);
    laws("right 9;wrong 1;span 0"); x.match(0, 40); due(x.odds(0, 0), 81);
    due(x.odds(2, 0), 0); due(x.odds(-1, 0), 0); due(x.odds(0, 2), 0); due(x.odds(0, -1), 0); due(x.status(11), 0);
    // The latest 16 of PRESSES and MATCHES together, each person's own.
    fresh("promise 32");
    people(2); hums(1); laws("right 9;wrong 2");
    x.match(0, 99); x.press(0, true); for (int i = 0; i < 30; i++) x.press(1, false);
    for (int i = 0; i < 14; i++) x.press(0, true);
    due(x.odds(0, 0), 2 * pow(9, 15)); x.match(0, 40); due(x.odds(0, 0), pow(9, 16)); x.match(0, 99); due(x.odds(0, 0), 2 * pow(9, 15)); due(x.odds(1, 0), pow(2, 16));
    // A PRESS is at the SPOT of then, by all else as it is now.
    fresh("promise 32");
    people(1); x.source(1, 0, 40, 5); x.go(0, 1); x.press(0, false); x.go(0, 0); x.press(0, true); due(x.odds(0, 0), 16); laws("loss 4"); due(x.odds(0, 0), 4); x.off(0, true); due(x.odds(0, 0), 4);

    fresh("promise 33");
    people(1); due(x.sure(0, 1), -1); hums(1); due(x.sure(0, 100), 0); hums(1); due(x.sure(0, 1), -1);
    x.source(3, 0, 60, 50); x.match(0, 60); due(x.sure(0, 66), 2); due(x.sure(0, 67), -1); due(x.sure(0, 1), 2); due(x.sure(0, 0), -1); due(x.sure(0, 101), -1); due(x.sure(1, 50), -1); due(x.sure(-1, 50), -1);
    laws("right 9"); due(x.sure(0, 81), 2); due(x.sure(0, 82), -1); x.match(0, 40); due(x.sure(0, 1), -1); x.match(0, 40); due(x.sure(0, 1), -1); due(x.status(16), 0);
    fresh("promise 33");
    people(1); hums(14); laws("right 9;span 99"); for (int i = 0; i < 16; i++) x.press(0, true); x.source(3, 0, 40, 9); due(x.odds(0, 13), pow(9, 16)); due(x.sure(0, 1), -1);

    fresh("promise 34");
    x.person(0, 40, 0, 1, true); x.source(1, 0, 40, 20); x.source(6, 0, 43, 20); x.source(4, 0, 40, 20); x.source(5, 0, 40, 20); x.source(1, 4, 41, 20); x.source(1, 3, 38, 7); x.off(0, true);
    due(x.could(0, 40), 1); due(x.could(0, 41), 3); due(x.could(0, 43), 2); due(x.could(0, 46), 0); laws("span 0"); due(x.could(0, 40), 1); due(x.could(0, 41), 0);
    laws("span 99;loss 0"); due(x.could(0, 99), 1 | 2 | 16 | 32); due(x.could(0, 19), -1); due(x.could(0, 100), -1); due(x.could(1, 40), -1); due(x.could(-1, 40), -1); due(x.status(11), 0);

    fresh("promise 35");
    x.person(0, 40, 30, 2, true); due(x.lacks(0), -1); x.source(4, 0, 40, 99); x.source(5, 0, 40, 99); due(x.lacks(0), -1);
    x.source(1, 63, 40, 20); due(x.lacks(0), 30); x.source(1, 0, 45, 20); due(x.lacks(0), 20); x.source(1, 0, 42, 9); due(x.lacks(0), 20); x.off(3, true); due(x.lacks(0), 20);
    x.source(1, 0, 40, 30); due(x.lacks(0), 0); x.source(1, 0, 40, 99); due(x.lacks(0), 0); due(x.lacks(1), -1); due(x.lacks(-1), -1);
    x.person(63, 40, 0, 0, true); due(x.lacks(1), 0); x.go(1, 7); due(x.lacks(1), 0); due(x.status(11), 0);
  }

  private static void choosing() {
    fresh("promise 36");
    due(x.rid(0, 0, 239), 0); people(1); due(x.rid(0, 0, 0), 1); x.source(3, 0, 40, 20); x.source(1, 0, 50, 20); x.source(4, 0, 40, 20); x.person(63, 40, 0, 0, false); x.hours(1, 7, 8);
    due(x.rid(0, 0, 0), 1); due(x.rid(5, 0, 6), 2); due(x.rid(5, 0, 7), 1); due(x.rid(7, 0, 7), 2); due(x.rid(3, 0, 6), 1); due(x.rid(5, 9, 30), 2); due(x.rid(5, 9, 31), 1);
    due(x.rid(8, 5, 4), -1); due(x.rid(-1, 0, 0), -1); due(x.rid(MIN, 0, 0), -1); due(x.rid(0, 1, 0), -6); due(x.rid(0, -1, 0), -6); due(x.rid(0, 0, 240), -6); due(x.rid(0, 240, 240), -6); due(x.rid(0, 239, 239), 1);

    fresh("promise 37");
    due(x.best(0, 0, 0), 0); people(1); due(x.best(999, 0, 239), 0); x.source(3, 0, 40, 9); x.source(3, 63, 41, 9); x.source(3, 7, 42, 9);
    x.person(63, 40, 0, 0, true); x.person(7, 40, 0, 0, true); x.person(7, 40, 0, 0, true);
    due(x.best(0, 0, 0), 7); x.cost(0, 3); x.cost(1, 2); x.cost(2, 9); due(x.best(14, 0, 0), 7); due(x.best(13, 0, 0), 6); due(x.best(11, 0, 0), 6); due(x.best(10, 0, 0), 3); due(x.best(5, 0, 0), 3); due(x.best(8, 0, 0), 3);
    due(x.best(4, 0, 0), 2); due(x.best(1, 0, 0), 0); x.cost(1, 3); due(x.best(5, 0, 0), 1); x.cost(0, 4); due(x.best(5, 0, 0), 2);
    x.source(4, 3, 40, 9); due(x.best(14, 0, 0), 1 | 2); x.source(5, 0, 40, 9); due(x.best(999, 0, 239), 0); x.off(4, true); due(x.best(999, 0, 239), 7);
    due(x.best(-1, 0, 0), -6); due(x.best(1000, 0, 0), -6); due(x.best(0, 1, 0), -6); due(x.best(0, 0, 240), -6); due(x.best(0, -1, 0), -6); due(x.status(16), 5);
  }

  private static void counting() {
    fresh("promise 38");
    due(x.lots(0, 0), 1); due(x.lots(0, 1), 0); due(x.lots(1, 1), 1); due(x.lots(5, 3), 16); due(x.lots(5, 5), 1); due(x.lots(5, 6), 0); due(x.lots(30, 0), 1 << 30); due(x.lots(30, 1), (1 << 30) - 1);
    due(x.lots(30, 30), 1); due(x.lots(10, 8), 56); due(x.lots(30, MAX), 0); due(x.lots(-1, 0), -6); due(x.lots(31, 0), -6); due(x.lots(3, -1), -6); due(x.lots(3, MIN), -6);

    fresh("promise 39");
    due(x.need(0), 0); due(x.need(1), 1); due(x.need(2), 2); due(x.need(3), 2); due(x.need(4), 3); due(x.need(1023), 10); due(x.need(1024), 11); due(x.need(524287), 19); due(x.need(524288), 20);
    due(x.need(1000000), 20); due(x.need(1000001), -6); due(x.need(-1), -6); due(x.need(MAX), -6); due(x.need(MIN), -6);

    fresh("promise 41");
    x.person(0, 40, 0, 0, true); x.source(3, 0, 40, 9); x.source(3, 0, 44, 9); x.source(3, 0, 45, 9); x.source(3, 0, 40, 9); x.source(5, 0, 41, 9); x.source(4, 0, 49, 9);
    due(x.beats(0, 0), 8); x.off(1, true); due(x.beats(0, 0), 4); x.off(4, true); due(x.beats(0, 0), 1); x.off(5, true); due(x.beats(0, 0), 0);
    due(x.beats(1, 0), -1); due(x.beats(-1, 0), -1); due(x.beats(0, 240), -1); due(x.beats(0, -1), -1); due(x.status(11), 0);

    fresh("promise 42");
    due(x.halve(1), 0); due(x.halve(2), 1); due(x.halve(3), 2); due(x.halve(4), 2); due(x.halve(5), 3); due(x.halve(512), 9); due(x.halve(513), 10); due(x.halve(1000), 10);
    due(x.halve(0), -6); due(x.halve(1001), -6); due(x.halve(MIN), -6); due(x.halve(MAX), -6);
  }

  private static void placing() {
    fresh("promise 43");
    people(1); x.source(3, 0, 40, 20); x.source(1, 0, 50, 21); x.source(4, 0, 40, 99); x.source(5, 0, 40, 99); x.source(6, 0, 60, 30); x.hours(1, 5, 5);
    due(x.meter(0, 20, 0, 4), 1); due(x.meter(0, 20, 0, 5), 2); due(x.meter(0, 21, 0, 5), 1); due(x.meter(0, 22, 0, 239), 0); due(x.meter(1, 16, 0, 9), 1); due(x.meter(63, 1, 0, 9), 0);
    x.weather(1, 1); due(x.meter(63, 25, 0, 23), 0); due(x.meter(63, 25, 0, 24), 1); due(x.meter(63, 26, 0, 24), 0); due(x.meter(63, 99, 0, 239), 0);
    due(x.meter(64, 0, 5, 4), -1); due(x.meter(-1, 1, 0, 0), -1); due(x.meter(0, 0, 0, 0), -6); due(x.meter(0, 100, 0, 0), -6); due(x.meter(0, 1, 1, 0), -6); due(x.meter(0, 1, 0, 240), -6); due(x.meter(0, 1, -1, 0), -6);

    fresh("promise 44");
    due(x.place(1, 0, 0), 0); x.source(3, 20, 40, 20); due(x.place(20, 0, 0), 20); due(x.place(15, 0, 0), 12); due(x.place(21, 0, 0), 0); x.source(1, 22, 40, 20); x.hours(1, 7, 7);
    due(x.place(20, 0, 7), 20); due(x.place(15, 0, 7), 21); due(x.place(15, 0, 6), 12); due(x.place(99, 0, 239), 0); x.size(63, 1); x.source(6, 0, 30, 94); x.weather(0, 1); due(x.place(95, 0, 0), 63);
    due(x.place(0, 0, 0), -6); due(x.place(100, 0, 0), -6); due(x.place(1, 1, 0), -6); due(x.place(1, 0, 240), -6); due(x.place(1, -1, 0), -6);

    fresh("promise 45");
    x.person(27, 40, 1, 0, true); due(x.bed(0, 0, 239), 27); x.source(3, 27, 40, 9); x.source(5, 0, 40, 9); due(x.bed(0, 0, 0), 11); x.source(3, 11, 41, 4); due(x.bed(0, 0, 0), 18); x.source(3, 9, 42, 11); x.source(3, 29, 42, 1);
    due(x.bed(0, 0, 0), 20); x.hours(0, 5, 5); x.off(0, true); due(x.bed(0, 0, 0), 27); due(x.bed(1, 1, 0), -1); due(x.bed(-1, 0, 0), -1); due(x.bed(0, 1, 0), -6); due(x.bed(0, 0, 240), -6); due(x.bed(0, -1, 0), -6);
    fresh("promise 45");
    x.person(0, 40, 1, 0, true); x.source(1, 0, 40, 5); x.hours(0, 7, 7); due(x.bed(0, 0, 6), 0); due(x.bed(0, 0, 7), 1); x.source(6, 0, 40, 99); x.weather(0, 1); due(x.bed(0, 0, 7), 1);
  }

  private static void traced(int... bodies) {
    for (int i = 0; i < bodies.length; i++) due(x.trace(i), bodies[i]);
    due(x.trace(bodies.length), -1); due(x.status(7), bodies.length);
  }

  private static void acting() {
    fresh("promise 46");
    people(1);
    hums(1);
    for (int kind = 1; kind <= 7; kind++) x.source(kind, 0, 30 + kind, 9);
    due(x.act(1, 0, 5), 18); traced(20, 10); due(x.act(1, 1, 5), 36); traced(11, 20, 10); due(x.act(1, 2, 5), 36 ^ (5 - 31 + 1) * 3); traced(12, 11, 20, 10, 20, 10);
    due(x.act(2, 0, 5), 7); traced(10); due(x.act(2, 1, 5), 46); traced(30, 11, 10); due(x.act(2, 2, 5), 46 ^ 5 - 32 + 2); traced(12, 30, 11, 10, 10);
    due(x.act(3, 0, 5), 8); traced(10); due(x.act(3, 1, 5), 18); traced(40, 11, 10); due(x.act(3, 2, 5), -(18 ^ 5 - 33 + 3)); traced(41, 12, 40, 11, 10, 10);
    due(x.act(4, 1, 5), 18); traced(11, 10); due(x.act(4, 2, 5), (18 ^ 5 - 34 + 4) - 4); traced(50, 12, 11, 10, 10);
    due(x.act(5, 0, 5), 10 ^ 5); traced(60, 10); due(x.act(5, 1, 5), (10 ^ 5) * 2); traced(11, 60, 10); due(x.act(5, 2, 5), (10 ^ 5) * 2 ^ (5 - 35 + 5 ^ 5)); traced(12, 11, 60, 10, 60, 10);
    due(x.act(6, 0, 5), 11); traced(10); due(x.act(6, 2, 5), (22 ^ 5 - 36 + 6) * 2); traced(70, 12, 11, 10, 10);
    due(x.act(7, 0, 5), 33); traced(80, 20, 10); due(x.act(7, 1, 5), 75); traced(81, 11, 80, 20, 10); due(x.act(7, 2, 5), 75 ^ (5 - 37 - 1 + 7) * 3); traced(12, 81, 11, 80, 20, 10, 80, 20, 10);
    due(x.act(1, 0, MAX), (MAX + 1) * 3); due(x.act(7, 1, MIN), (MIN - 1 + 7) * 3 * 2 + 9); due(x.act(3, 2, MAX), -((MAX + 1 + 3) * 2 ^ MAX - 33 + 3));

    fresh("promise 47");
    hums(1); due(x.trace(0), -1); x.act(0, 0, 1); due(x.trace(0), 10); due(x.trace(1), -1); due(x.trace(-1), -1); due(x.trace(20), -1); due(x.trace(MAX), -1); due(x.trace(MIN), -1);
    due(x.act(1, 0, 0), 0); due(x.trace(0), -1); due(x.status(7), 0); x.act(0, 0, 1); due(x.act(-1, 0, 0), 0); due(x.status(7), 0);
    x.act(0, 0, 1); due(x.act(0, 3, 0), 0); due(x.trace(0), -1); x.act(0, 0, 1); due(x.act(0, -1, 0), 0); due(x.status(7), 0); due(x.status(11), 0);
  }

  private static void images() {
    fresh("promise 48");
    due(x.image(), 0); x.pass(3); due(x.image(), 3);

    fresh("promise 49");
    due(x.restore(), -6); due(x.status(16), 1);
    x.person(5, 40, 3, 1, true); x.source(1, 0, 40, 50); x.hours(0, 3, 4); x.cost(0, 7); x.off(0, true); x.size(9, 4); x.weather(2, 1); laws("loss 3"); plan("on 0 from 0 to 9"); x.force(0);
    x.press(0, true); x.match(0, 40); x.letter(0, 0); x.pass(9); due(x.image(), 9);
    x.pass(9); x.go(0, 63); x.person(1, 50, 0, 0, false); x.source(4, 1, 44, 20); x.hours(0, 0, 0); x.cost(0, 1); x.off(0, false); x.size(9, 5); x.weather(2, 0); x.weather(3, 1); laws("loss 50;gain x"); laws("loss 50");
    plan("off 0 from 0 to 239"); x.force(1); x.press(0, false); x.press(1, false); x.match(1, 99); x.letter(1, 9); x.show(0, 0); x.show(1, 1); x.row(2, 1, 1); x.set(2, 0, 77);
    x.act(0, 0, 0); x.go(9, 9); laws("loss");
    due(x.fault(), 4);
    for (int twice = 0; twice < 2; twice++) {
      due(x.restore(), 9); due(x.status(6), 9); due(x.status(0), 1); due(x.status(1), 1); due(x.status(2), 1); due(x.status(3), 1); due(x.status(4), 1); due(x.status(5), 1);
      due(x.go(0, 5), 5); due(x.hours(0, 9, 9), 304); due(x.cost(0, 9), 7); due(x.off(0, true), 0); due(x.size(9, 0), 4); due(x.weather(2, 0), 1); due(x.weather(3, 0), 0); due(x.law(0), 3); due(x.force(-1), 0);
      due(x.odds(0, 0), 4); due(x.told(0), 1); due(x.needs(0, 42), 5); due(x.needs(1, 50), -1);
      due(x.holds(0), 0); due(x.holds(1), -1); due(x.holds(2), 101); due(x.element(2, 0), 77); due(x.fault(), 4); due(x.status(7), 2); due(x.status(11), 1); due(x.status(16), 3);
      x.show(1, 0); due(x.source(7, 0, 42, 9), 1); due(x.source(1, 3, 43, 9), 2); due(x.sounds(1, 9), 1); x.show(1, 2); due(x.pass(1), 10);
    }
    // What is made anew after restore() has nothing of what was there.
    fresh("promise 49");
    people(1); x.image(); x.source(1, 0, 40, 9); x.hours(0, 4, 5); x.cost(0, 6); x.off(0, true); plan("off 0 from 7 to 8"); x.force(0); x.restore(); due(x.status(5), 0); due(x.force(0), -11);
    x.source(1, 0, 40, 9); due(x.cost(0, 0), 0); due(x.sounds(0, 7), 1); due(x.off(0, false), 0); due(x.hours(0, 0, 0), 23);
    // What came after THE IMAGE is gone, also from what beats with what.
    fresh("promise 49");
    x.source(7, 0, 40, 9); x.image(); x.source(1, 0, 41, 9); due(x.sounds(0, 0), 1); x.restore(); due(x.sounds(0, 0), 0); x.source(1, 0, 50, 9); due(x.sounds(0, 0), 0); x.off(1, true); x.restore(); x.source(1, 0, 44, 9); due(x.sounds(0, 0), 1);
  }

  private static void statuses() {
    fresh("promise 50");
    people(2); hums(3); x.press(0, true); x.press(0, true); x.match(0, 40); x.match(0, 40); x.match(0, 40); x.letter(1, 0); plan("on 0 from 0 to 0"); x.pass(4); x.act(0, 2, 0);
    int[] counts = {3, 2, 2, 3, 1, 1, 4, 6};
    for (int what = 0; what <= 7; what++) due(x.status(what), counts[what]);
    x.go(9, 9); x.force(9);
    x.show(0, 0); x.set(0, 0, 0);
    x.set(1, 0, 0); x.laws(1); x.plan(1);
    x.row(0, 0, -1); x.row(0, 0, -1); x.row(0, 0, -1); x.row(0, 0, -1);
    for (int i = 0; i < 5; i++) x.law(6);
    for (int i = 0; i < 6; i++) x.pass(0);
    for (int i = 0; i < 7; i++) x.row(0, 0, 61);
    int[] refused = {2, 1, 3, 4, 5, 6, 7};
    for (int what = 11; what <= 17; what++) due(x.status(what), refused[what - 11]);
    for (int what : new int[] {-1, 8, 9, 10, 18, MIN, MAX}) due(x.status(what), -1);
    for (int what = 0; what <= 7; what++) due(x.status(what), counts[what]);
  }
}
