/** What the tests by example share: the object at hand, the answers that are due, and calls that are made often. */
abstract class Answers {
  static final int MIN = Integer.MIN_VALUE, MAX = Integer.MAX_VALUE;
  static HumUnheard x;
  private static String about = "";
  private static int count = 0;
  private static int wrong = 0;

  /** A new object, and what the answers that follow are about. */
  static void fresh(String what) {
    about = what;
    x = new HumUnheard();
  }

  static void due(long got, long want) {
    count++;
    if (got != want) fail("answered " + got + ", due is " + want);
  }

  static void fail(String why) {
    wrong++;
    StackTraceElement[] calls = Thread.currentThread().getStackTrace();
    int i = 1;
    while (i < calls.length - 1 && calls[i].getClassName().equals("Answers")) i++;
    System.out.println(about + ", line " + calls[i].getLineNumber() + ": " + why);
  }

  /** Prints how it went, and ends the program with 1 if an answer was not the one that is due. */
  static void finish() {
    System.out.println(wrong == 0 ? count + " answers are as due" : wrong + " answers are not as due");
    if (wrong != 0) System.exit(1);
  }

  /** A ROW of a SORT with a text. */
  static void write(HumUnheard to, int s, int sort, String text) {
    to.row(s, sort, text.length());
    for (int i = 0; i < text.length(); i++) to.set(s, i, text.charAt(i));
  }

  static void write(int s, int sort, String text) { write(x, s, sort, text); }
  static int laws(String text) { write(7, 0, text); return x.laws(7); }
  static int plan(String text) { write(7, 0, text); return x.plan(7); }
  static int lawFault(String text) { laws(text); return x.fault(); }
  static int planFault(String text) { plan(text); return x.fault(); }
  static void people(int n) { for (int i = 0; i < n; i++) x.person(0, 40, 0, 0, true); }
  static void hums(int n) { for (int i = 0; i < n; i++) x.source(3, 0, 40, 50); }
  static long pow(long base, int n) { return n == 0 ? 1 : base * pow(base, n - 1); }
}
