/** What is there before any run, what stays until the next one, and what is told as it is now. */
public final class StayEdgesTest {
  private static final Check check = new Check();

  /** A call between two runs. */
  private interface Change {
    void make(CiteLists x);
  }

  public static void main(String[] args) {
    beforeAnyRun();
    afterARunOfNothing();
    runTellsUntilNext();
    nextRunForgets();
    styleForTheNextRun();
    printedFromNowOn();
    check.end("StayEdgesTest");
  }

  private static void beforeAnyRun() {
    check.sentence("0 before any .. or no run was");
    CiteLists x = new CiteLists();
    Check.cited(x, 0, Check.AUTHOR, "A B");
    x.style(1, 2);
    for (int i : new int[] {-2, -1, 0, 1}) {
      check.dueThrows("row(" + i + ")", Check.INDEX, () -> x.row(i));
      check.dueThrows("letter(" + i + ")", Check.INDEX, () -> x.letter(i));
      check.dueThrows("print(" + i + ")", Check.INDEX, () -> x.print(i));
      check.dueThrows("at(" + i + ")", Check.INDEX, () -> x.at(i));
    }
    check.due("missing(-1, 0)", 0, x.missing(-1, 0));
    check.dueThrows("missing(0, 0)", Check.INDEX, () -> x.missing(0, 0));
    check.due("initials are there without a run", "A.", Check.initials(x, 0, 0));
    check.due("so is twice", 0, x.twice(-1));
  }

  private static void afterARunOfNothing() {
    check.sentence("A RUN: how many rows");
    CiteLists x = new CiteLists();
    check.due("none", 0, x.run());
    check.dueThrows("row(0)", Check.INDEX, () -> x.row(0));
    check.dueThrows("letter(0)", Check.INDEX, () -> x.letter(0));
    check.dueThrows("print(0)", Check.INDEX, () -> x.print(0));
    check.dueThrows("at(0)", Check.INDEX, () -> x.at(0));
    check.due("missing(-1, 0)", 0, x.missing(-1, 0));
    check.due("head", "References (0)", Check.printed(x, -1));
    x.cite(x.entry(4));
    check.due("head until the next run", "References (0)", Check.printed(x, -1));
    check.due("one", 1, x.run());
    check.due("head of one", "References (1)", Check.printed(x, -1));
  }

  /** Three rows (entries 0, 1, 3) by sort 1 and label 2; entry 2 is 0's other, 4 is not cited. */
  private static CiteLists afterARun() {
    CiteLists x = new CiteLists();
    Check.cited(x, 0, Check.AUTHOR, "Bee, A", Check.YEAR, "1", Check.TITLE, "x");
    Check.cited(x, 1, Check.AUTHOR, "Bee, C", Check.YEAR, "1", Check.TITLE, "y");
    Check.cited(x, 4, Check.NOTE, "never told");
    Check.cited(x, 2, Check.AUTHOR, "Bee, A", Check.YEAR, "1", Check.TITLE, "z");
    Check.put(x, x.entry(3), Check.TITLE, "Volume");
    Check.putKey(x, 0, "k");
    Check.putKey(x, 2, "k");
    x.style(1, 2);
    x.run();
    return x;
  }

  private static String told(CiteLists x) {
    StringBuilder text = new StringBuilder(Check.printed(x, -1));
    int rows = Integer.parseInt(text.substring(text.indexOf("(") + 1, text.indexOf(")")));
    text.append(" rows ").append(Check.rows(x, rows));
    text.append(" letters ").append(Check.letters(x, rows));
    text.append(" missing ").append(Check.missing(x));
    for (int i = 0; i < rows; i++) {
      text.append('\n').append(Check.printed(x, i));
    }
    check.dueThrows("a row behind the last one", Check.INDEX, () -> x.row(rows));
    check.dueThrows("a text behind the last one", Check.INDEX, () -> x.print(rows));
    return text.toString();
  }

  private static void dueStays(String what, boolean changesTheNext, Change change) {
    String before = told(afterARun());
    CiteLists x = afterARun();
    change.make(x);
    check.due("after " + what, before, told(x));
    x.run();
    check.due("the next run is another after " + what, changesTheNext, !before.equals(told(x)));
  }

  private static void runTellsUntilNext() {
    check.sentence("All that a run tells stays until the next one");
    check.due("the run", "References (3) rows 0 3 1 letters 1 2 0 missing 0:3 3:6 1:4"
        + "\n(A. Bee 1a) Bee, A.. x. 1.\n(A. Bee 1b) Bee, A.. z. 1.\n(C. Bee 1) Bee, C.. y. 1.",
        told(afterARun()));
    dueStays("entry", false, x -> x.entry(4));
    dueStays("key", true, x -> Check.putKey(x, 0, "l"));
    dueStays("AUTHOR", true, x -> Check.put(x, 0, Check.AUTHOR, " D"));
    dueStays("TITLE", true, x -> Check.put(x, 1, Check.TITLE, "!"));
    dueStays("YEAR", true, x -> Check.put(x, 0, Check.YEAR, "9"));
    dueStays("JOURNAL", true, x -> Check.put(x, 0, Check.JOURNAL, "J"));
    dueStays("PUBLISHER", true, x -> Check.put(x, 1, Check.PUBLISHER, "P"));
    dueStays("PAGES", false, x -> Check.put(x, 0, Check.PAGES, "5"));
    dueStays("BOOKTITLE", true, x -> Check.put(x, 3, Check.BOOKTITLE, "B"));
    dueStays("NOTE", false, x -> Check.put(x, 0, Check.NOTE, "N"));
    dueStays("cite", true, x -> x.cite(4));
    dueStays("cite of an old one", false, x -> x.cite(2));
    dueStays("cross", true, x -> x.cross(3, 4));
    dueStays("sort", true, x -> x.style(0, 2));
    dueStays("label 0", true, x -> x.style(1, 0));
    dueStays("label 1", true, x -> x.style(1, 1));
    dueStays("the same style", false, x -> x.style(1, 2));
    dueStays("a refused cross", false, x -> x.cross(0, 0));
    dueStays("initials", false, x -> x.initials(1, 0, -1));
    dueStays("twice", false, x -> x.twice(0));
    dueStays("print", false, x -> x.print(2));
  }

  private static void nextRunForgets() {
    check.sentence("stays until the next one");
    CiteLists x = afterARun();
    Check.putKey(x, 1, "k");
    check.due("fewer rows", 2, x.run());
    check.due("all of it", "References (2) rows 0 3 letters 1 2 missing 0:3 3:6"
        + "\n(Bee 1a) Bee, A.. x. 1.\n(Bee 1b) Bee, A.. z. 1.", told(x));
    check.dueThrows("row(2)", Check.INDEX, () -> x.row(2));
    check.dueThrows("letter(2)", Check.INDEX, () -> x.letter(2));
    check.dueThrows("missing(2, 0)", Check.INDEX, () -> x.missing(2, 0));
    check.dueThrows("print(2)", Check.INDEX, () -> x.print(2));
    Check.put(x, 3, Check.YEAR, "2");
    x.run();
    check.due("letters of the run before are gone", "0 0", Check.letters(x, 2));
  }

  private static void styleForTheNextRun() {
    check.sentence("SORT (0 .. 2) and LABEL (0 .. 2) for the next run");
    CiteLists x = new CiteLists();
    Check.cited(x, 4, Check.AUTHOR, "B", Check.YEAR, "1");
    Check.cited(x, 4, Check.AUTHOR, "A", Check.YEAR, "2");
    String[][] firstRows = {{"[1] B. 1.", "[B1] B. 1.", "(B 1) B. 1."},
      {"[1] A. 2.", "[A2] A. 2.", "(A 2) A. 2."}, {"[1] B. 1.", "[B1] B. 1.", "(B 1) B. 1."}};
    for (int sort = 0; sort <= 2; sort++) {
      for (int label = 0; label <= 2; label++) {
        x.style(sort, label);
        x.run();
        check.due("style " + sort + label, firstRows[sort][label], Check.printed(x, 0));
        x.run();
        check.due("and of the run behind it", firstRows[sort][label], Check.printed(x, 0));
      }
    }
  }

  private static void printedFromNowOn() {
    check.sentence("is what at() tells from now on");
    Change[] changes = {x -> x.entry(4), x -> x.key(0, 'x'), x -> x.field(0, Check.TITLE, 'x'),
      x -> x.cite(4), x -> x.cross(0, 4), x -> x.style(0, 0), x -> x.run(), x -> x.row(0),
      x -> x.letter(0), x -> x.initials(0, 0, -1), x -> x.missing(0, 0), x -> x.at(0),
      x -> x.twice(-1)};
    CiteLists x = afterARun();
    int length = x.print(0);
    for (int i = 0; i < changes.length; i++) {
      changes[i].make(x);
      check.due("after call " + i, "(A. Bee 1a) Bee, A.. x. 1.", Check.readPrinted(x, length));
      check.dueThrows("behind it", Check.INDEX, () -> x.at(length));
    }
    x.run();
    x.print(0);
    check.due("until the next print", (int) '[', x.at(0));
  }
}
