/** Promises 13 and 14: the texts of rows, the head, and what at() tells of them. */
public final class PrintTest {
  private static final Check check = new Check();

  public static void main(String[] args) {
    head();
    piecesOfKinds();
    persons();
    labels();
    printedStays();
    check.end("PrintTest");
  }

  private static void head() {
    CiteLists x = new CiteLists();
    for (int i = 0; i < 24; i++) {
      x.cite(x.entry(0));
    }
    check.dueThrows("head before a run", Check.INDEX, () -> x.print(-1));
    check.dueThrows("row before a run", Check.INDEX, () -> x.print(0));
    x.run();
    check.due("length of the head", 15, x.print(-1));
    check.due("head", "References (24)", Check.readPrinted(x, 15));
    check.dueThrows("at(15)", Check.INDEX, () -> x.at(15));
    check.dueThrows("at(-1)", Check.INDEX, () -> x.at(-1));
    check.dueThrows("print(24)", Check.INDEX, () -> x.print(24));
    check.dueThrows("print(-2)", Check.INDEX, () -> x.print(-2));
    check.due("head after throws", "References (24)", Check.readPrinted(x, 15));
    check.due("a row without pieces", "[10]", Check.printed(x, 9));
  }

  private static String textOf(int kind, Object... fields) {
    CiteLists x = new CiteLists();
    Check.cited(x, kind, fields);
    x.run();
    return Check.printed(x, 0);
  }

  private static void piecesOfKinds() {
    String[] whole = {"[1] A. T. J, 5. Y.", "[1] A. T. P. Y.", "[1] A. T. In: B, pp. 5. Y.",
      "[1] A. T. P. Y.", "[1] A. T. N. Y."};
    for (int kind = 0; kind < whole.length; kind++) {
      check.due("all pieces of kind " + kind, whole[kind],
          textOf(kind, Check.AUTHOR, "A", Check.TITLE, "T", Check.YEAR, "Y", Check.JOURNAL, "J",
              Check.PUBLISHER, "P", Check.PAGES, "5", Check.BOOKTITLE, "B", Check.NOTE, "N"));
    }
    check.due("a journal without pages", "[1] J.", textOf(0, Check.JOURNAL, "J"));
    check.due("pages without a journal", "[1]", textOf(0, Check.PAGES, "5"));
    check.due("a booktitle without pages", "[1] In: B.", textOf(2, Check.BOOKTITLE, "B"));
    check.due("pages without a booktitle", "[1] Y.", textOf(2, Check.PAGES, "5", Check.YEAR, "Y"));
    check.due("a title alone", "[1] T.", textOf(3, Check.TITLE, "T"));
    check.due("a blank is a piece", "[1]  .", textOf(3, Check.TITLE, " "));
    check.due("title and year", "[1] T. Y.", textOf(1, Check.TITLE, "T", Check.YEAR, "Y"));
    check.due("others' fields", "[1]", textOf(4, Check.JOURNAL, "J", Check.PUBLISHER, "P",
        Check.PAGES, "5", Check.BOOKTITLE, "B"));
  }

  private static void persons() {
    check.due("one", "[1] van Berg, J. K..", textOf(4, Check.AUTHOR, "van Berg, Jan Kees"));
    check.due("two", "[1] B, A. and C.", textOf(4, Check.AUTHOR, "A B and C"));
    check.due("three", "[1] B, A., C and E, D..", textOf(4, Check.AUTHOR, "A B and C and D E"));
    check.due("four", "[1] B, A. et al..", textOf(4, Check.AUTHOR, "A B and C and D and E"));
    check.due("four, the first without given words", "[1] B et al..",
        textOf(4, Check.AUTHOR, "B and C and D and E"));
    check.due("no name", "[1] , x. and y.", textOf(4, Check.AUTHOR, ", x and y"));
  }

  private static void labels() {
    CiteLists x = new CiteLists();
    Check.cited(x, 4, Check.AUTHOR, "Ann Bee", Check.YEAR, "1999");
    Check.cited(x, 4, Check.AUTHOR, "Ann Bee", Check.YEAR, "1999");
    x.run();
    check.due("label 0", "[2] Bee, A.. 1999.", Check.printed(x, 1));
    x.style(0, 1);
    x.run();
    check.due("label 1", "[Bee99b] Bee, A.. 1999.", Check.printed(x, 1));
    x.style(0, 2);
    x.run();
    check.due("label 2", "(Bee 1999b) Bee, A.. 1999.", Check.printed(x, 1));
    CiteLists y = new CiteLists();
    y.cite(y.entry(0));
    y.style(0, 1);
    y.run();
    check.due("an empty base by label 1", "[]", Check.printed(y, 0));
    y.style(0, 2);
    y.run();
    check.due("an empty base by label 2", "()", Check.printed(y, 0));
  }

  private static void printedStays() {
    CiteLists x = new CiteLists();
    Check.cited(x, 4, Check.NOTE, "first");
    x.run();
    check.dueThrows("nothing printed yet", Check.INDEX, () -> x.at(0));
    int length = x.print(0);
    Check.put(x, 0, Check.NOTE, " more");
    x.run();
    check.due("what was printed last", "[1] first.", Check.readPrinted(x, length));
    check.dueThrows("behind it", Check.INDEX, () -> x.at(length));
    check.due("printed anew", "[1] first more.", Check.printed(x, 0));
    check.dueThrows("at(MAX)", Check.INDEX, () -> x.at(Integer.MAX_VALUE));
    check.dueThrows("at(MIN)", Check.INDEX, () -> x.at(Integer.MIN_VALUE));
  }
}
