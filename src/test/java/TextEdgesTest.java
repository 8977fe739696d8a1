/** Edges of the texts of rows, of the head and of what is missing; promises 12 to 14. */
public final class TextEdgesTest {
  private static final Check check = new Check();

  public static void main(String[] args) {
    numbersInBrackets();
    basesInBrackets();
    lettersInBrackets();
    noPieces();
    onePiece();
    personsPiece();
    emptyNames();
    placeOfArticles();
    placeOfPapers();
    placeOfOthers();
    emptyPieces();
    longestTexts();
    head();
    printedRows();
    printedCharacters();
    missingFields();
    missingNumbers();
    check.end("TextEdgesTest");
  }

  private static String text(int kind, Object... fields) {
    CiteLists x = new CiteLists();
    Check.cited(x, kind, fields);
    x.run();
    return Check.printed(x, 0);
  }

  private static String persons(String author) {
    return text(4, Check.AUTHOR, author);
  }

  private static void numbersInBrackets() {
    check.sentence("THE TEXT of row i (from 0): LABEL 0: [ and i + 1 and ]");
    CiteLists x = new CiteLists();
    for (int i = 0; i < 24; i++) {
      x.cite(x.entry(4));
    }
    x.run();
    for (int i = 0; i < 24; i++) {
      check.due("row " + i, "[" + (i + 1) + "]", Check.printed(x, i));
    }
  }

  private static void basesInBrackets() {
    check.sentence("1: [ base, letter (a for 1, b for 2, ..), ]; 2: the same in ( and )");
    CiteLists x = new CiteLists();
    Check.cited(x, 4, Check.AUTHOR, "Bee");
    x.cite(x.entry(4));
    x.style(0, 1);
    x.run();
    check.due("label 1 without a letter", "[Bee] Bee.", Check.printed(x, 0));
    check.due("label 1 of an empty base", "[]", Check.printed(x, 1));
    x.style(0, 2);
    x.run();
    check.due("label 2 without a letter", "(Bee) Bee.", Check.printed(x, 0));
    check.due("label 2 of an empty base", "()", Check.printed(x, 1));
  }

  private static void lettersInBrackets() {
    check.sentence("letter (a for 1, b for 2, ..)");
    for (int label = 1; label <= 2; label++) {
      CiteLists x = new CiteLists();
      for (int i = 0; i < 24; i++) {
        Check.cited(x, 4, Check.AUTHOR, "Be");
      }
      x.style(0, label);
      x.run();
      for (int i = 0; i < 24; i++) {
        String base = "Be" + (char) ('a' + i);
        check.due("row " + i, (label == 1 ? "[" + base + "]" : "(" + base + ")") + " Be.",
            Check.printed(x, i));
      }
    }
  }

  private static void noPieces() {
    check.sentence("Then, if there are PIECES, a blank, and all pieces");
    for (int kind = 0; kind < 5; kind++) {
      check.due("none of kind " + kind, "[1]", text(kind));
    }
    check.due("AUTHOR without persons", "[1]", persons(" and , "));
    check.due("fields that other kinds tell", "[1]",
        text(0, Check.PUBLISHER, "P", Check.PAGES, "5", Check.BOOKTITLE, "B", Check.NOTE, "N"));
    check.due("one piece", "[1] N.", text(4, Check.NOTE, "N"));
  }

  private static void onePiece() {
    check.sentence("a blank, and all pieces, \". \" between them, and a point");
    check.due("1 alone", "[1] A.", text(4, Check.AUTHOR, "A"));
    check.due("2 alone", "[1] T.", text(4, Check.TITLE, "T"));
    check.due("3 alone", "[1] N.", text(4, Check.NOTE, "N"));
    check.due("4 alone", "[1] Y.", text(4, Check.YEAR, "Y"));
    check.due("1 and 4", "[1] A. Y.", text(4, Check.YEAR, "Y", Check.AUTHOR, "A"));
    check.due("2 and 3", "[1] T. N.", text(4, Check.NOTE, "N", Check.TITLE, "T"));
    check.due("all four", "[1] A. T. N. Y.",
        text(4, Check.NOTE, "N", Check.TITLE, "T", Check.YEAR, "Y", Check.AUTHOR, "A"));
    check.due("points stay", "[1] B, A.. T.. Y...",
        text(4, Check.AUTHOR, "A B", Check.TITLE, "T.", Check.YEAR, "Y.."));
  }

  private static void personsPiece() {
    check.sentence("each name, and if there are given words \", \" and the initials; \", \" between"
        + " them, \" and \" before the last one; of more than three only the first one, and"
        + " \" et al.\"");
    check.due("one", "[1] v B, A. C..", persons("A C v B"));
    check.due("one without given words", "[1] v B.", persons("v B"));
    check.due("two", "[1] B, A. and D, C..", persons("A B and C D"));
    check.due("two without given words", "[1] A and B.", persons("A and B"));
    check.due("three", "[1] B, A., D, C. and F, E..", persons("A B and C D and E F"));
    check.due("three without given words", "[1] A, B and C.", persons("A and B and C"));
    check.due("four", "[1] B, A. et al..", persons("A B and C and D and E"));
    check.due("four without given words", "[1] A et al..", persons("A and B and C and D"));
    check.due("fourteen", "[1] A et al..", persons("A" + " and A".repeat(13)));
  }

  private static void emptyNames() {
    check.sentence("Before a comma there may be no word: no family then");
    check.due("one", "[1] , A..", persons(", A"));
    check.due("two", "[1] , A. and , B..", persons(", A and , B"));
    check.due("four", "[1] , A. et al..", persons(", A and B and C and D"));
  }

  private static void placeOfArticles() {
    check.sentence("3 of kind 0: JOURNAL, and, if both are there, \", \" and PAGES");
    check.due("neither", "[1]", text(0));
    check.due("JOURNAL", "[1] J.", text(0, Check.JOURNAL, "J"));
    check.due("PAGES", "[1]", text(0, Check.PAGES, "5"));
    check.due("both", "[1] J, 5.", text(0, Check.PAGES, "5", Check.JOURNAL, "J"));
    check.due("PAGES of a blank", "[1] J,  .", text(0, Check.PAGES, " ", Check.JOURNAL, "J"));
  }

  private static void placeOfPapers() {
    check.sentence("of 2: \"In: \" and BOOKTITLE, if that is there, and, if PAGES are, too,"
        + " \", pp. \" and these");
    check.due("neither", "[1]", text(2));
    check.due("BOOKTITLE", "[1] In: B.", text(2, Check.BOOKTITLE, "B"));
    check.due("PAGES", "[1]", text(2, Check.PAGES, "5"));
    check.due("PAGES and JOURNAL", "[1]", text(2, Check.PAGES, "5", Check.JOURNAL, "J"));
    check.due("both", "[1] In: B, pp. 5.", text(2, Check.PAGES, "5", Check.BOOKTITLE, "B"));
  }

  private static void placeOfOthers() {
    check.sentence("of 1, 3: PUBLISHER; of 4: NOTE");
    for (int kind : new int[] {1, 3}) {
      check.due("none", "[1]", text(kind, Check.PAGES, "5", Check.NOTE, "N", Check.JOURNAL, "J",
          Check.BOOKTITLE, "B"));
      check.due("PUBLISHER", "[1] P.", text(kind, Check.PUBLISHER, "P", Check.PAGES, "5"));
    }
    check.due("none", "[1]", text(4, Check.PAGES, "5", Check.PUBLISHER, "P", Check.JOURNAL, "J",
        Check.BOOKTITLE, "B"));
    check.due("NOTE", "[1] N.", text(4, Check.NOTE, "N", Check.PAGES, "5"));
  }

  private static void emptyPieces() {
    check.sentence("Pieces (those that are not empty)");
    check.due("no 1", "[1] T. P. Y.", text(1, Check.TITLE, "T", Check.PUBLISHER, "P", Check.YEAR, "Y"));
    check.due("no 2", "[1] A. P. Y.", text(1, Check.AUTHOR, "A", Check.PUBLISHER, "P", Check.YEAR, "Y"));
    check.due("no 3", "[1] A. T. Y.", text(1, Check.AUTHOR, "A", Check.TITLE, "T", Check.YEAR, "Y"));
    check.due("no 4", "[1] A. T. P.", text(1, Check.AUTHOR, "A", Check.TITLE, "T", Check.PUBLISHER, "P"));
    check.due("PAGES alone are no 3", "[1] T. Y.",
        text(0, Check.TITLE, "T", Check.PAGES, "5", Check.YEAR, "Y"));
    check.due("a blank is not empty", "[1] A.  . Y.",
        text(1, Check.AUTHOR, "A", Check.TITLE, " ", Check.YEAR, "Y"));
  }

  private static void longestTexts() {
    check.sentence("UnsupportedOperationException when it would have more than 80");
    String t = "t".repeat(80);
    String initials = "g. ".repeat(40).trim();
    String pieces = ") , " + initials + ". " + t + ". In: " + t + ", pp. " + t + ". " + t + ".";
    check.due("the longest row", "(" + initials + "  " + t + "a" + pieces,
        Check.longText(() -> longest(2), 0));
    check.due("its label 1", "[tta" + pieces.replace(')', ']'), Check.longText(() -> longest(1), 0));
    String name = "n".repeat(80);
    check.due("the longest name", "[1] " + name + ".", persons(name));
  }

  /** Row 0 has the longest text: row 1 brings its letter, and row 2 its initials. */
  private static CiteLists longest(int label) {
    CiteLists x = new CiteLists();
    String t = "t".repeat(80);
    Check.cited(x, 2, Check.AUTHOR, "," + "g ".repeat(39) + "g", Check.TITLE, t, Check.YEAR, t,
        Check.BOOKTITLE, t, Check.PAGES, t);
    x.cross(Check.cited(x, 2), 0);
    Check.cited(x, 2, Check.AUTHOR, ",a");
    x.style(0, label);
    x.run();
    return x;
  }

  private static void head() {
    check.sentence("THE HEAD is \"References (\" and how many rows, and \")\"");
    CiteLists x = new CiteLists();
    x.run();
    check.due("of none", "References (0)", Check.printed(x, -1));
    for (int i = 1; i <= 24; i++) {
      x.cite(x.entry(4));
      x.cite(0);
      x.run();
      check.due("length of " + i, i < 10 ? 14 : 15, x.print(-1));
      check.due("of " + i, "References (" + i + ")", Check.printed(x, -1));
    }
  }

  private static void printedRows() {
    check.sentence("IndexOutOfBoundsException when there is no such row, or no run was");
    CiteLists x = new CiteLists();
    x.cite(x.entry(4));
    check.dueThrows("the head before a run", Check.INDEX, () -> x.print(-1));
    check.dueThrows("a row before a run", Check.INDEX, () -> x.print(0));
    x.run();
    check.due("row 0", 3, x.print(0));
    check.due("the head", 14, x.print(-1));
    for (int none : new int[] {1, -2, 24, Integer.MAX_VALUE, Integer.MIN_VALUE}) {
      check.dueThrows("row " + none, Check.INDEX, () -> x.print(none));
    }
    CiteLists y = new CiteLists();
    y.run();
    check.due("the head of none", 14, y.print(-1));
    check.dueThrows("row 0 of none", Check.INDEX, () -> y.print(0));
  }

  private static void printedCharacters() {
    check.sentence("Character i of what was printed last. IndexOutOfBoundsException");
    CiteLists x = new CiteLists();
    Check.cited(x, 4, Check.NOTE, "\u00ff");
    check.dueThrows("before anything was printed", Check.INDEX, () -> x.at(0));
    x.run();
    check.dueThrows("a run prints nothing", Check.INDEX, () -> x.at(0));
    check.due("length", 6, x.print(0));
    check.due("the first", (int) '[', x.at(0));
    check.due("one above 127", 255, x.at(4));
    check.due("the last", (int) '.', x.at(5));
    for (int none : new int[] {6, -1, 1000, Integer.MAX_VALUE, Integer.MIN_VALUE}) {
      check.dueThrows("at(" + none + ")", Check.INDEX, () -> x.at(none));
    }
    x.print(-1);
    check.due("the head now", (int) 'R', x.at(0));
    check.due("its last", (int) ')', x.at(13));
    check.dueThrows("behind the head", Check.INDEX, () -> x.at(14));
    x.print(0);
    check.dueThrows("nothing of the longer one before", Check.INDEX, () -> x.at(6));
  }

  private static final int[][] NEEDED = {{0, 1, 2, 3}, {0, 1, 2, 4}, {0, 1, 2, 6}, {1, 2}, {1}};

  private static void missingFields() {
    check.sentence("MISSING are, row by row, fields that have no value: of kind 0: 0, 1, 2, 3;"
        + " 1: 0, 1, 2, 4; 2: 0, 1, 2, 6; 3: 1, 2; 4: 1, in this order");
    for (int kind = 0; kind < 5; kind++) {
      for (int there = 0; there < 256; there++) {
        CiteLists x = new CiteLists();
        x.cite(x.entry(kind));
        for (int name = 0; name < 8; name++) {
          if ((there >> name & 1) == 1) {
            x.field(0, name, ' ');
          }
        }
        StringBuilder want = new StringBuilder();
        for (int name : NEEDED[kind]) {
          if ((there >> name & 1) == 0) {
            want.append(want.length() == 0 ? "" : " ").append("0:").append(name);
          }
        }
        x.run();
        check.due("kind " + kind + ", fields " + there, want.toString(), Check.missing(x));
      }
    }
    CiteLists y = new CiteLists();
    Check.cited(y, 3, Check.TITLE, "b");
    Check.cited(y, 4);
    Check.cited(y, 1, Check.TITLE, "a");
    y.style(1, 0);
    y.run();
    check.due("row by row", "1:1 2:0 2:2 2:4 0:2", Check.missing(y));
    Check.put(y, 1, Check.TITLE, "c");
    y.run();
    check.due("another order of rows", "2:0 2:2 2:4 0:2", Check.missing(y));
  }

  private static void missingNumbers() {
    check.sentence("how many (i = -1, any what; 0 before any); of the i-th one the entry"
        + " (what = 0), or field (1). IndexOutOfBoundsException");
    CiteLists x = new CiteLists();
    x.entry(3);
    x.cite(x.entry(3));
    int[] any = {0, 1, 2, -1, Integer.MAX_VALUE, Integer.MIN_VALUE};
    for (int what : any) {
      check.due("before any run, what " + what, 0, x.missing(-1, what));
      check.dueThrows("the first before any run", Check.INDEX, () -> x.missing(0, what));
    }
    x.run();
    for (int what : any) {
      check.due("how many, what " + what, 2, x.missing(-1, what));
      for (int none : new int[] {2, -2, 96, Integer.MAX_VALUE, Integer.MIN_VALUE}) {
        check.dueThrows("missing(" + none + ", " + what + ")", Check.INDEX,
            () -> x.missing(none, what));
      }
    }
    check.due("entry of the first", 1, x.missing(0, 0));
    check.due("field of the first", 1, x.missing(0, 1));
    check.due("entry of the last", 1, x.missing(1, 0));
    check.due("field of the last", 2, x.missing(1, 1));
    for (int none : new int[] {2, -1, Integer.MAX_VALUE, Integer.MIN_VALUE}) {
      check.dueThrows("missing(0, " + none + ")", Check.INDEX, () -> x.missing(0, none));
      check.dueThrows("missing(1, " + none + ")", Check.INDEX, () -> x.missing(1, none));
    }
    CiteLists y = new CiteLists();
    for (int i = 0; i < 24; i++) {
      y.cite(y.entry(i % 3));
    }
    y.run();
    check.due("most", 96, y.missing(-1, 0));
    check.due("entry of the last of most", 23, y.missing(95, 0));
    check.due("field of the last of most", 6, y.missing(95, 1));
    check.dueThrows("behind most", Check.INDEX, () -> y.missing(96, 0));
  }
}
