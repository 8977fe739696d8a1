/** Promises 1 to 7 and 15: what entries are, and how they are made, filled, cited and crossed. */
public final class EntriesTest {
  private static final Check check = new Check();

  public static void main(String[] args) {
    newObject();
    entry();
    key();
    field();
    charactersOfBytes();
    firstExceptionFits();
    cite();
    cross();
    values();
    style();
    twice();
    check.end("EntriesTest");
  }

  private static void newObject() {
    CiteLists x = new CiteLists();
    check.due("new: missing(-1, 9)", 0, x.missing(-1, 9));
    check.due("new: twice(-1)", 0, x.twice(-1));
    check.dueThrows("new: cite(0)", Check.NO_ELEMENT, () -> x.cite(0));
    check.dueThrows("new: row(0)", Check.INDEX, () -> x.row(0));
    check.dueThrows("new: letter(0)", Check.INDEX, () -> x.letter(0));
    check.dueThrows("new: missing(0, 0)", Check.INDEX, () -> x.missing(0, 0));
    check.dueThrows("new: print(-1)", Check.INDEX, () -> x.print(-1));
    check.dueThrows("new: print(0)", Check.INDEX, () -> x.print(0));
    check.dueThrows("new: at(0)", Check.INDEX, () -> x.at(0));
    check.dueThrows("new: initials(0, 0, -1)", Check.NO_ELEMENT, () -> x.initials(0, 0, -1));
    check.due("new: run()", 0, x.run());
    check.due("new: head", "References (0)", Check.printed(x, -1));
    check.due("new: style(2, 1)", 0, x.style(2, 1));
  }

  private static void entry() {
    CiteLists x = new CiteLists();
    int[] kinds = {0, 1, 2, 3, 4, 5, -1, Integer.MIN_VALUE, Integer.MAX_VALUE};
    for (int i = 0; i < kinds.length; i++) {
      check.due("entry of kind " + kinds[i], i, x.entry(kinds[i]));
      Check.put(x, i, Check.JOURNAL, "J");
      Check.put(x, i, Check.PUBLISHER, "P");
      Check.put(x, i, Check.BOOKTITLE, "B");
      Check.put(x, i, Check.NOTE, "N");
      x.cite(i);
    }
    x.run();
    String[] pieces = {"J", "P", "In: B", "P", "N", "N", "N", "N", "N"};
    for (int i = 0; i < kinds.length; i++) {
      check.due("kind " + kinds[i], "[" + (i + 1) + "] " + pieces[i] + ".", Check.printed(x, i));
    }
    for (int i = kinds.length; i < 24; i++) {
      check.due("entry", i, x.entry(1));
    }
    check.dueThrows("25th entry", Check.UNSUPPORTED, () -> x.entry(1));
    check.dueThrows("entry 24", Check.NO_ELEMENT, () -> x.cite(24));
    check.due("entry 23 is there", 10, x.cite(23));
  }

  private static void key() {
    CiteLists x = new CiteLists();
    x.entry(4);
    x.cite(0);
    Check.putKey(x, 0, "abcdefghijklmn");
    check.dueThrows("key of 17", Check.UNSUPPORTED, () -> x.key(0, Check.bytes("xyz")));
    check.due("key after a throw", "abcdefghijklmn", Check.label(x, 2, 0));
    x.key(0, Check.bytes("op"));
    check.due("key of 16", "abcdefghijklmnop", Check.label(x, 2, 0));
    check.dueThrows("nothing behind 16", Check.NONE, () -> x.key(0, 0));
    check.dueThrows("one behind 16", Check.UNSUPPORTED, () -> x.key(0, 'q'));
    check.dueThrows("key of 1", Check.NO_ELEMENT, () -> x.key(1, 'q'));
    check.dueThrows("key of -1", Check.NO_ELEMENT, () -> x.key(-1, 'q'));
  }

  private static void field() {
    CiteLists x = new CiteLists();
    x.entry(4);
    x.cite(0);
    String most = "0123456789".repeat(8);
    for (int name : new int[] {Check.AUTHOR, Check.TITLE, Check.YEAR, Check.NOTE}) {
      int own = name;
      Check.put(x, 0, name, most.substring(0, 78));
      check.dueThrows("field of 81", Check.UNSUPPORTED, () -> x.field(0, own, Check.bytes("xyz")));
      x.field(0, name, Check.bytes("89"));
      check.dueThrows("nothing behind 80", Check.NONE, () -> x.field(0, own, 0));
      check.dueThrows("one behind 80", Check.UNSUPPORTED, () -> x.field(0, own, 'x'));
    }
    x.run();
    String dot = ". ";
    check.due("fields of 80", "[1] " + most + dot + most + dot + most + dot + most + ".",
        Check.printed(x, 0));
    check.dueThrows("field 8", Check.INDEX, () -> x.field(0, 8, 'x'));
    check.dueThrows("field -1", Check.INDEX, () -> x.field(0, -1, 'x'));
    check.dueThrows("field of 1", Check.NO_ELEMENT, () -> x.field(1, 0, 'x'));
    check.dueThrows("field of -1", Check.NO_ELEMENT, () -> x.field(-1, 0, 'x'));
  }

  private static void charactersOfBytes() {
    CiteLists x = new CiteLists();
    x.entry(4);
    for (int b = 0; b < 256; b++) {
      boolean good = b == 0 || b >= 32 && b <= 126 || b >= 192 && b != 215 && b != 247;
      int packed = b;
      for (int place = 0; place < 4; place++) {
        CiteLists y = new CiteLists();
        y.entry(4);
        int c = packed << 8 * place;
        check.dueThrows("key byte " + b, good ? Check.NONE : Check.ARGUMENT, () -> y.key(0, c));
        check.dueThrows("field byte " + b, good ? Check.NONE : Check.ARGUMENT,
            () -> y.field(0, 7, c));
      }
    }
    x.cite(0);
    x.field(0, 7, 'a' | 'b' << 16);
    x.field(0, 7, 'c' << 24);
    check.dueThrows("a good byte and a bad one", Check.ARGUMENT, () -> x.field(0, 7, 'z' | 1 << 24));
    x.field(0, 7, -1);
    x.run();
    check.due("bytes 0 are none", "[1] abc\u00ff\u00ff\u00ff\u00ff.", Check.printed(x, 0));
  }

  private static void firstExceptionFits() {
    CiteLists x = new CiteLists();
    check.dueThrows("field: no entry first", Check.NO_ELEMENT, () -> x.field(0, 8, 1));
    check.dueThrows("key: no entry first", Check.NO_ELEMENT, () -> x.key(0, 1));
    x.entry(0);
    Check.put(x, 0, 0, "a".repeat(80));
    Check.putKey(x, 0, "a".repeat(16));
    check.dueThrows("field: no field before no character", Check.INDEX, () -> x.field(0, 8, 1));
    check.dueThrows("field: no character before no room", Check.ARGUMENT,
        () -> x.field(0, 0, 'a' | 1 << 8));
    check.dueThrows("key: no character before no room", Check.ARGUMENT,
        () -> x.key(0, 'a' | 127 << 8));
    check.dueThrows("initials: no entry before no person", Check.NO_ELEMENT,
        () -> x.initials(1, 9, -2));
  }

  private static void cite() {
    CiteLists x = new CiteLists();
    x.entry(0);
    x.entry(0);
    for (int i = 0; i < 60; i++) {
      check.due("cite", i + 1, x.cite(i < 30 ? 1 : 0));
    }
    check.dueThrows("61st cite", Check.UNSUPPORTED, () -> x.cite(0));
    check.dueThrows("61st cite of no entry", Check.NO_ELEMENT, () -> x.cite(2));
    check.dueThrows("cite(-1)", Check.NO_ELEMENT, () -> x.cite(-1));
    check.due("rows of 60 cites", 2, x.run());
    check.due("rows in the order of cites", "1 0", Check.rows(x, 2));
  }

  private static void cross() {
    CiteLists x = new CiteLists();
    for (int i = 0; i < 24; i++) {
      x.entry(1);
    }
    for (int i = 0; i < 23; i++) {
      check.due("cross to the next", 1, x.cross(i, i + 1));
    }
    check.due("cross to itself", 0, x.cross(5, 5));
    check.due("cross over 23 others", 0, x.cross(23, 0));
    check.due("cross over one", 0, x.cross(6, 5));
    check.due("the same again", 1, x.cross(0, 1));
    Check.put(x, 23, Check.YEAR, "1950");
    x.cite(0);
    x.run();
    check.due("a value over 23 others", "[1] 1950.", Check.printed(x, 0));
    check.due("in place of the one before", 1, x.cross(0, 23));
    check.due("no more over it", 1, x.cross(1, 0));
    check.due("but over the new one", 0, x.cross(23, 1));
    check.dueThrows("cross of no entry", Check.NO_ELEMENT, () -> x.cross(24, 0));
    check.dueThrows("cross to no entry", Check.NO_ELEMENT, () -> x.cross(0, 24));
    check.dueThrows("cross of -1 to -1", Check.NO_ELEMENT, () -> x.cross(-1, -1));
  }

  private static void values() {
    CiteLists x = new CiteLists();
    int paper = Check.cited(x, 2);
    int middle = x.entry(3);
    int last = x.entry(3);
    x.cross(paper, middle);
    x.cross(middle, last);
    Check.put(x, last, Check.AUTHOR, "Ann Bee");
    Check.put(x, last, Check.TITLE, "Last");
    Check.put(x, last, Check.PAGES, "7");
    Check.put(x, last, Check.BOOKTITLE, "Never");
    x.run();
    check.due("BOOKTITLE of the last one's TITLE", "[1] Bee, A.. In: Last, pp. 7.",
        Check.printed(x, 0));
    check.due("TITLE and YEAR are missing", "0:1 0:2", Check.missing(x));
    check.due("initials of the other's AUTHOR", "A.", Check.initials(x, paper, 0));
    Check.put(x, middle, Check.BOOKTITLE, "Series");
    x.run();
    check.due("BOOKTITLE of the other's BOOKTITLE", "[1] Bee, A.. In: Series, pp. 7.",
        Check.printed(x, 0));
    Check.put(x, middle, Check.TITLE, "Volume");
    x.run();
    check.due("BOOKTITLE of the other's TITLE", "[1] Bee, A.. In: Volume, pp. 7.",
        Check.printed(x, 0));
    Check.put(x, paper, Check.BOOKTITLE, "Own");
    Check.put(x, paper, Check.AUTHOR, " ");
    x.run();
    check.due("own ones first", "[1] In: Own, pp. 7.", Check.printed(x, 0));
    check.due("a refused cross leaves the one before", 0, x.cross(paper, paper));
    x.run();
    check.due("still crossed", "[1] In: Own, pp. 7.", Check.printed(x, 0));
  }

  private static void style() {
    CiteLists x = new CiteLists();
    check.due("style(1, 2)", 0, x.style(1, 2));
    check.due("style(2, 1)", 12, x.style(2, 1));
    check.due("style(0, 0)", 21, x.style(0, 0));
    int[][] bad = {{-1, 0}, {3, 0}, {0, -1}, {0, 3}, {Integer.MAX_VALUE, Integer.MIN_VALUE}};
    for (int[] style : bad) {
      check.dueThrows("bad style", Check.ARGUMENT, () -> x.style(style[0], style[1]));
    }
    check.due("style after throws", 0, x.style(2, 2));
    check.due("style at last", 22, x.style(2, 2));
  }

  private static void twice() {
    CiteLists x = new CiteLists();
    for (int i = 0; i < 6; i++) {
      x.entry(0);
    }
    check.due("empty keys are not the same", 0, x.twice(-1));
    for (int i = 1; i < 6; i++) {
      Check.putKey(x, i, i % 2 == 0 ? "even" : "odd");
    }
    check.due("how many are twice", 3, x.twice(-1));
    check.due("twice(0)", 3, x.twice(0));
    check.due("twice(1)", 4, x.twice(1));
    check.due("twice(2)", 5, x.twice(2));
    check.dueThrows("twice(3)", Check.INDEX, () -> x.twice(3));
    check.dueThrows("twice(-2)", Check.INDEX, () -> x.twice(-2));
    Check.putKey(x, 3, "X");
    check.due("as it is now", 2, x.twice(-1));
    Check.putKey(x, 5, "x");
    check.due("large letters are others", 1, x.twice(-1));
    check.due("twice(0) now", 4, x.twice(0));
  }
}
