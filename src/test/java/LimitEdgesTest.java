/** The last case that a limit still allows and the first one that it does not; promises 1 to 7. */
public final class LimitEdgesTest {
  private static final Check check = new Check();

  public static void main(String[] args) {
    newObject();
    mostEntries();
    noSuchEntry();
    otherKinds();
    emptyAtFirst();
    longestKey();
    longestFields();
    fieldNames();
    mostCites();
    crossToItself();
    crossOverOthers();
    crossInPlaceOfBefore();
    styles();
    most512Calls();
    check.end("LimitEdgesTest");
  }

  private static CiteLists withEntries(int count) {
    CiteLists x = new CiteLists();
    for (int i = 0; i < count; i++) {
      x.entry(4);
    }
    return x;
  }

  private static void newObject() {
    check.sentence("No entries, nothing cited; sort 0, label 0");
    CiteLists x = new CiteLists();
    check.dueThrows("entry 0", Check.NO_ELEMENT, () -> x.cite(0));
    check.due("twice", 0, x.twice(-1));
    check.due("rows", 0, x.run());
    check.due("the first entry's number", 0, x.entry(0));
    check.due("the first cite", 1, x.cite(0));
    check.due("style before", 0, x.style(0, 0));
    CiteLists y = new CiteLists();
    Check.cited(y, 0, Check.AUTHOR, "Bb", Check.YEAR, "2");
    Check.cited(y, 0, Check.AUTHOR, "Aa", Check.YEAR, "1");
    check.due("rows by sort 0", "0 1", Check.rows(y, y.run()));
    check.due("text by label 0", "[1] Bb. 2.", Check.printed(y, 0));
  }

  private static void mostEntries() {
    check.sentence("UnsupportedOperationException when there are 24");
    CiteLists x = new CiteLists();
    for (int i = 0; i < 24; i++) {
      check.due("entry", i, x.entry(1));
    }
    check.dueThrows("the 25th", Check.UNSUPPORTED, () -> x.entry(1));
    check.dueThrows("once more", Check.UNSUPPORTED, () -> x.entry(Integer.MIN_VALUE));
    check.due("the 24th is there", 1, x.cite(23));
    check.dueThrows("no 25th is there", Check.NO_ELEMENT, () -> x.cite(24));
  }

  private static void noSuchEntry() {
    check.sentence("NoSuchElementException: there is no such entry");
    CiteLists x = withEntries(3);
    for (int none : new int[] {3, 24, -1, Integer.MAX_VALUE, Integer.MIN_VALUE}) {
      check.dueThrows("key of " + none, Check.NO_ELEMENT, () -> x.key(none, 'a'));
      check.dueThrows("field of " + none, Check.NO_ELEMENT, () -> x.field(none, 0, 'a'));
      check.dueThrows("cite of " + none, Check.NO_ELEMENT, () -> x.cite(none));
      check.dueThrows("cross of " + none, Check.NO_ELEMENT, () -> x.cross(none, 0));
      check.dueThrows("cross to " + none, Check.NO_ELEMENT, () -> x.cross(0, none));
      check.dueThrows("cross of both " + none, Check.NO_ELEMENT, () -> x.cross(none, none));
      check.dueThrows("initials of " + none, Check.NO_ELEMENT, () -> x.initials(none, 0, -1));
    }
    Check.put(x, 2, Check.AUTHOR, "A B");
    check.dueThrows("key of 2", Check.NONE, () -> x.key(2, 'a'));
    check.due("initials of 2", 2, x.initials(2, 0, -1));
    check.due("cite of 2", 1, x.cite(2));
    check.due("cross of 2 to 0", 1, x.cross(2, 0));
  }

  private static void otherKinds() {
    check.sentence("a KIND (0 article, 1 book, 2 paper, 3 collection; all others count as 4)");
    int[] kinds = {0, 1, 2, 3, 4, 5, -1, 256, -256, Integer.MAX_VALUE, Integer.MIN_VALUE};
    String[] places = {"J", "P", "In: B", "P", "N", "N", "N", "N", "N", "N", "N"};
    for (int i = 0; i < kinds.length; i++) {
      CiteLists x = new CiteLists();
      Check.cited(x, kinds[i], Check.JOURNAL, "J", Check.PUBLISHER, "P", Check.BOOKTITLE, "B",
          Check.NOTE, "N");
      x.run();
      check.due("kind " + kinds[i], "[1] " + places[i] + ".", Check.printed(x, 0));
      boolean other = i >= 4;
      check.due("TITLE alone is missing of kind " + kinds[i], other,
          Check.missing(x).equals("0:1"));
    }
  }

  private static void emptyAtFirst() {
    check.sentence("a KEY and FIELDS .., all without characters at first");
    CiteLists x = new CiteLists();
    Check.cited(x, 0, 0, "a", 1, "b", 2, "c", 3, "d", 4, "e", 5, "f", 6, "g", 7, "h");
    Check.putKey(x, 0, "k");
    for (int kind = 0; kind < 5; kind++) {
      x.cite(x.entry(kind));
    }
    x.style(0, 2);
    x.run();
    for (int row = 1; row <= 5; row++) {
      check.due("text of a new one", "()", Check.printed(x, row));
    }
    check.due("all that can be missing is", "1:0 1:1 1:2 1:3 2:0 2:1 2:2 2:4 3:0 3:1 3:2 3:6"
        + " 4:1 4:2 5:1", Check.missing(x));
    check.dueThrows("no persons", Check.INDEX, () -> x.initials(1, 0, -1));
    check.due("no same keys", 0, x.twice(-1));
  }

  private static void longestKey() {
    check.sentence("UnsupportedOperationException when it would have more than 16");
    for (int length = 12; length <= 16; length++) {
      for (int more = 0; more <= 4; more++) {
        CiteLists x = withEntries(1);
        x.cite(0);
        String key = "abcdefghijklmnop".substring(0, length);
        Check.putKey(x, 0, key);
        String behind = "wxyz".substring(0, more);
        boolean fits = length + more <= 16;
        check.dueThrows(length + " and " + more, fits ? Check.NONE : Check.UNSUPPORTED,
            () -> x.key(0, Check.bytes(behind)));
        check.due("key of " + length + " and " + more, fits ? key + behind : key,
            Check.label(x, 2, 0));
      }
    }
    CiteLists y = withEntries(1);
    Check.putKey(y, 0, "a".repeat(15));
    check.dueThrows("bytes 0 do not count", Check.NONE, () -> y.key(0, 'b' << 24));
  }

  private static void longestFields() {
    check.sentence("UnsupportedOperationException when it would have more than 80");
    String most = "0123456789".repeat(8);
    int[] kindsThatTell = {4, 4, 4, 0, 1, 0, 2, 4};
    for (int name = 0; name < 8; name++) {
      int own = name;
      for (int length = 76; length <= 80; length++) {
        for (int more = 0; more <= 4; more++) {
          CiteLists x = new CiteLists();
          Check.cited(x, kindsThatTell[name], name, most.substring(0, length));
          if (name == Check.PAGES) {
            Check.put(x, 0, Check.JOURNAL, "J");
          }
          String behind = "wxyz".substring(0, more);
          boolean fits = length + more <= 80;
          check.dueThrows(length + " and " + more, fits ? Check.NONE : Check.UNSUPPORTED,
              () -> x.field(0, own, Check.bytes(behind)));
          x.run();
          String before = name == Check.PAGES ? "J, " : name == Check.BOOKTITLE ? "In: " : "";
          check.due("field " + name + " of " + length + " and " + more,
              "[1] " + before + most.substring(0, length) + (fits ? behind : "") + ".",
              Check.printed(x, 0));
        }
      }
    }
    CiteLists y = withEntries(1);
    Check.put(y, 0, Check.TITLE, "a".repeat(79));
    check.dueThrows("bytes 0 do not count", Check.NONE, () -> y.field(0, Check.TITLE, 'b' << 8));
    check.dueThrows("another field has room", Check.NONE, () -> y.field(0, Check.YEAR, 'b'));
  }

  private static void fieldNames() {
    check.sentence("Characters behind a field (0 .. 7)");
    CiteLists x = withEntries(1);
    for (int name = 0; name <= 7; name++) {
      int own = name;
      check.dueThrows("field " + name, Check.NONE, () -> x.field(0, own, 'a'));
    }
    for (int none : new int[] {-1, 8, 16, 256, Integer.MIN_VALUE, Integer.MAX_VALUE}) {
      check.dueThrows("field " + none, Check.INDEX, () -> x.field(0, none, 'a'));
      check.dueThrows("nothing for field " + none, Check.INDEX, () -> x.field(0, none, 0));
    }
  }

  private static void mostCites() {
    check.sentence("UnsupportedOperationException when that is 60 already");
    CiteLists x = withEntries(3);
    for (int i = 1; i <= 59; i++) {
      check.due("cite", i, x.cite(0));
    }
    check.due("the 60th", 60, x.cite(1));
    check.dueThrows("the 61st of a new one", Check.UNSUPPORTED, () -> x.cite(2));
    check.dueThrows("the 61st of an old one", Check.UNSUPPORTED, () -> x.cite(0));
    check.due("rows", "0 1", Check.rows(x, x.run()));
    check.dueThrows("60 stay after a run", Check.UNSUPPORTED, () -> x.cite(2));
  }

  private static void crossToItself() {
    check.sentence("0, and it is not, when that one is it");
    CiteLists x = withEntries(24);
    for (int i = 0; i < 24; i++) {
      check.due("cross of " + i + " to itself", 0, x.cross(i, i));
    }
    check.due("so it is not", 1, x.cross(0, 1));
    check.due("but crossed to another", 0, x.cross(1, 0));
    check.due("to itself then", 0, x.cross(0, 0));
    check.due("leaves it crossed", 0, x.cross(1, 0));
  }

  private static void crossOverOthers() {
    check.sentence("or is crossed to it, over any number of others");
    for (int others = 0; others <= 22; others++) {
      CiteLists x = withEntries(others + 2);
      int last = others + 1;
      for (int i = 0; i < last; i++) {
        check.due("cross to the next", 1, x.cross(i, i + 1));
      }
      check.due("over " + others, 0, x.cross(last, 0));
      Check.put(x, 0, Check.NOTE, "first");
      x.cite(last);
      x.run();
      check.due("and it is not", "[1]", Check.printed(x, 0));
      Check.put(x, last, Check.NOTE, "last");
      check.due("in the chain's direction it may", 1, x.cross(0, last));
      check.due("two to the same one", last > 1 ? 1 : 0, x.cross(1, last));
    }
  }

  private static void crossInPlaceOfBefore() {
    check.sentence("An entry is CROSSED to another one (in place of the one before): 1");
    CiteLists x = withEntries(3);
    Check.put(x, 1, Check.NOTE, "one");
    Check.put(x, 2, Check.NOTE, "two");
    x.cite(0);
    check.due("to one", 1, x.cross(0, 1));
    x.run();
    check.due("value of one", "[1] one.", Check.printed(x, 0));
    check.due("to two", 1, x.cross(0, 2));
    x.run();
    check.due("value of two", "[1] two.", Check.printed(x, 0));
    check.due("to two again", 1, x.cross(0, 2));
    check.due("one is no longer crossed to by it", 1, x.cross(1, 0));
    check.due("two is", 0, x.cross(2, 1));
  }

  private static void styles() {
    check.sentence("SORT (0 .. 2) and LABEL (0 .. 2) for the next run:"
        + " 10 times the sort before and the label before");
    CiteLists x = new CiteLists();
    int before = 0;
    for (int sort = 0; sort <= 2; sort++) {
      for (int label = 0; label <= 2; label++) {
        check.due("style", before, x.style(sort, label));
        before = 10 * sort + label;
      }
    }
    int[] bad = {-1, 3, 10, 256, Integer.MIN_VALUE, Integer.MAX_VALUE};
    for (int one : bad) {
      for (int good = 0; good <= 2; good++) {
        int other = good;
        check.dueThrows("sort " + one, Check.ARGUMENT, () -> x.style(one, other));
        check.dueThrows("label " + one, Check.ARGUMENT, () -> x.style(other, one));
      }
      check.dueThrows("both " + one, Check.ARGUMENT, () -> x.style(one, one));
    }
    check.due("the last good one stands", 22, x.style(0, 0));
  }

  private static void most512Calls() {
    check.sentence("An object is used for at most 512 calls");
    CiteLists x = withEntries(24);
    int calls = 24;
    for (int i = 0; i < 24; i++) {
      x.cite(i);
      x.field(i, Check.AUTHOR, Check.bytes("aa") | 'a' + 23 - i << 16);
      calls += 2;
    }
    x.style(1, 2);
    calls++;
    while (calls < 510) {
      check.due("run", 24, x.run());
      calls++;
    }
    check.due("call 511", 10, x.print(23));
    check.due("call 512", (int) '(', x.at(0));
  }
}
