/** Edges of values that are crossed over, of real ones, and of promise 15. */
public final class ValueEdgesTest {
  private static final Check check = new Check();

  public static void main(String[] args) {
    ownValues();
    emptyAndNotCrossed();
    othersOverOthers();
    titleOfNothing();
    booktitleOfTitle();
    booktitleOfBooktitle();
    keyAndKindStay();
    valuesEverywhere();
    emptyKeys();
    firstOfSameKey();
    twice();
    twiceAsItIsNow();
    check.end("ValueEdgesTest");
  }

  /** A chain of entries, each crossed to the next; the first one is cited. */
  private static CiteLists chain(int kind, int length) {
    CiteLists x = new CiteLists();
    for (int i = 0; i < length; i++) {
      x.entry(i == 0 ? kind : 3);
      if (i > 0) {
        x.cross(i - 1, i);
      }
    }
    x.cite(0);
    return x;
  }

  private static String text(CiteLists x) {
    x.run();
    return Check.printed(x, 0);
  }

  private static int kindThatTells(int name) {
    return name == Check.JOURNAL || name == Check.PAGES ? 0 : name == Check.PUBLISHER ? 1
        : name == Check.BOOKTITLE ? 2 : 4;
  }

  private static final int[] CROSSED_NAMES =
      {Check.AUTHOR, Check.YEAR, Check.JOURNAL, Check.PUBLISHER, Check.NOTE, Check.PAGES};

  private static CiteLists chainFor(int name, int length) {
    CiteLists x = chain(kindThatTells(name), length);
    if (name == Check.PAGES) {
      Check.put(x, 0, Check.JOURNAL, "J");
    }
    return x;
  }

  private static String told(int name, String value) {
    String journal = name == Check.PAGES ? "J" + (value.isEmpty() ? "" : ", ") : "";
    return (journal + value).isEmpty() ? "[1]" : "[1] " + journal + value + ".";
  }

  private static void ownValues() {
    check.sentence("THE VALUE of a field is its own");
    for (int name : CROSSED_NAMES) {
      CiteLists x = chainFor(name, 2);
      Check.put(x, 0, name, "o");
      Check.put(x, 1, name, "x");
      check.due("own field " + name, told(name, "o"), text(x));
    }
    CiteLists x = chain(2, 2);
    Check.put(x, 0, Check.BOOKTITLE, "o");
    Check.put(x, 1, Check.TITLE, "x");
    Check.put(x, 1, Check.BOOKTITLE, "y");
    check.due("own BOOKTITLE", "[1] In: o.", text(x));
    CiteLists y = chain(4, 2);
    Check.put(y, 0, Check.NOTE, " ");
    Check.put(y, 1, Check.NOTE, "x");
    check.due("a blank is not empty", "[1]  .", text(y));
    CiteLists z = chain(4, 2);
    Check.put(z, 0, Check.AUTHOR, "and");
    Check.put(z, 1, Check.AUTHOR, "x");
    check.due("an AUTHOR without persons is not empty", "[1]", text(z));
    check.due("nor missing", "0:1", Check.missing(z));
  }

  private static void emptyAndNotCrossed() {
    check.sentence("if that is empty, and it is crossed");
    CiteLists x = new CiteLists();
    x.cite(x.entry(4));
    Check.put(x, x.entry(4), Check.NOTE, "n");
    check.due("not crossed", "[1]", text(x));
    check.due("crossed the other way", 1, x.cross(1, 0));
    check.due("is not crossed", "[1]", text(x));
    CiteLists y = chain(4, 3);
    check.due("all empty over others", "[1]", text(y));
    Check.put(y, 2, Check.NOTE, "n");
    check.due("until the last one has it", "[1] n.", text(y));
    Check.put(y, 0, Check.NOTE, "m");
    check.due("until it has its own", "[1] m.", text(y));
  }

  private static void othersOverOthers() {
    check.sentence("of others the other's value");
    for (int name : CROSSED_NAMES) {
      for (int length : new int[] {2, 3, 24}) {
        CiteLists x = chainFor(name, length);
        Check.put(x, length - 1, name, "v");
        check.due("field " + name + " of the last of " + length, told(name, "v"), text(x));
        if (length > 2) {
          Check.put(x, 1, name, "w");
          check.due("a nearer one is first", told(name, "w"), text(x));
        }
      }
    }
  }

  private static void titleOfNothing() {
    check.sentence("of TITLE nothing");
    CiteLists x = chain(2, 3);
    Check.put(x, 1, Check.TITLE, "x");
    Check.put(x, 2, Check.TITLE, "y");
    Check.put(x, 1, Check.BOOKTITLE, "b");
    check.due("no TITLE of others", "[1] In: x.", text(x));
    check.due("so it is missing", "0:0 0:1 0:2", Check.missing(x));
    Check.put(x, 0, Check.TITLE, "t");
    check.due("its own TITLE", "[1] t. In: x.", text(x));
  }

  private static void booktitleOfTitle() {
    check.sentence("of BOOKTITLE the other's TITLE (its own)");
    CiteLists x = chain(2, 3);
    Check.put(x, 1, Check.TITLE, "near");
    Check.put(x, 1, Check.BOOKTITLE, "book");
    Check.put(x, 2, Check.TITLE, "far");
    check.due("TITLE before BOOKTITLE", "[1] In: near.", text(x));
    CiteLists y = chain(2, 2);
    Check.put(y, 1, Check.TITLE, " ");
    Check.put(y, 1, Check.BOOKTITLE, "book");
    check.due("a TITLE of a blank is not empty", "[1] In:  .", text(y));
    CiteLists z = chain(2, 1);
    Check.put(z, 0, Check.TITLE, "own");
    check.due("not of its own TITLE", "[1] own.", text(z));
    check.due("BOOKTITLE is missing", "0:0 0:2 0:6", Check.missing(z));
  }

  private static void booktitleOfBooktitle() {
    check.sentence("or, if that is empty, the other's value of BOOKTITLE");
    CiteLists x = chain(2, 3);
    Check.put(x, 2, Check.BOOKTITLE, "lastbook");
    check.due("BOOKTITLE of the last one", "[1] In: lastbook.", text(x));
    Check.put(x, 2, Check.TITLE, "last");
    check.due("TITLE of the last one", "[1] In: last.", text(x));
    Check.put(x, 1, Check.BOOKTITLE, "nearbook");
    check.due("BOOKTITLE of the next one", "[1] In: nearbook.", text(x));
    Check.put(x, 1, Check.TITLE, "near");
    check.due("TITLE of the next one", "[1] In: near.", text(x));
    CiteLists y = chain(2, 24);
    check.due("none over 23 others", "[1]", text(y));
    Check.put(y, 23, Check.BOOKTITLE, "end");
    check.due("over 23 others", "[1] In: end.", text(y));
    Check.put(y, 23, Check.TITLE, "E");
    check.due("TITLE over 23 others", "[1] In: E.", text(y));
  }

  private static void keyAndKindStay() {
    check.sentence("THE VALUE of a field");
    CiteLists x = chain(4, 2);
    Check.putKey(x, 1, "key");
    x.style(0, 1);
    check.due("keys are not crossed", "[]", text(x));
    x.style(0, 2);
    check.due("keys are not crossed in long", "()", text(x));
    check.due("nor kinds", "0:1", Check.missing(x));
  }

  private static void valuesEverywhere() {
    check.sentence("(All by values.)");
    CiteLists x = chain(0, 2);
    String[] values = {"Ann Bee", "T", "1999", "J", "P", "5", "B", "N"};
    for (int name = 0; name < 8; name++) {
      Check.put(x, 1, name, values[name]);
    }
    check.due("label 0", "[1] Bee, A.. J, 5. 1999.", text(x));
    x.style(0, 1);
    check.due("label 1", "[Bee99] Bee, A.. J, 5. 1999.", text(x));
    x.style(0, 2);
    check.due("label 2", "(Bee 1999) Bee, A.. J, 5. 1999.", text(x));
    check.due("missing", "0:1", Check.missing(x));
    check.due("initials", "A.", Check.initials(x, 0, 0));
    CiteLists y = chain(4, 2);
    Check.put(y, 1, Check.AUTHOR, "Aa");
    Check.put(y, 1, Check.YEAR, "1");
    Check.cited(y, 4, Check.AUTHOR, "Aa", Check.YEAR, "0");
    y.style(1, 0);
    check.due("sort 1", "2 0", Check.rows(y, y.run()));
    Check.cited(y, 4, Check.AUTHOR, "Ab", Check.YEAR, "0");
    y.style(2, 0);
    check.due("sort 2", "2 3 0", Check.rows(y, y.run()));
  }

  private static CiteLists keys(String... keys) {
    CiteLists x = new CiteLists();
    for (String key : keys) {
      Check.putKey(x, x.entry(4), key);
    }
    return x;
  }

  private static String allTwice(CiteLists x) {
    StringBuilder text = new StringBuilder();
    for (int i = 0; i < x.twice(-1); i++) {
      text.append(i == 0 ? "" : " ").append(x.twice(i));
    }
    return text.toString();
  }

  private static void emptyKeys() {
    check.sentence("the first entry that has the same key, if that is not empty");
    CiteLists x = keys("", "", "a", "");
    check.due("empty keys are real ones", "", allTwice(x));
    for (int i = 0; i < 4; i++) {
      x.cite(i);
    }
    check.due("each has its row", "0 1 2 3", Check.rows(x, x.run()));
    check.due("a blank is not empty", "1", allTwice(keys(" ", " ")));
  }

  private static void firstOfSameKey() {
    check.sentence("THE REAL ONE of an entry is the first entry that has the same key");
    check.due("of one character", "1", allTwice(keys("a", "a")));
    check.due("a beginning is another", "", allTwice(keys("a", "ab", "abc")));
    check.due("a longer one before is another", "", allTwice(keys("abc", "ab", "a")));
    check.due("not folded", "", allTwice(keys("a", "A", "\u00e0", "\u00c0")));
    String long15 = "k".repeat(15);
    check.due("of 16 characters", "2", allTwice(keys(long15 + "a", long15 + "b", long15 + "a")));
    CiteLists x = keys("a", "b", "b", "b");
    x.cite(3);
    x.cite(2);
    check.due("the first of three", "1", Check.rows(x, x.run()));
    x.cite(1);
    x.cite(0);
    check.due("each once", "1 0", Check.rows(x, x.run()));
  }

  private static void twice() {
    check.sentence("The i-th entry, by number, that is not its real one");
    CiteLists x = keys("b", "a", "a", "b", "b", "");
    check.due("how many", 3, x.twice(-1));
    check.due("twice(0)", 2, x.twice(0));
    check.due("twice(1)", 3, x.twice(1));
    check.due("twice(2)", 4, x.twice(2));
    for (int none : new int[] {3, -2, 6, Integer.MAX_VALUE, Integer.MIN_VALUE}) {
      check.dueThrows("twice(" + none + ")", Check.INDEX, () -> x.twice(none));
    }
    CiteLists y = keys("a", "b");
    check.due("none", 0, y.twice(-1));
    check.dueThrows("the first of none", Check.INDEX, () -> y.twice(0));
    String[] all = new String[24];
    java.util.Arrays.fill(all, "same");
    CiteLists z = keys(all);
    check.due("all but one", 23, z.twice(-1));
    check.due("the last one", 23, z.twice(22));
    check.dueThrows("behind it", Check.INDEX, () -> z.twice(23));
  }

  private static void twiceAsItIsNow() {
    check.sentence("that is not its real one, as it is now");
    CiteLists x = keys("a", "b");
    x.cite(1);
    x.run();
    int third = x.entry(4);
    Check.putKey(x, third, "b");
    check.due("without a run", "2", allTwice(x));
    Check.putKey(x, 1, "c");
    check.due("no longer", "", allTwice(x));
    Check.putKey(x, 2, "c");
    check.due("and again", "2", allTwice(x));
  }
}
