/** Sentences that must hold together: each method calls on one object what several of them say. */
public final class TogetherTest {
  private static final Check check = new Check();

  public static void main(String[] args) {
    crossedToAnOther();
    crossedAmongSameKeys();
    realOneAlone();
    realOneOfAnotherKind();
    initialsOfAnOther();
    chainsThatMeet();
    chainsThatChange();
    titlesOfOthersInOrder();
    personsOfOthersInLabels();
    personsThatGo();
    keysThatGrow();
    rowsWhoseKeysGrow();
    fieldsThatGrow();
    stylesThatChange();
    throwsBetween();
    check.end("TogetherTest");
  }

  private static CiteLists withEntries(int... kinds) {
    CiteLists x = new CiteLists();
    for (int kind : kinds) {
      x.entry(kind);
    }
    return x;
  }

  /** A run, and all its texts. */
  private static String texts(CiteLists x) {
    int rows = x.run();
    StringBuilder text = new StringBuilder();
    for (int i = 0; i < rows; i++) {
      text.append(i == 0 ? "" : " | ").append(Check.printed(x, i));
    }
    return text.toString();
  }

  private static void crossedToAnOther() {
    check.sentence("of others the other's value + THE REAL ONE of an entry");
    CiteLists x = withEntries(4, 4, 4, 4);
    Check.put(x, 1, Check.NOTE, "real");
    Check.put(x, 2, Check.NOTE, "other");
    for (int i = 1; i <= 3; i++) {
      Check.putKey(x, i, "k");
    }
    x.cite(0);
    check.due("cross to one that is not its real one", 1, x.cross(0, 2));
    check.due("its own value, not its real one's", "[1] other.", texts(x));
    check.due("cross to an empty one", 1, x.cross(0, 3));
    check.due("nothing, and not its real one's", "[1]", texts(x));
    x.cite(3);
    check.due("its row is its real one's", "[1] | [2] real.", texts(x));
    x.cross(0, 1);
    x.cross(1, 2);
    check.due("own values first", "[1] real. | [2] real.", texts(x));
  }

  private static void crossedAmongSameKeys() {
    check.sentence("0, and it is not, when that one is it + the first entry that has the same key");
    CiteLists x = withEntries(1, 3);
    Check.putKey(x, 0, "k");
    Check.putKey(x, 1, "k");
    Check.put(x, 1, Check.AUTHOR, "Ann Bee");
    Check.put(x, 1, Check.PUBLISHER, "P");
    check.due("one with the same key is not it", 1, x.cross(0, 1));
    check.due("but crossed to it", 0, x.cross(1, 0));
    x.cite(1);
    check.due("the real one with the other's values", "[1] Bee, A.. P.", texts(x));
    check.due("its row", 0, x.row(0));
    check.due("missing of the real one's kind", "0:1 0:2", Check.missing(x));
    check.due("twice", 1, x.twice(-1));
    check.due("the first that is twice", 1, x.twice(0));
    x.key(0, 'x');
    check.due("twice no longer", 0, x.twice(-1));
    check.due("another row, the same text", "[1] Bee, A.. P.", texts(x));
    check.due("its own row", 1, x.row(0));
    check.due("missing of its own kind", "1:1 1:2", Check.missing(x));
  }

  private static void realOneAlone() {
    check.sentence("lists the real ones of what was cited + (All by values.)");
    CiteLists x = withEntries(4, 4, 4);
    Check.putKey(x, 0, "k");
    Check.putKey(x, 1, "k");
    Check.put(x, 0, Check.TITLE, "t");
    for (int name = 0; name < 8; name++) {
      Check.put(x, 1, name, "o");
      Check.put(x, 2, name, "p");
    }
    x.cross(1, 2);
    x.cite(1);
    x.style(1, 2);
    check.due("nothing of the one that was cited", "(k) t.", texts(x));
    x.cross(0, 2);
    check.due("the real one's other", "(p p) p. t. p. p.", texts(x));
    check.due("is still the real one", 1, x.twice(0));
  }

  private static void realOneOfAnotherKind() {
    check.sentence("the first entry that has the same key + MISSING");
    CiteLists x = withEntries(2, 0, 3);
    Check.putKey(x, 0, "k");
    Check.putKey(x, 1, "k");
    Check.put(x, 1, Check.JOURNAL, "J");
    Check.put(x, 2, Check.TITLE, "V");
    x.cite(1);
    check.due("a paper without fields", "[1]", texts(x));
    check.due("missing of a paper", "0:0 0:1 0:2 0:6", Check.missing(x));
    x.cross(0, 2);
    check.due("in a collection", "[1] In: V.", texts(x));
    check.due("one less is missing", "0:0 0:1 0:2", Check.missing(x));
  }

  private static void initialsOfAnOther() {
    check.sentence("the initials of a person of an entry + THE REAL ONE");
    CiteLists x = withEntries(4, 4, 4);
    Check.put(x, 0, Check.AUTHOR, "A B");
    Check.put(x, 1, Check.AUTHOR, "C D");
    Check.putKey(x, 0, "k");
    Check.putKey(x, 1, "k");
    x.cross(2, 1);
    check.due("the real one's", "A.", Check.initials(x, 0, 0));
    check.due("the other's own", "C.", Check.initials(x, 1, 0));
    check.due("one's that is crossed to the other", "C.", Check.initials(x, 2, 0));
  }

  private static void chainsThatMeet() {
    check.sentence("or is crossed to it, over any number of others + in place of the one before");
    CiteLists x = withEntries(4, 4, 4, 4, 4);
    int[][] crosses = {{0, 2, 1}, {1, 2, 1}, {0, 1, 1}, {2, 0, 0}, {2, 1, 0}, {2, 3, 1}, {4, 2, 1},
      {3, 4, 0}, {3, 0, 0}, {0, 4, 1}, {1, 0, 1}, {3, 1, 0}, {0, 1, 0}, {4, 1, 0}, {2, 2, 0}};
    for (int[] cross : crosses) {
      check.due("cross " + cross[0] + " to " + cross[1], cross[2], x.cross(cross[0], cross[1]));
    }
    for (int i = 0; i < 5; i++) {
      x.cite(i);
    }
    Check.put(x, 3, Check.NOTE, "n");
    check.due("1 to 0 to 4 to 2 to 3", "[1] n. | [2] n. | [3] n. | [4] n. | [5] n.", texts(x));
    Check.put(x, 4, Check.NOTE, "m");
    check.due("a nearer one for some", "[1] m. | [2] m. | [3] n. | [4] n. | [5] m.", texts(x));
    check.due("0 to 3 in place of 4", 1, x.cross(0, 3));
    check.due("4 to 1 now", 1, x.cross(4, 1));
    check.due("2 to 4 now", 1, x.cross(2, 4));
    check.due("3 to 2 never: 2 to 4 to 1 to 0 to 3", 0, x.cross(3, 2));
    check.due("all by 3 again", "[1] n. | [2] n. | [3] m. | [4] n. | [5] m.", texts(x));
  }

  private static void chainsThatChange() {
    check.sentence("of BOOKTITLE the other's TITLE .. the other's value of BOOKTITLE + in place of"
        + " the one before");
    CiteLists x = withEntries(2, 3, 3, 3, 3);
    Check.put(x, 2, Check.TITLE, "Two");
    Check.put(x, 2, Check.YEAR, "2");
    Check.put(x, 3, Check.TITLE, "Three");
    x.cross(0, 1);
    x.cross(1, 2);
    x.cite(0);
    check.due("over 1 of 2", "[1] In: Two. 2.", texts(x));
    x.cross(1, 3);
    check.due("until the next run", "[1] In: Two. 2.", Check.printed(x, 0));
    check.due("over 1 of 3", "[1] In: Three.", texts(x));
    check.due("3 to 0 is refused", 0, x.cross(3, 0));
    check.due("3 to 2", 1, x.cross(3, 2));
    check.due("TITLE of 3, YEAR of 2", "[1] In: Three. 2.", texts(x));
    Check.put(x, 1, Check.BOOKTITLE, "B");
    check.due("BOOKTITLE of 1", "[1] In: B. 2.", texts(x));
    Check.put(x, 1, Check.TITLE, "T");
    check.due("TITLE of 1", "[1] In: T. 2.", texts(x));
    Check.put(x, 0, Check.BOOKTITLE, "O");
    check.due("its own BOOKTITLE", "[1] In: O. 2.", texts(x));
    x.cross(0, 4);
    check.due("crossed to an empty one", "[1] In: O.", texts(x));
    check.due("so YEAR is missing", "0:0 0:1 0:2", Check.missing(x));
  }

  private static void titlesOfOthersInOrder() {
    check.sentence("of TITLE nothing + in order by persons, by the value of YEAR, of TITLE");
    for (int sort = 1; sort <= 2; sort++) {
      CiteLists x = withEntries(4, 4, 4);
      Check.put(x, 2, Check.AUTHOR, "A");
      Check.put(x, 2, Check.YEAR, "1");
      Check.put(x, 2, Check.TITLE, "z");
      Check.put(x, 1, Check.TITLE, "a");
      x.cross(0, 2);
      x.cross(1, 2);
      x.cite(1);
      x.cite(2);
      x.cite(0);
      x.style(sort, 0);
      check.due("rows by sort " + sort, "0 1 2", Check.rows(x, x.run()));
    }
  }

  private static void personsOfOthersInLabels() {
    check.sentence("the first person of another row has the same family (folded) and other initials"
        + " + of others the other's value");
    CiteLists x = withEntries(4, 4, 4, 4);
    Check.put(x, 0, Check.YEAR, "1985");
    Check.put(x, 2, Check.AUTHOR, "Ann Bee");
    Check.put(x, 2, Check.YEAR, "1984");
    Check.put(x, 3, Check.AUTHOR, "Bea B\u00cbe");
    x.cross(0, 2);
    x.cross(1, 2);
    x.cite(0);
    x.cite(1);
    x.style(0, 2);
    check.due("one's own YEAR", "(Bee 1985) Bee, A.. 1985. | (Bee 1984) Bee, A.. 1984.", texts(x));
    x.style(0, 1);
    check.due("in short", "[Bee85] Bee, A.. 1985. | [Bee84] Bee, A.. 1984.", texts(x));
    x.style(1, 1);
    check.due("by YEAR", "1 0", Check.rows(x, x.run()));
    x.cite(2);
    check.due("1 and 2 are alike", "[Bee84a] Bee, A.. 1984. | [Bee84b] Bee, A.. 1984."
        + " | [Bee85] Bee, A.. 1985.", texts(x));
    check.due("their letters", "1 2 0", Check.letters(x, 3));
    x.cite(3);
    x.style(0, 2);
    check.due("another Bee", "(A. Bee 1985) Bee, A.. 1985. | (A. Bee 1984a) Bee, A.. 1984."
        + " | (A. Bee 1984b) Bee, A.. 1984. | (B. B\u00cbe) B\u00cbe, B..", texts(x));
    x.cross(1, 3);
    check.due("1 is the other Bee's", "(A. Bee 1985) Bee, A.. 1985. | (B. B\u00cbea) B\u00cbe, B.."
        + " | (A. Bee 1984) Bee, A.. 1984. | (B. B\u00cbeb) B\u00cbe, B..", texts(x));
  }

  private static void personsThatGo() {
    check.sentence("other initials + in place of the one before");
    CiteLists x = withEntries(4, 4, 4, 4, 4);
    Check.put(x, 1, Check.AUTHOR, "Bee, A");
    Check.put(x, 2, Check.AUTHOR, "Bee, A");
    Check.put(x, 3, Check.AUTHOR, "Bee");
    Check.put(x, 4, Check.AUTHOR, "and");
    x.cite(0);
    x.cite(1);
    x.style(0, 2);
    String alike = "(Beea) Bee, A.. | (Beeb) Bee, A..";
    x.cross(0, 2);
    check.due("the same initials", alike, texts(x));
    x.cross(0, 3);
    check.due("no given word any more", "(Bee) Bee. | (A. Bee) Bee, A..", texts(x));
    check.dueThrows("no initials to tell", Check.INDEX, () -> x.initials(0, 0, 0));
    x.cross(0, 4);
    check.due("no persons any more", "() | (Bee) Bee, A..", texts(x));
    check.dueThrows("no person to tell of", Check.INDEX, () -> x.initials(0, 0, -1));
    x.cross(0, 2);
    check.due("the same initials again", alike, texts(x));
    check.due("initials to tell", "A.", Check.initials(x, 0, 0));
  }

  private static void keysThatGrow() {
    check.sentence("THE REAL ONE + without persons the key + rows that have the same base");
    CiteLists x = withEntries(4, 4, 4);
    x.key(0, 'a');
    x.key(1, 'a');
    x.cite(2);
    x.cite(1);
    x.cite(0);
    x.style(0, 2);
    check.due("a, a, none", "() | (a)", texts(x));
    x.key(1, 'b');
    check.due("a, ab, none", "() | (ab) | (a)", texts(x));
    Check.putKey(x, 2, "ab");
    check.due("2 is twice", 2, x.twice(0));
    check.due("a, ab, ab", "(ab) | (a)", texts(x));
    check.due("rows of a, ab, ab", "1 0", Check.rows(x, 2));
    x.key(0, 'b');
    check.due("two are twice", 2, x.twice(-1));
    check.due("ab, ab, ab", "(ab)", texts(x));
    check.due("missing of the one row", "0:1", Check.missing(x));
    x.key(0, 'c');
    check.due("abc, ab, ab", "(ab) | (abc)", texts(x));
    Check.putKey(x, 1, "cd");
    check.due("none is twice", 0, x.twice(-1));
    check.due("abc, abcd, ab", "(ab) | (abcd) | (abc)", texts(x));
    x.style(0, 1);
    check.due("in short", "[ab] | [abca] | [abcb]", texts(x));
    check.due("letters in short", "0 1 2", Check.letters(x, 3));
    x.key(2, 'c');
    check.due("abc, abcd, abc", "[abca] | [abcb]", texts(x));
    check.due("rows of abc, abcd, abc", "0 1", Check.rows(x, 2));
  }

  private static void rowsWhoseKeysGrow() {
    check.sentence("All that a run tells stays until the next one + as it is now");
    CiteLists x = withEntries(4, 4);
    x.key(1, 'k');
    x.cite(1);
    x.style(0, 2);
    check.due("the row", "(k)", texts(x));
    x.key(0, 'k');
    check.due("1 is twice now", 1, x.twice(0));
    check.due("its row stays", 1, x.row(0));
    check.due("what is missing stays", 1, x.missing(0, 0));
    Check.put(x, 0, Check.TITLE, "t");
    check.due("its text stays", "(k)", Check.printed(x, 0));
    check.due("the next text", "(k) t.", texts(x));
    check.due("the next row", 0, x.row(0));
    check.due("nothing is missing then", 0, x.missing(-1, 0));
    x.key(0, 'l');
    check.due("none is twice now", 0, x.twice(-1));
    check.due("the row stays again", 0, x.row(0));
    check.due("the row of 1 again", "(k)", texts(x));
    check.due("its number", 1, x.row(0));
  }

  /** What comes behind AUTHOR in each step, and the text of the next run. */
  private static final String[][] GROWTH = {
    {"van", "(van) van."},
    {" Be", "(van Be) van Be."},
    {"rg", "(van Berg) van Berg."},
    {", J", "(van Berg) van Berg, J.."},
    {" and", "(van Berg) van Berg, J.."},
    {"y", "(van Berg) van Berg, J. a.."},
    {" and", "(van Berg) van Berg, J. a.."},
    {" ", "(van Berg) van Berg, J. a.."},
    {"Li", "(van Berg and Li) van Berg, J. a. and Li."},
    {" de", "(van Berg and de) van Berg, J. a. and de, L.."},
    {" R", "(van Berg and de R) van Berg, J. a. and de R, L.."},
    {",", "(van Berg and Li de R) van Berg, J. a. and Li de R."},
    {" and and", "(van Berg and Li de R) van Berg, J. a. and Li de R."},
    {" A", "(van Berg et al.) van Berg, J. a., Li de R and A."},
    {" and ,", "(van Berg et al.) van Berg, J. a., Li de R and A."},
    {"B", "(van Berg et al.) van Berg, J. a. et al.."}
  };

  private static void fieldsThatGrow() {
    check.sentence("Characters behind a field + PERSONS + All that a run tells stays");
    growBy(0, GROWTH.length / 2);
    CiteLists x = growBy(GROWTH.length / 2, GROWTH.length);
    check.due("initials as they are now", "B.", Check.initials(x, 0, 3));
  }

  /** Runs behind the steps of a part alone: one object has not calls enough for all of them. */
  private static CiteLists growBy(int from, int to) {
    CiteLists x = withEntries(4, 4);
    x.cite(0);
    x.style(0, 2);
    for (int i = 0; i < from; i++) {
      Check.put(x, 0, Check.AUTHOR, GROWTH[i][0]);
    }
    String before = texts(x);
    for (int i = from; i < to; i++) {
      Check.put(x, 0, Check.AUTHOR, GROWTH[i][0]);
      check.due("before the run with step " + i, before.length(), x.print(0));
      before = texts(x);
      check.due("after step " + i, GROWTH[i][1], before);
    }
    return x;
  }

  private static void dueStyle(CiteLists x, int style, String rows, String letters, String first) {
    x.style(style / 10, style % 10);
    check.due("rows by " + style, rows, Check.rows(x, x.run()));
    check.due("letters by " + style, letters, Check.letters(x, 3));
    check.due("text by " + style, first, Check.printed(x, 0));
    check.dueThrows("a bad sort", Check.ARGUMENT, () -> x.style(3, 1));
    check.dueThrows("a bad label", Check.ARGUMENT, () -> x.style(1, -1));
    check.due("text after " + style, first.length(), x.print(0));
  }

  private static void stylesThatChange() {
    check.sentence("SORT and LABEL for the next run + LETTERS + A call that throws changes nothing");
    CiteLists x = new CiteLists();
    Check.cited(x, 4, Check.AUTHOR, "Bee, A", Check.YEAR, "1984", Check.TITLE, "c");
    Check.cited(x, 4, Check.AUTHOR, "Bee, A", Check.YEAR, "1984", Check.TITLE, "b");
    Check.cited(x, 4, Check.AUTHOR, "Abe", Check.YEAR, "1990", Check.TITLE, "a");
    for (int again = 0; again < 2; again++) {
      dueStyle(x, 0, "0 1 2", "0 0 0", "[1] Bee, A.. c. 1984.");
      dueStyle(x, 11, "2 1 0", "0 1 2", "[Abe90] Abe. a. 1990.");
      dueStyle(x, 22, "1 0 2", "1 2 0", "(Bee 1984a) Bee, A.. b. 1984.");
      dueStyle(x, 2, "0 1 2", "1 2 0", "(Bee 1984a) Bee, A.. c. 1984.");
      dueStyle(x, 10, "2 1 0", "0 0 0", "[1] Abe. a. 1990.");
      dueStyle(x, 21, "1 0 2", "1 2 0", "[Bee84a] Bee, A.. b. 1984.");
    }
    check.due("the style before", 21, x.style(0, 0));
  }

  private static void throwsBetween() {
    check.sentence("A call that throws changes nothing + all of a small list");
    CiteLists x = new CiteLists();
    check.dueThrows("no entry yet", Check.NO_ELEMENT, () -> x.key(0, 'a'));
    check.due("the first entry", 0, x.entry(2));
    check.dueThrows("no entry 1 yet", Check.NO_ELEMENT, () -> x.cross(0, 1));
    check.due("the second entry", 1, x.entry(3));
    check.dueThrows("a byte that is none", Check.ARGUMENT, () -> x.field(0, 0, 'X' | 200 << 8 | 191 << 16));
    Check.put(x, 0, Check.AUTHOR, "d Li, A");
    check.dueThrows("no field 8", Check.INDEX, () -> x.field(0, 8, 'X'));
    Check.put(x, 1, Check.TITLE, "t".repeat(79));
    check.dueThrows("no room for two", Check.UNSUPPORTED, () -> x.field(1, Check.TITLE, Check.bytes("uv")));
    Check.put(x, 1, Check.TITLE, "u");
    check.dueThrows("cited no entry", Check.NO_ELEMENT, () -> x.cite(2));
    check.due("cited first", 1, x.cite(0));
    check.due("crossed", 1, x.cross(0, 1));
    check.dueThrows("crossed to none", Check.NO_ELEMENT, () -> x.cross(0, 2));
    check.dueThrows("no row yet", Check.INDEX, () -> x.print(-1));
    x.style(2, 2);
    check.dueThrows("no such style", Check.ARGUMENT, () -> x.style(0, 3));
    String due = "(d Li) d Li, A.. In: " + "t".repeat(79) + "u.";
    check.due("text", due, texts(x));
    check.dueThrows("no second row", Check.INDEX, () -> x.print(1));
    check.dueThrows("no second letter", Check.INDEX, () -> x.letter(1));
    check.dueThrows("no second person", Check.INDEX, () -> x.initials(0, 1, -1));
    check.dueThrows("nothing twice", Check.INDEX, () -> x.twice(0));
    check.due("what was printed", due, Check.readPrinted(x, due.length()));
    check.due("missing", "0:1 0:2", Check.missing(x));
    check.due("the style", 22, x.style(0, 0));
  }
}
