/** Edges of runs: which rows in which order, the bases of labels, letters; promises 8 to 10. */
public final class LabelEdgesTest {
  private static final Check check = new Check();

  public static void main(String[] args) {
    realOnesEachOnce();
    sortKeys();
    longestKeys();
    fewerPersonsThanBefore();
    alikeOnes();
    rowNumbers();
    labelNone();
    shortKey();
    shortYear();
    shortFamily();
    shortFamilies();
    longKey();
    longNames();
    longInitials();
    longInitialsNot();
    longYear();
    lettersOfSameBases();
    lettersOfOthers();
    lettersOfEmptyBases();
    lettersInTheirOrder();
    check.end("LabelEdgesTest");
  }

  private static void realOnesEachOnce() {
    check.sentence("A RUN lists the real ones of what was cited, each once, in the order in which"
        + " they first were");
    CiteLists x = new CiteLists();
    check.due("no entries", 0, x.run());
    for (int i = 0; i < 24; i++) {
      x.entry(4);
    }
    check.due("nothing cited", 0, x.run());
    x.cite(23);
    check.due("one", "23", Check.rows(x, x.run()));
    x.cite(23);
    check.due("one twice", "23", Check.rows(x, x.run()));
    x.cite(0);
    x.cite(23);
    check.due("two", "23 0", Check.rows(x, x.run()));
    Check.putKey(x, 5, "k");
    Check.putKey(x, 9, "k");
    x.cite(9);
    x.cite(1);
    x.cite(5);
    check.due("the real one where the other was cited", "23 0 5 1", Check.rows(x, x.run()));
    for (int i = 0; i < 24; i++) {
      x.cite(i);
    }
    check.due("all but the other", 23, x.run());
    CiteLists y = new CiteLists();
    for (int i = 0; i < 24; i++) {
      y.entry(4);
    }
    for (int i = 23; i >= 0; i--) {
      y.cite(i);
    }
    check.due("24 rows", 24, y.run());
    check.due("the first row", 23, y.row(0));
    check.due("the last row", 0, y.row(23));
  }

  private static String sorted(int sort, String... authorYearTitles) {
    CiteLists x = new CiteLists();
    for (int i = 0; i + 2 < authorYearTitles.length; i += 3) {
      Check.cited(x, 4, Check.AUTHOR, authorYearTitles[i], Check.YEAR, authorYearTitles[i + 1],
          Check.TITLE, authorYearTitles[i + 2]);
    }
    x.style(sort, 0);
    return Check.rows(x, x.run());
  }

  private static void sortKeys() {
    check.sentence("By SORT 1 they are then in order by persons, by the value of YEAR, of TITLE"
        + " (both folded); by SORT 2 by YEAR, persons, TITLE");
    check.due("sort 0: as cited", "0 1", sorted(0, "B", "2", "b", "A", "1", "a"));
    check.due("1: persons first", "1 0", sorted(1, "B", "1", "a", "A", "2", "b"));
    check.due("1: YEAR then", "1 0", sorted(1, "A", "2", "a", "A", "1", "b"));
    check.due("1: TITLE then", "1 0", sorted(1, "A", "1", "b", "A", "1", "a"));
    check.due("1: no persons first", "1 0", sorted(1, "A", "", "", "", "9", "z"));
    check.due("1: fewer before YEAR", "1 0", sorted(1, "A and B", "", "", "A", "9", ""));
    check.due("1: no YEAR first", "1 0", sorted(1, "A", "0", "", "A", "", "z"));
    check.due("1: no TITLE first", "1 0", sorted(1, "A", "1", "!", "A", "1", ""));
    check.due("2: YEAR first", "1 0", sorted(2, "A", "2", "a", "B", "1", "b"));
    check.due("2: persons then", "1 0", sorted(2, "B", "1", "a", "A", "1", "b"));
    check.due("2: TITLE then", "1 0", sorted(2, "A", "1", "b", "A", "1", "a"));
    check.due("2: no YEAR first", "1 0", sorted(2, "A", "0", "", "B", "", "z"));
    check.due("2: no persons first", "1 0", sorted(2, "A", "1", "", "", "1", "z"));
    check.due("2: YEAR is a text", "1 0", sorted(2, "", "9", "", "", "10", ""));
    check.due("1: a YEAR's beginning before any TITLE", "1 0", sorted(1, "A", "1a", "", "A", "1", "z"));
    check.due("2: a YEAR's beginning before any person", "1 0", sorted(2, "A", "1a", "", "Z", "1", ""));
    check.due("1: fewer before no family and YEAR", "1 0", sorted(1, "A and ,b", "", "", "A", "z", ""));
    check.due("1: none before no family and YEAR", "1 0", sorted(1, ",b", "", "", "", "z", ""));
    check.due("2: fewer before no family and TITLE", "1 0", sorted(2, "A and ,b", "", "", "A", "", "z"));
    check.due("2: none before no family and TITLE", "1 0", sorted(2, ",b", "", "", "", "", "z"));
  }

  private static void longestKeys() {
    check.sentence("by persons, by the value of YEAR, of TITLE (both folded)");
    String year = "y".repeat(80);
    String title = "t".repeat(79);
    String[] authors = {"f".repeat(80), "A" + " and A".repeat(13), "," + "g ".repeat(39) + "g",
      "p ".repeat(39) + "Fa"};
    for (int sort = 1; sort <= 2; sort++) {
      for (String author : authors) {
        check.due("the last of TITLE decides by sort " + sort, "1 0",
            sorted(sort, author, year, title + "b", author, year, title + "a"));
      }
    }
  }

  /** A crossed entry may have fewer persons than it had in the run before. */
  private static void fewerPersonsThanBefore() {
    check.sentence("who has fewer comes first");
    CiteLists x = new CiteLists();
    x.cite(x.entry(4));
    Check.cited(x, 4, Check.AUTHOR, "A and Bbbbbbbb", Check.YEAR, "1");
    Check.put(x, x.entry(4), Check.AUTHOR, "A and C and D");
    Check.put(x, x.entry(4), Check.AUTHOR, "A and Bbbbbbbb");
    Check.put(x, x.entry(4), Check.AUTHOR, "and");
    x.cross(0, 2);
    x.style(1, 1);
    check.due("three", "1 0", Check.rows(x, x.run()));
    check.due("a label of three", "[ACD] A, C and D.", Check.printed(x, 1));
    x.cross(0, 3);
    check.due("two", "0 1", Check.rows(x, x.run()));
    check.due("a label of two", "[AB] A and Bbbbbbbb.", Check.printed(x, 0));
    x.cross(0, 4);
    check.due("none", "0 1", Check.rows(x, x.run()));
    check.due("a label of none", "[]", Check.printed(x, 0));
    x.style(1, 2);
    x.run();
    check.due("a long label of none", "()", Check.printed(x, 0));
    check.due("the other's long label", "(A and Bbbbbbbb 1) A and Bbbbbbbb. 1.", Check.printed(x, 1));
  }

  private static void alikeOnes() {
    check.sentence("alike ones as they were cited");
    for (int sort = 0; sort <= 2; sort++) {
      CiteLists x = new CiteLists();
      for (int i = 0; i < 24; i++) {
        Check.put(x, x.entry(i), Check.AUTHOR, i % 2 == 0 ? "Bee, A" : "b\u00cb\u00eb,a");
        Check.put(x, i, Check.NOTE, i % 3 == 0 ? "z" : "a");
        Check.putKey(x, i, String.valueOf((char) ('z' - i)));
      }
      for (int i = 23; i >= 0; i--) {
        x.cite(i);
      }
      x.style(sort, 0);
      x.run();
      for (int row = 0; row < 24; row++) {
        check.due("row " + row + " by sort " + sort, 23 - row, x.row(row));
      }
    }
    CiteLists y = new CiteLists();
    y.cite(y.entry(4));
    y.cite(y.entry(4));
    Check.put(y, y.entry(4), Check.YEAR, "1999");
    y.entry(4);
    for (int sort = 1; sort <= 2; sort++) {
      y.style(sort, 0);
      y.cross(0, 2);
      check.due("not alike by sort " + sort, "1 0", Check.rows(y, y.run()));
      y.cross(0, 3);
      check.due("alike since by sort " + sort, "0 1", Check.rows(y, y.run()));
    }
  }

  private static void rowNumbers() {
    check.sentence("The entry of row i. IndexOutOfBoundsException. The LETTER of row i."
        + " IndexOutOfBoundsException");
    CiteLists x = new CiteLists();
    int[] none = {-1, 3, 23, 24, Integer.MAX_VALUE, Integer.MIN_VALUE};
    for (int i = 0; i < 4; i++) {
      x.entry(4);
    }
    x.run();
    check.dueThrows("row(0) of none", Check.INDEX, () -> x.row(0));
    check.dueThrows("letter(0) of none", Check.INDEX, () -> x.letter(0));
    x.cite(3);
    x.cite(1);
    x.cite(2);
    x.run();
    check.due("row 0", 3, x.row(0));
    check.due("row 2", 2, x.row(2));
    check.due("letter 0", 0, x.letter(0));
    check.due("letter 2", 0, x.letter(2));
    for (int i : none) {
      check.dueThrows("row(" + i + ")", Check.INDEX, () -> x.row(i));
      check.dueThrows("letter(" + i + ")", Check.INDEX, () -> x.letter(i));
    }
  }

  private static String base(int label, String key, String author, String year) {
    CiteLists x = new CiteLists();
    Check.cited(x, 4, Check.AUTHOR, author, Check.YEAR, year);
    Check.putKey(x, 0, key);
    return Check.label(x, label, 0);
  }

  private static void labelNone() {
    check.sentence("LABEL 0 none");
    CiteLists x = new CiteLists();
    Check.cited(x, 4, Check.AUTHOR, "A", Check.YEAR, "1");
    Check.cited(x, 4, Check.AUTHOR, "A", Check.YEAR, "1");
    x.run();
    check.due("letters", "0 0", Check.letters(x, 2));
    check.due("text", "[2] A. 1.", Check.printed(x, 1));
    x.style(0, 1);
    x.run();
    check.due("letters by label 1", "1 2", Check.letters(x, 2));
    x.style(0, 0);
    x.run();
    check.due("letters by label 0 again", "0 0", Check.letters(x, 2));
    check.due("text by label 0 again", "[2] A. 1.", Check.printed(x, 1));
  }

  private static void shortKey() {
    check.sentence("LABEL 1: without persons the first three characters of the key");
    check.due("none", "", base(1, "", "", ""));
    check.due("one", "k", base(1, "k", "", ""));
    check.due("two", "ke", base(1, "ke", "", ""));
    check.due("three", "key", base(1, "key", "", ""));
    check.due("four", "key", base(1, "keys", "", ""));
    check.due("sixteen", "abc", base(1, "abcdefghijklmnop", "", ""));
    check.due("an AUTHOR without persons", "key", base(1, "keys", " and , ", ""));
    check.due("none and a year", "99", base(1, "", "", "1999"));
    check.due("persons, so no key", "A", base(1, "keys", "A", ""));
  }

  private static void shortYear() {
    check.sentence("then the last two characters of YEAR");
    check.due("none", "A", base(1, "", "A", ""));
    check.due("one", "A9", base(1, "", "A", "9"));
    check.due("two", "A89", base(1, "", "A", "89"));
    check.due("three", "A89", base(1, "", "A", "789"));
    check.due("four", "A84", base(1, "", "A", "1984"));
    check.due("eighty", "Ayz", base(1, "", "A", "x".repeat(78) + "yz"));
    check.due("a blank as the last", "A4 ", base(1, "", "A", "1984 "));
    check.due("one and the key", "key4", base(1, "keys", "", "4"));
    check.due("one and more persons", "AB4", base(1, "", "A and B", "4"));
    check.due("none and five persons", "ABCD+",
        base(1, "", "A and B and C and D and E", ""));
  }

  private static void shortFamily() {
    check.sentence("of one person the first three of its family (with its blanks)");
    check.due("one", "A", base(1, "k", "A", ""));
    check.due("two", "Ab", base(1, "k", "Ab", ""));
    check.due("three", "Abc", base(1, "k", "Abc", ""));
    check.due("four", "Abc", base(1, "k", "Abcd", ""));
    check.due("a blank in the middle", "A B", base(1, "k", "A B C, G", ""));
    check.due("a blank at the end", "Ab ", base(1, "k", "Ab  C, G", ""));
    check.due("no particles", "Bee", base(1, "k", "van Beek", ""));
    check.due("no family", "", base(1, "k", ", G", ""));
    check.due("no family and a year", "84", base(1, "k", ", G", "1984"));
  }

  private static void shortFamilies() {
    check.sentence("of more the first character of each of the first four's families (of those that"
        + " have one), and + if there are more than four");
    check.due("two", "AB", base(1, "k", "Aa and Bb", ""));
    check.due("three", "ABC", base(1, "k", "Aa and Bb and Cc", ""));
    check.due("four", "ABCD", base(1, "k", "A and B and C and D", ""));
    check.due("five", "ABCD+", base(1, "k", "A and B and C and D and E", ""));
    check.due("fourteen", "AAAA+", base(1, "k", "A" + " and A".repeat(13), ""));
    check.due("families behind particles", "Bd", base(1, "k", "van B and A d", ""));
    check.due("the first without", "B", base(1, "k", ", A and B", ""));
    check.due("all without", "", base(1, "k", ", A and , B", ""));
    check.due("four without", "", base(1, "k", ",A and ,B and ,C and ,D", ""));
    check.due("five without", "+", base(1, "k", ",A and ,B and ,C and ,D and ,E", ""));
    check.due("the fifth's does not come up", "ABC+",
        base(1, "k", "A and B and ,x and C and E", ""));
    check.due("persons without words do not count", "AB", base(1, "k", "A and , and B and", ""));
  }

  private static void longKey() {
    check.sentence("LABEL 2: without persons the key");
    check.due("none", "", base(2, "", "", ""));
    check.due("one", "k", base(2, "k", "", ""));
    check.due("sixteen", "abcdefghijklmnop", base(2, "abcdefghijklmnop", "", ""));
    check.due("an AUTHOR without persons", "keys", base(2, "keys", "and", ""));
    check.due("persons, so no key", "A", base(2, "keys", "A", ""));
  }

  private static void longNames() {
    check.sentence("one: its name; two: both, \" and \" between; more: the first one's name and"
        + " \" et al.\"");
    check.due("one", "van Aa B", base(2, "k", "G van Aa B", ""));
    check.due("two", "van A and de B", base(2, "k", "van A, G and de B, H", ""));
    check.due("three", "van A et al.", base(2, "k", "van A and B and C", ""));
    check.due("four", "A et al.", base(2, "k", "A and B and C and D", ""));
    check.due("fourteen", "A et al.", base(2, "k", "A" + " and A".repeat(13), ""));
    check.due("one without a name", "", base(2, "k", ", G", ""));
    check.due("two without", " and ", base(2, "k", ", G and , H", ""));
    check.due("more without", " et al.", base(2, "k", ", G and , H and I", ""));
  }

  private static String firstBase(String... authors) {
    CiteLists x = new CiteLists();
    for (String author : authors) {
      Check.cited(x, 4, Check.AUTHOR, author);
    }
    return Check.label(x, 2, 0);
  }

  private static void longInitials() {
    check.sentence("before the first one's name its initials and a blank, if it has a given word,"
        + " and the first person of another row has the same family (folded) and other initials");
    check.due("other initials", "A. X", firstBase("X, A", "X, B"));
    check.due("more initials", "A. X", firstBase("X, A", "X, A B"));
    check.due("fewer initials", "A. B. X", firstBase("X, A B", "X, A"));
    check.due("no initials", "A. X", firstBase("X, A", "X"));
    check.due("initials not folded", "A. X", firstBase("X, A", "X, a"));
    check.due("a folded family", "A. \u00e9X", firstBase("\u00e9X, A", "Ex, B"));
    check.due("other particles", "A. d X", firstBase("d X, A", "e X, B"));
    check.due("of two", "A. X and Y", firstBase("X, A and Y", "X, B"));
    check.due("of three", "A. X et al.", firstBase("X, A and Y and Z", "X, B"));
    check.due("the last of 24 rows", "A. X", firstBase("X, A", "", "", "", "", "", "", "", "", "", "",
        "", "", "", "", "", "", "", "", "", "", "", "", "X, B"));
    check.due("the same initials in one, others in another", "A. Xa",
        firstBase("X, A", "X, Aa", "X, B"));
  }

  private static void longInitialsNot() {
    check.sentence("if it has a given word, and the first person of another row has the same family"
        + " (folded) and other initials");
    check.due("a row alone", "X", firstBase("X, A"));
    check.due("no given word", "X", firstBase("X", "X, B"));
    check.due("another family", "X", firstBase("X, A", "Y, B"));
    check.due("a family's beginning", "X", firstBase("X, A", "Xy, B"));
    check.due("the same name, another family", "d X", firstBase("d X, A", "D X, B"));
    check.due("the same initials", "Xa", firstBase("X, Anna", "X, Abe"));
    check.due("a second person", "X", firstBase("X, A", "Y and X, B"));
    check.due("its own second person", "X and X", firstBase("X, A and X, B"));
    check.due("a row without persons", "X", firstBase("X, A", "and"));
    check.due("no family and no persons", "", firstBase(", A", "", "and"));
    check.due("no family in both is the same", "A. ", firstBase(", A", ", B"));
    CiteLists x = new CiteLists();
    Check.cited(x, 4, Check.AUTHOR, "X, A");
    Check.put(x, x.entry(4), Check.AUTHOR, "X, B");
    check.due("not cited, so no row", "X", Check.label(x, 2, 0));
    Check.putKey(x, 0, "k");
    Check.putKey(x, 1, "k");
    x.cite(1);
    check.due("not its real one, so no row", "X", Check.label(x, 2, 0));
    Check.putKey(x, 1, "l");
    check.due("now it has a row", "A. X", Check.label(x, 2, 0));
  }

  private static void longYear() {
    check.sentence("then, if YEAR is not empty, a blank and it");
    check.due("empty", "X", base(2, "", "X", ""));
    check.due("one", "X 9", base(2, "", "X", "9"));
    check.due("four", "X 1984", base(2, "", "X", "1984"));
    check.due("eighty", "X " + "y".repeat(80), base(2, "", "X", "y".repeat(80)));
    check.due("a blank", "X  ", base(2, "", "X", " "));
    check.due("behind a key", "key 9", base(2, "key", "", "9"));
    check.due("behind an empty key", " 9", base(2, "", "", "9"));
    check.due("behind et al.", "X et al. 9", base(2, "", "X and Y and Z", "9"));
  }

  private static CiteLists keyed(int label, String... keys) {
    CiteLists x = new CiteLists();
    for (int i = 0; i < keys.length; i++) {
      x.cite(x.entry(4));
      Check.putKey(x, i, keys[i]);
    }
    x.style(0, label);
    x.run();
    return x;
  }

  private static void lettersOfSameBases() {
    check.sentence("rows that have the same base (not empty) get 1, 2, .. in their order");
    check.due("two", "1 2", Check.letters(keyed(1, "abcd", "abce"), 2));
    check.due("three", "1 2 3", Check.letters(keyed(1, "abcd", "abce", "abcf"), 3));
    check.due("two pairs", "1 1 2 2", Check.letters(keyed(1, "aaax", "bbbx", "bbby", "aaay"), 4));
    CiteLists x = new CiteLists();
    for (int i = 0; i < 24; i++) {
      Check.cited(x, 4, Check.AUTHOR, "Same");
    }
    for (int label = 1; label <= 2; label++) {
      x.style(0, label);
      x.run();
      for (int i = 0; i < 24; i++) {
        check.due("letter of 24", i + 1, x.letter(i));
      }
    }
  }

  private static void lettersOfOthers() {
    check.sentence("others 0");
    check.due("one row", "0", Check.letters(keyed(1, "abc"), 1));
    check.due("two bases", "0 0", Check.letters(keyed(1, "abc", "abd"), 2));
    check.due("a base's beginning", "0 0", Check.letters(keyed(1, "abc", "ab"), 2));
    check.due("bases are not folded", "0 0", Check.letters(keyed(1, "abc", "Abc"), 2));
    check.due("another between", "1 0 2", Check.letters(keyed(1, "abcd", "x", "abce"), 3));
    check.due("other keys by label 2", "0 0", Check.letters(keyed(2, "abcd", "abce"), 2));
  }

  private static void lettersOfEmptyBases() {
    check.sentence("the same base (not empty)");
    for (int label = 1; label <= 2; label++) {
      CiteLists x = keyed(label, "", "", "");
      check.due("empty bases by label " + label, "0 0 0", Check.letters(x, 3));
      CiteLists y = new CiteLists();
      Check.cited(y, 4, Check.YEAR, "9");
      Check.cited(y, 4, Check.YEAR, "9");
      y.style(0, label);
      y.run();
      check.due("a year alone by label " + label, "1 2", Check.letters(y, 2));
    }
  }

  private static void lettersInTheirOrder() {
    check.sentence("get 1, 2, .. in their order");
    CiteLists x = new CiteLists();
    Check.cited(x, 4, Check.AUTHOR, "Same", Check.TITLE, "b");
    Check.cited(x, 4, Check.AUTHOR, "Same", Check.TITLE, "a");
    x.style(0, 2);
    x.run();
    check.due("as cited", "(Samea) Same. b.", Check.printed(x, 0));
    x.style(1, 2);
    x.run();
    check.due("rows by TITLE", "1 0", Check.rows(x, 2));
    check.due("letters", "1 2", Check.letters(x, 2));
    check.due("the first row's", "(Samea) Same. a.", Check.printed(x, 0));
    check.due("the second row's", "(Sameb) Same. b.", Check.printed(x, 1));
  }
}
