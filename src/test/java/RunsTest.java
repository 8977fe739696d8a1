/** Promises 8, 9, 10 and 12: rows and their order, labels, letters, what is missing. */
public final class RunsTest {
  private static final Check check = new Check();

  public static void main(String[] args) {
    rowsAsCited();
    realOnes();
    orderByPersons();
    orderOfSort();
    foldedOrder();
    alikeOnesStay();
    orderOfLaterRuns();
    shortLabels();
    longLabels();
    initialsInLabels();
    letters();
    missing();
    staysUntilNextRun();
    check.end("RunsTest");
  }

  private static void rowsAsCited() {
    CiteLists x = new CiteLists();
    for (int i = 0; i < 4; i++) {
      x.entry(0);
    }
    x.cite(2);
    x.cite(0);
    x.cite(2);
    check.due("run()", 2, x.run());
    check.due("rows", "2 0", Check.rows(x, 2));
    check.dueThrows("row(2)", Check.INDEX, () -> x.row(2));
    check.dueThrows("row(-1)", Check.INDEX, () -> x.row(-1));
    check.dueThrows("letter(2)", Check.INDEX, () -> x.letter(2));
    check.dueThrows("letter(-1)", Check.INDEX, () -> x.letter(-1));
  }

  private static void realOnes() {
    CiteLists x = new CiteLists();
    for (int i = 0; i < 4; i++) {
      x.entry(0);
    }
    Check.putKey(x, 0, "k");
    Check.putKey(x, 2, "k");
    x.cite(2);
    x.cite(3);
    x.cite(1);
    x.cite(0);
    check.due("rows of real ones", 3, x.run());
    check.due("real ones where they first were", "0 3 1", Check.rows(x, 3));
    Check.putKey(x, 0, "l");
    check.due("no longer the same key", 4, x.run());
    check.due("all four", "2 3 1 0", Check.rows(x, 4));
  }

  private static String sorted(int sort, Object[]... entries) {
    CiteLists x = new CiteLists();
    for (Object[] fields : entries) {
      Check.cited(x, 0, fields);
    }
    x.style(sort, 0);
    return Check.rows(x, x.run());
  }

  private static Object[] author(String author) {
    return new Object[] {Check.AUTHOR, author};
  }

  private static Object[] of(String author, String year, String title) {
    return new Object[] {Check.AUTHOR, author, Check.YEAR, year, Check.TITLE, title};
  }

  private static void orderByPersons() {
    check.due("family before given", "1 0",
        sorted(1, author("Ann Zett"), author("Zoe Ayn")));
    check.due("given before particle", "1 0",
        sorted(1, author("van Berg, Jan"), author("zu Berg, Ann")));
    check.due("particle at last", "1 0",
        sorted(1, author("zu Berg, Ann"), author("van Berg, Ann")));
    check.due("no particle first", "1 0", sorted(1, author("van Berg, Ann"), author("Berg, Ann")));
    check.due("the next person", "1 0", sorted(1, author("A and C"), author("A and B")));
    check.due("who has fewer", "1 0", sorted(1, author("A and A"), author("A")));
    check.due("the first person's given before a second person", "1 0",
        sorted(1, author("A, B"), author("A and C")));
    check.due("none at first", "2 1 0", sorted(1, author("A"), author(", x"), author("and")));
    check.due("the beginning of a family", "1 0", sorted(1, author("Abc"), author("Ab")));
    check.due("a blank before letters", "1 0", sorted(1, author("Ab!, C"), author("Ab A, C")));
    check.due("blanks and commas do not count", "0 1",
        sorted(1, author("A   B , C,,D"), author("A B, C D")));
    check.due("a given's beginning before any particle", "1 0",
        sorted(1, author("Berg, Bc"), author("zu Berg, B")));
    check.due("no particle before any next person", "1 0",
        sorted(1, author("de Berg, A"), author("Berg, A and Zett")));
    check.due("fewer before no family", "1 0", sorted(1, author("A and , x"), author("A")));
  }

  private static void orderOfSort() {
    Object[][] four = {of("B", "1", "x"), of("A", "2", "y"), of("A", "1", "z"), of("A", "2", "b")};
    check.due("sort 0", "0 1 2 3", sorted(0, four));
    check.due("sort 1", "2 3 1 0", sorted(1, four));
    check.due("sort 2", "2 0 3 1", sorted(2, four));
    check.due("sort 2 by year before persons", "1 0", sorted(2, of("A", "12", ""), of("B", "1", "")));
    check.due("sort 2 no year first", "1 0", sorted(2, of("A", "1", ""), of("B", "", "")));
    check.due("sort 2 by title at last", "1 0", sorted(2, of("A", "1", "b"), of("A", "1", "a")));
    check.due("sort 1 by year before title", "1 0", sorted(1, of("A", "2", "a"), of("A", "1", "b")));
    check.due("sort 1 fewer before any year", "1 0",
        sorted(1, of("A and B", "", ""), of("A", "zz", "")));
    check.due("sort 1 a year's beginning before any title", "1 0",
        sorted(1, of("A", "10", ""), of("A", "1", "5")));
    check.due("sort 2 a year's beginning before any person", "1 0",
        sorted(2, of("A", "1a", ""), of("Z", "1", "")));
    check.due("sort 2 fewer before any title", "1 0",
        sorted(2, of("A and B", "1", ""), of("A", "1", "z")));
    CiteLists x = new CiteLists();
    int other = x.entry(1);
    Check.put(x, other, Check.AUTHOR, "Aa");
    Check.cited(x, 0, Check.AUTHOR, "Bb");
    x.cross(Check.cited(x, 0), other);
    x.style(1, 0);
    check.due("by values", "2 1", Check.rows(x, x.run()));
  }

  private static void foldedOrder() {
    String plain = "aceidnosutyz";
    String[] folded = {"Aa\u00c0\u00c6\u00e0\u00e6", "Cc\u00c7\u00e7", "Ee\u00c8\u00cb\u00e8\u00eb",
      "Ii\u00cc\u00cf\u00ec\u00ef", "Dd\u00d0\u00f0", "Nn\u00d1\u00f1",
      "Oo\u00d2\u00d6\u00d8\u00f2\u00f6\u00f8", "Ss\u00df", "Uu\u00d9\u00dc\u00f9\u00fc",
      "Tt\u00de\u00fe", "Yy\u00dd\u00fd\u00ff", "Zz"};
    for (int i = 0; i < folded.length; i++) {
      for (int j = 0; j < folded[i].length(); j++) {
        String c = folded[i].substring(j, j + 1);
        char want = plain.charAt(i);
        char before = (char) (want - 1);
        char behind = (char) (want + 1);
        check.due("folded title " + c, "2 1 0",
            sorted(1, of("", "", behind + "a"), of("", "", c + "a"), of("", "", before + "z")));
        check.due("folded year " + c, "2 1 0",
            sorted(2, of("", behind + "a", ""), of("", c + "a", ""), of("", before + "z", "")));
        check.due("folded the same " + c, "1 0",
            sorted(1, author(want + "b"), author(c + "a")));
      }
    }
    check.due("others stay: {", "1 0", sorted(1, author("{"), author("Z")));
    check.due("others stay: @", "1 0", sorted(1, author("["), author("@")));
    check.due("others stay: [", "1 0", sorted(1, author("`"), author("[")));
  }

  private static void alikeOnesStay() {
    CiteLists x = new CiteLists();
    for (int i = 0; i < 3; i++) {
      Check.put(x, x.entry(0), Check.AUTHOR, i == 1 ? "SMITH, \u00c4" : "Smith, a");
    }
    x.cite(2);
    x.cite(0);
    x.cite(1);
    x.style(1, 0);
    check.due("alike ones as they were cited", "2 0 1", Check.rows(x, x.run()));
    x.style(2, 0);
    check.due("alike ones by sort 2", "2 0 1", Check.rows(x, x.run()));
  }

  private static void orderOfLaterRuns() {
    CiteLists x = new CiteLists();
    Check.cited(x, 0, of("A", "2", ""));
    Check.cited(x, 0, of("B", "1", ""));
    x.style(1, 0);
    check.due("first by persons", "0 1", Check.rows(x, x.run()));
    x.style(2, 0);
    check.due("then by years", "1 0", Check.rows(x, x.run()));
    x.style(0, 0);
    check.due("then as they were cited", "0 1", Check.rows(x, x.run()));
  }

  private static String labelOf(int label, String key, String author, String year) {
    CiteLists x = new CiteLists();
    Check.cited(x, 0, Check.AUTHOR, author, Check.YEAR, year);
    Check.putKey(x, 0, key);
    return Check.label(x, label, 0);
  }

  private static void shortLabels() {
    check.due("key and year", "kno84", labelOf(1, "knowles", "", "1984"));
    check.due("short key", "k4", labelOf(1, "k", "", "4"));
    check.due("neither", "", labelOf(1, "", "", ""));
    check.due("no persons, but an author", "key", labelOf(1, "key", "and", ""));
    check.due("one person", "Knu84", labelOf(1, "x", "Donald Knuth", "1984"));
    check.due("one with a short family", "Li84", labelOf(1, "x", "van Li", "84"));
    check.due("family with its blank", "De 84", labelOf(1, "x", "De  Witt, A", "1984"));
    check.due("no family", "84", labelOf(1, "x", ", A", "1984"));
    check.due("two", "Bd84", labelOf(1, "x", "van Berg, A and A d", "1984"));
    check.due("four", "ABCD", labelOf(1, "x", "A and B and C and D", ""));
    check.due("five", "ABCD+84", labelOf(1, "x", "A and B and C and D and E", "1984"));
    check.due("the first four's, of those that have one", "ACD+",
        labelOf(1, "x", "A and , B and C and D and E", ""));
    CiteLists x = new CiteLists();
    int other = x.entry(1);
    Check.put(x, other, Check.YEAR, "1977");
    x.cross(Check.cited(x, 0, Check.AUTHOR, "Ann Bee"), other);
    check.due("year by value", "Bee77", Check.label(x, 1, 0));
  }

  private static void longLabels() {
    check.due("key and year", "knowles 1984", labelOf(2, "knowles", "", "1984"));
    check.due("key alone", "k", labelOf(2, "k", "and", ""));
    check.due("year alone", " 1984", labelOf(2, "", "", "1984"));
    check.due("one", "van Berg 1984", labelOf(2, "x", "van Berg, Jan", "1984"));
    check.due("two", "van Berg and de Li", labelOf(2, "x", "van Berg, Jan and A de Li", ""));
    check.due("three", "A et al. 5", labelOf(2, "x", "A and B and C", "5"));
    check.due("no name", " and B", labelOf(2, "x", ", A and B", ""));
  }

  private static String firstLabel(String... authors) {
    CiteLists x = new CiteLists();
    for (String author : authors) {
      Check.cited(x, 0, Check.AUTHOR, author);
    }
    return Check.label(x, 2, 0);
  }

  private static void initialsInLabels() {
    check.due("other initials", "A. Smith", firstLabel("Smith, A", "Smith, B"));
    check.due("no initials there", "A. Smith", firstLabel("Smith, A", "Smith"));
    check.due("no given word here", "Smith", firstLabel("Smith", "Smith, B"));
    check.due("the same initials, so a letter", "Smitha", firstLabel("Smith, Ann", "Smith, Abe"));
    check.due("folded families", "A. Sm\u00eeth", firstLabel("Sm\u00eeth, A", "SMITH, B"));
    check.due("initials are not folded", "A. Smith", firstLabel("Smith, A", "Smith, a"));
    check.due("particles do not count", "A. van Smith", firstLabel("van Smith, A", "Smith, B"));
    check.due("first persons only", "Smith", firstLabel("Smith, A", "X and Smith, B"));
    check.due("before two", "A. Smith and X", firstLabel("Smith, A and X", "Smith, B"));
    check.due("before more", "A. Smith et al.", firstLabel("Smith, A and X and Y", "Smith, B"));
    check.due("no families are the same", "A.  and B", firstLabel(", A and B", ", C"));
    check.due("a row without persons", "Smith", firstLabel("Smith, A", ""));
    check.due("no family and no persons are not the same", " and B", firstLabel(", A and B", ""));
    CiteLists x = new CiteLists();
    Check.cited(x, 0, Check.AUTHOR, "Smith, A");
    Check.put(x, x.entry(0), Check.AUTHOR, "Smith, B");
    Check.put(x, x.entry(0), Check.AUTHOR, "Smith, A");
    check.due("rows only", "Smith", Check.label(x, 2, 0));
    x.cite(2);
    check.due("the same initials after a run", "Smitha", Check.label(x, 2, 0));
    x.cite(1);
    check.due("other initials after two runs", "A. Smitha", Check.label(x, 2, 0));
  }

  private static void letters() {
    CiteLists x = new CiteLists();
    String[] authors = {"Smith, B", "Jones", "Smith, A", "", "Smith, C", ""};
    for (String author : authors) {
      Check.cited(x, 0, Check.AUTHOR, author);
    }
    x.style(0, 1);
    x.run();
    check.due("letters as cited", "1 0 2 0 3 0", Check.letters(x, 6));
    check.due("a letter in the text", "[Smib] Smith, A..", Check.printed(x, 2));
    x.style(1, 1);
    x.run();
    check.due("rows by persons", "3 5 1 2 0 4", Check.rows(x, 6));
    check.due("letters in the rows' order", "0 0 0 1 2 3", Check.letters(x, 6));
    x.style(1, 2);
    x.run();
    check.due("initials make bases others", "0 0 0 0 0 0", Check.letters(x, 6));
    x.style(1, 0);
    x.run();
    check.due("no letters without labels", "0 0 0 0 0 0", Check.letters(x, 6));
    CiteLists y = new CiteLists();
    for (int i = 0; i < 24; i++) {
      Check.cited(y, 0, Check.YEAR, "1999");
    }
    y.style(0, 2);
    y.run();
    check.due("letter 24", 24, y.letter(23));
    check.due("text with letter 24", "( 1999x) 1999.", Check.printed(y, 23));
    y.style(0, 0);
    y.run();
    check.due("number 24", "[24] 1999.", Check.printed(y, 23));
    check.due("number 10", "[10] 1999.", Check.printed(y, 9));
    CiteLists z = new CiteLists();
    Check.cited(z, 0, Check.AUTHOR, "Abc");
    Check.cited(z, 0, Check.AUTHOR, "abc");
    z.style(0, 1);
    z.run();
    check.due("bases are not folded", "0 0", Check.letters(z, 2));
  }

  private static void missing() {
    CiteLists x = new CiteLists();
    for (int kind = 4; kind >= 0; kind--) {
      x.cite(x.entry(kind));
    }
    x.run();
    String all = "0:1 1:1 1:2 2:0 2:1 2:2 2:6 3:0 3:1 3:2 3:4 4:0 4:1 4:2 4:3";
    check.due("all that is missing", all, Check.missing(x));
    check.due("how many", 15, x.missing(-1, Integer.MIN_VALUE));
    check.dueThrows("missing(15, 0)", Check.INDEX, () -> x.missing(15, 0));
    check.dueThrows("missing(-2, 0)", Check.INDEX, () -> x.missing(-2, 0));
    check.dueThrows("missing(0, 2)", Check.INDEX, () -> x.missing(0, 2));
    check.dueThrows("missing(0, -1)", Check.INDEX, () -> x.missing(0, -1));
    for (int name = 0; name < 8; name++) {
      Check.put(x, 3, name, " ");
    }
    x.cross(2, 3);
    check.due("until the next run", all, Check.missing(x));
    x.run();
    check.due("by values", "0:1 1:1 1:2 2:1 4:0 4:1 4:2 4:3", Check.missing(x));
    CiteLists y = new CiteLists();
    for (int i = 0; i < 24; i++) {
      y.cite(y.entry(i % 3));
    }
    y.run();
    check.due("most that can be missing", 96, y.missing(-1, 0));
    check.due("the last one's entry", 23, y.missing(95, 0));
    check.due("the last one's field", 6, y.missing(95, 1));
  }

  private static void staysUntilNextRun() {
    CiteLists x = new CiteLists();
    Check.cited(x, 4, Check.NOTE, "n");
    x.run();
    x.cite(x.entry(4));
    Check.put(x, 0, Check.NOTE, "ew");
    Check.putKey(x, 0, "k");
    x.style(1, 2);
    check.due("head", "References (1)", Check.printed(x, -1));
    check.due("text", "[1] n.", Check.printed(x, 0));
    check.due("missing", "0:1", Check.missing(x));
    check.dueThrows("row(1)", Check.INDEX, () -> x.row(1));
    check.due("next run", 2, x.run());
    check.due("next rows", "0 1", Check.rows(x, 2));
    check.due("next text", "(k) new.", Check.printed(x, 0));
  }
}
