/** Edges of how persons are read from AUTHOR, and of promise 11. */
public final class PersonEdgesTest {
  private static final Check check = new Check();

  public static void main(String[] args) {
    blanksPartWords();
    justAnd();
    withoutWords();
    commasPartWords();
    particlesBeforeComma();
    nothingBeforeComma();
    nothingBehindComma();
    particlesWithoutComma();
    withoutParticles();
    oneWord();
    namesAndInitials();
    mostWordsAndPersons();
    initialsOfPersons();
    initialsCharacters();
    initialsAsItIsNow();
    orderOfParts();
    orderOfPersons();
    check.end("PersonEdgesTest");
  }

  private static CiteLists with(String author) {
    CiteLists x = new CiteLists();
    Check.cited(x, 4, Check.AUTHOR, author);
    return x;
  }

  /** One person alone: its name, the beginning of its family (three characters), its initials. */
  private static void dueOne(String author, String name, String family, String initials) {
    CiteLists x = with(author);
    String what = "'" + author + "' ";
    check.due(what + "family", family, Check.label(x, 1, 0));
    check.due(what + "name", name, Check.label(x, 2, 0));
    check.due(what + "initials", initials, Check.initials(x, 0, 0));
    check.due(what + "piece", name + (initials.isEmpty() ? "" : ", " + initials), piece(author));
    check.dueThrows(what + "next person", Check.INDEX, () -> x.initials(0, 1, -1));
  }

  private static String piece(String author) {
    CiteLists x = with(author);
    x.run();
    String text = Check.printed(x, 0);
    return text.equals("[1]") ? "" : text.substring(4, text.length() - 1);
  }

  private static void duePersons(String author, int count) {
    CiteLists x = with(author);
    String what = "'" + author + "' ";
    for (int i = 0; i < count; i++) {
      int person = i;
      check.dueThrows(what + "person " + i, Check.NONE, () -> x.initials(0, person, -1));
    }
    check.dueThrows(what + "person " + count, Check.INDEX, () -> x.initials(0, count, -1));
  }

  private static void blanksPartWords() {
    check.sentence("the value of AUTHOR is parted into WORDS by blanks");
    dueOne("A B", "B", "B", "A.");
    dueOne("  A   B  ", "B", "B", "A.");
    dueOne("A-B", "A-B", "A-B", "");
    dueOne("A.B C", "C", "C", "A.");
    dueOne(" B", "B", "B", "");
    dueOne("B ", "B", "B", "");
  }

  private static void justAnd() {
    check.sentence("a word that is just \"and\" parts persons");
    check.due("and", "A and B", piece("A and B"));
    check.due("and among blanks", "A and B", piece("A  and  B"));
    check.due("and twice", "A, B and C", piece("A and B and C"));
    dueOne("A And", "And", "And", "A.");
    dueOne("A AND B", "B", "B", "A. A.");
    dueOne("A an B", "an B", "B", "A.");
    dueOne("A nd B", "nd B", "B", "A.");
    dueOne("A ands B", "ands B", "B", "A.");
    dueOne("A aand B", "aand B", "B", "A.");
    dueOne("A anD B", "anD B", "B", "A.");
    dueOne("A \u00e0nd B", "\u00e0nd B", "B", "A.");
    dueOne("Aand B", "B", "B", "A.");
    dueOne("A andB", "andB", "and", "A.");
    dueOne("A and, B", "A and", "A a", "B.");
    dueOne("A ,and B", "A", "A", "a. B.");
    dueOne("A,and,B", "A", "A", "a. B.");
  }

  private static void withoutWords() {
    check.sentence("those without words are none");
    for (String none : new String[] {"", " ", "     ", "and", " and ", "and and", "and  and and",
        ",", " , ", ",,", ", ,", "and , and", ", and ,,"}) {
      duePersons(none, 0);
      check.due("persons of '" + none + "'", "", piece(none));
    }
    for (String one : new String[] {"A", "and A", "A and", "and A and", "and and A", "A and and",
        ", and A", "A and ,", ",, and A and , ,"}) {
      duePersons(one, 1);
      check.due("persons of '" + one + "'", "A", piece(one));
    }
    for (String two : new String[] {"A and B", "A and and B", "and A and and and B and",
        "A and , and B"}) {
      duePersons(two, 2);
      check.due("persons of '" + two + "'", "A and B", piece(two));
    }
  }

  private static void commasPartWords() {
    check.sentence("With a comma: commas part words, too");
    dueOne("B,A", "B", "B", "A.");
    dueOne("B , A", "B", "B", "A.");
    dueOne("B ,A", "B", "B", "A.");
    dueOne("B,A,C", "B", "B", "A. C.");
    dueOne("B,A C,D", "B", "B", "A. C. D.");
    dueOne("B,,A", "B", "B", "A.");
    dueOne("B,A,", "B", "B", "A.");
    dueOne("B C,A", "B C", "B C", "A.");
    dueOne("d C D,A", "d C D", "C D", "A.");
    check.due("a comma is its own person's", "A B C and E, D.", piece("A B C, and D E"));
    check.due("no comma of the person before", "B, A. and D, C.", piece("B, A and C D"));
    check.due("no comma of the person behind", "B, A. and C, D.", piece("A B and C, D"));
  }

  private static void particlesBeforeComma() {
    check.sentence("particles as long as they begin with a small letter and are not the last ones"
        + " of these, then family");
    dueOne("d B, A", "d B", "B", "A.");
    dueOne("d e B, A", "d e B", "B", "A.");
    dueOne("d e f, A", "d e f", "f", "A.");
    dueOne("d, A", "d", "d", "A.");
    dueOne("d,", "d", "d", "");
    dueOne("d B e, A", "d B e", "B e", "A.");
    dueOne("B d, A", "B d", "B d", "A.");
    dueOne("B d e, A", "B d e", "B d", "A.");
    dueOne("d B, e f", "d B", "B", "e. f.");
    dueOne("d e, f, g", "d e", "e", "f. g.");
  }

  private static void nothingBeforeComma() {
    check.sentence("Before a comma there may be no word: no family then");
    dueOne(", A", "", "", "A.");
    dueOne(",A", "", "", "A.");
    dueOne(" , A B", "", "", "A. B.");
    dueOne(",, A", "", "", "A.");
    dueOne(", a", "", "", "a.");
    dueOne(", A, B", "", "", "A. B.");
    check.due("the first comma counts", ", B. A.", piece(",B,A"));
    check.due("in the second person", "A and , B.", piece("A and , B"));
  }

  private static void nothingBehindComma() {
    check.sentence("those behind it are given");
    dueOne("B,", "B", "B", "");
    dueOne("B ,", "B", "B", "");
    dueOne("B, ", "B", "B", "");
    dueOne("B,,", "B", "B", "");
    dueOne("B C,", "B C", "B C", "");
    dueOne("B C", "C", "C", "B.");
  }

  private static void particlesWithoutComma() {
    check.sentence("of the words but the last one, all from the first to the last that begin with"
        + " a small letter are particles (with what stands between); those before are given, those"
        + " behind them, and the last one, family");
    dueOne("A d B", "d B", "B", "A.");
    dueOne("d B", "d B", "B", "");
    dueOne("d e B", "d e B", "B", "");
    dueOne("A d E f B", "d E f B", "B", "A.");
    dueOne("A d E F f B", "d E F f B", "B", "A.");
    dueOne("A d B C", "d B C", "B C", "A.");
    dueOne("A C d B", "d B", "B", "A. C.");
    dueOne("d B C", "d B C", "B C", "");
    dueOne("A d b", "d b", "b", "A.");
    dueOne("A d B c", "d B c", "B c", "A.");
    dueOne("d e f", "d e f", "f", "");
    dueOne("d b", "d b", "b", "");
  }

  private static void withoutParticles() {
    check.sentence("if none begins so, only the last word is family");
    dueOne("A B", "B", "B", "A.");
    dueOne("A B C D", "D", "D", "A. B. C.");
    dueOne("A B c", "c", "c", "A. B.");
    dueOne("1 ( \u00de", "\u00de", "\u00de", "1. (.");
  }

  private static void oneWord() {
    check.sentence("the words but the last one");
    dueOne("B", "B", "B", "");
    dueOne("b", "b", "b", "");
    dueOne("\u00ff", "\u00ff", "\u00ff", "");
    dueOne("Abcd", "Abcd", "Abc", "");
  }

  private static void namesAndInitials() {
    check.sentence("A NAME is its particle and family words, a blank between each. INITIALS are the"
        + " first characters of the given words, each with a point, a blank between");
    dueOne("xy   zz  Bc   De ,  Gh   Ij", "xy zz Bc De", "Bc ", "G. I.");
    dueOne("Gh  Ij   xy  zz  Bc  De", "xy zz Bc De", "Bc ", "G. I.");
    dueOne("\u00c9ric B", "B", "B", "\u00c9.");
    dueOne("J. B", "B", "B", "J.");
    dueOne(". B", "B", "B", "..");
    dueOne("J.-P. B", "B", "B", "J.");
  }

  private static void mostWordsAndPersons() {
    // 80 characters hold 40 words of one person, and 14 persons, at most.
    check.sentence("UnsupportedOperationException when it would have more than 80");
    dueOne("G ".repeat(39) + "Fa", "Fa", "Fa", ("G. ".repeat(39)).trim());
    dueOne("," + "g ".repeat(39) + "g", "", "", ("g. ".repeat(40)).trim());
    dueOne("F" + ",g".repeat(39), "F", "F", ("g. ".repeat(39)).trim());
    dueOne("p ".repeat(39) + "Fa", "p ".repeat(39) + "Fa", "Fa", "");
    dueOne("F " + "F ".repeat(38) + "F,", "F " + "F ".repeat(38) + "F", "F F", "");
    duePersons("A" + " and A".repeat(13), 14);
    CiteLists x = with("A" + " and A".repeat(12) + " and Z");
    Check.cited(x, 4, Check.AUTHOR, "A" + " and A".repeat(12) + " and Y");
    Check.cited(x, 4, Check.AUTHOR, "A" + " and A".repeat(12));
    x.style(1, 0);
    check.due("the fourteenth decides", "2 1 0", Check.rows(x, x.run()));
  }

  private static void initialsOfPersons() {
    check.sentence("IndexOutOfBoundsException when there is no such person");
    CiteLists x = with("A B and C and D E F");
    check.due("person 0", "A.", Check.initials(x, 0, 0));
    check.due("person 1", "", Check.initials(x, 0, 1));
    check.due("person 2", "D. E.", Check.initials(x, 0, 2));
    for (int none : new int[] {3, -1, 14, 16, Integer.MAX_VALUE, Integer.MIN_VALUE}) {
      check.dueThrows("length of person " + none, Check.INDEX, () -> x.initials(0, none, -1));
      check.dueThrows("character of person " + none, Check.INDEX, () -> x.initials(0, none, 0));
    }
    CiteLists y = with("");
    check.dueThrows("person 0 of none", Check.INDEX, () -> y.initials(0, 0, -1));
  }

  private static void initialsCharacters() {
    check.sentence("Character i of the initials ..; i = -1: how many characters ..;"
        + " IndexOutOfBoundsException when there is no such .. character");
    CiteLists x = with("D E F and G");
    check.due("how many", 5, x.initials(0, 0, -1));
    check.due("character 0", (int) 'D', x.initials(0, 0, 0));
    check.due("character 1", (int) '.', x.initials(0, 0, 1));
    check.due("character 2", (int) ' ', x.initials(0, 0, 2));
    check.due("character 4", (int) '.', x.initials(0, 0, 4));
    check.due("how many of none", 0, x.initials(0, 1, -1));
    for (int none : new int[] {5, -2, Integer.MAX_VALUE, Integer.MIN_VALUE}) {
      check.dueThrows("character " + none, Check.INDEX, () -> x.initials(0, 0, none));
    }
    check.dueThrows("character 0 of none", Check.INDEX, () -> x.initials(0, 1, 0));
    CiteLists y = with("\u00ff" + "x, \u00ffy");
    check.due("a character above 127", 255, y.initials(0, 0, 0));
  }

  private static void initialsAsItIsNow() {
    check.sentence("a person of an entry, as it is now");
    CiteLists x = with("A B");
    x.run();
    Check.put(x, 0, Check.AUTHOR, "b Cd");
    check.due("after more characters", "A. B.", Check.initials(x, 0, 0));
    Check.put(x, 0, Check.AUTHOR, " and X Y");
    check.due("a new person", "X.", Check.initials(x, 0, 1));
    int notCited = x.entry(0);
    check.dueThrows("of one without AUTHOR", Check.INDEX, () -> x.initials(notCited, 0, -1));
    x.cross(notCited, 0);
    check.due("of one that is crossed and not cited", "X.", Check.initials(x, notCited, 1));
  }

  private static String sorted(String... authors) {
    CiteLists x = new CiteLists();
    for (String author : authors) {
      Check.cited(x, 4, Check.AUTHOR, author);
    }
    x.style(1, 0);
    return Check.rows(x, x.run());
  }

  private static void orderOfParts() {
    check.sentence("Entries are in order by persons: the first one's family (words with a blank"
        + " between, folded), given, particle likewise");
    check.due("family before given", "1 0", sorted("B, A", "A, B"));
    check.due("given before particle", "1 0", sorted("c X, B", "d X, A"));
    check.due("particle at last", "1 0", sorted("d X, A", "c X, A"));
    check.due("no family first", "1 0", sorted("A", ", Z"));
    check.due("no given first", "1 0", sorted("X, A", "z X"));
    check.due("no particle first", "1 0", sorted("a X, A", "X, A"));
    check.due("a blank between words", "1 0", sorted("AB, X", "A B, X"));
    check.due("whole given words, not initials", "1 0", sorted("X, Ab", "X, Aa"));
    check.due("the second given word", "1 0", sorted("X, A C", "X, A B"));
    check.due("the second particle", "1 0", sorted("d f X, A", "d e X, A"));
    check.due("alike however written", "0 1 2", sorted("G d X", "d X, G", "d x,  g"));
    check.due("given of the first before the next one's family", "1 0",
        sorted("X, B and A", "X, A and B"));
    check.due("a particle's beginning before any next one", "1 0",
        sorted("db X, G", "d X, G and Z"));
    check.due("a given's beginning before any particle", "1 0", sorted("X, Ab", "z X, A"));
    check.due("a family's beginning before any given", "1 0", sorted("Xb, A", "X, Z"));
    check.due("particle of the first before the next one's family", "1 0",
        sorted("d X, G and A", "c X, G and B"));
  }

  private static void orderOfPersons() {
    check.sentence("then the next one's; who has fewer comes first");
    check.due("the next one's family", "1 0", sorted("A and C", "A and B"));
    check.due("the next one's given", "1 0", sorted("A and X, C", "A and X, B"));
    check.due("the next one's particle", "1 0", sorted("A and d X, G", "A and c X, G"));
    check.due("the third one's", "1 0", sorted("A and B and D", "A and B and C"));
    check.due("none before one", "1 0", sorted(", A", "and"));
    check.due("one before two", "1 0", sorted("A and , B", "A"));
    check.due("two before three", "1 0", sorted("A and B and !", "A and B"));
    check.due("fewer only where all are alike", "1 0", sorted("B", "A and Z"));
    check.due("those without words do not count", "0 1", sorted("A and and B", "A and B"));
  }
}
