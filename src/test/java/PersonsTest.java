/** Promise 11 and what stands of persons under the terms: words, particles, names, initials. */
public final class PersonsTest {
  private static final Check check = new Check();

  public static void main(String[] args) {
    namesWithoutComma();
    namesWithComma();
    manyPersons();
    noPersons();
    initials();
    mostWords();
    check.end("PersonsTest");
  }

  private static String told(String author) {
    CiteLists x = new CiteLists();
    Check.cited(x, 4, Check.AUTHOR, author);
    x.run();
    String text = Check.printed(x, 0);
    return text.equals("[1]") ? "" : text.substring(4, text.length() - 1);
  }

  private static String family(String author) {
    CiteLists x = new CiteLists();
    Check.cited(x, 4, Check.AUTHOR, author);
    return Check.label(x, 1, 0);
  }

  private static void dueTold(String author, String want) {
    check.due("persons of '" + author + "'", want, told(author));
  }

  private static void namesWithoutComma() {
    dueTold("Knuth", "Knuth");
    dueTold("Donald E. Knuth", "Knuth, D. E.");
    dueTold("  Donald   Knuth  ", "Knuth, D.");
    dueTold("Ludwig van Beethoven", "van Beethoven, L.");
    dueTold("Charles Louis de la Vall\u00e9e Poussin", "de la Vall\u00e9e Poussin, C. L.");
    dueTold("A de B la C D", "de B la C D, A.");
    dueTold("van Beethoven", "van Beethoven");
    dueTold("Ann smith", "smith, A.");
    dueTold("ann smith", "ann smith");
    dueTold("A \u00dfb C", "\u00dfb C, A.");
    dueTold("A \u00deb C", "C, A. \u00de.");
    dueTold("A \u00e9b C", "\u00e9b C, A.");
    dueTold("A {b C", "C, A. {.");
    dueTold("A `b C", "C, A. `.");
    check.due("family behind particles", "C D", family("A de B la C D"));
    check.due("family of a particle and a last word", "Bee", family("L van Beethoven"));
    check.due("small last word", "smi", family("Ann smith"));
  }

  private static void namesWithComma() {
    dueTold("Knuth, Donald E.", "Knuth, D. E.");
    dueTold("van der Berg, Jan", "van der Berg, J.");
    dueTold("van der berg, Jan", "van der berg, J.");
    dueTold("Van der Berg,Jan,junior", "Van der Berg, J. j.");
    dueTold("Berg,", "Berg");
    dueTold(", Jan", ", J.");
    dueTold(",,Jan", ", J.");
    dueTold("van ,Jan", "van, J.");
    dueTold("A,and B", "A, a. B.");
    check.due("family at a comma", "Ber", family("van der Berg, Jan"));
    check.due("family from the first large word", "Van", family("Van der Berg,Jan"));
    check.due("the last word before a comma is family", "ber", family("van der berg, Jan"));
    check.due("no family", "", family(", Jan"));
    check.due("a family with its blanks", "A B", family("A   B  C, Jan"));
  }

  private static void manyPersons() {
    dueTold("A B and C, D", "B, A. and C, D.");
    dueTold("A and B and C", "A, B and C");
    dueTold("A B and C D and E F and G H", "B, A. et al.");
    dueTold("and A and and B and", "A and B");
    dueTold("A And B", "B, A. A.");
    dueTold("A andB", "andB, A.");
    dueTold("A xand B", "xand B, A.");
    dueTold("A, and B", "A and B");
    dueTold("A ,and, B", "A, a. B.");
    dueTold("A and , and B", "A and B");
  }

  private static void noPersons() {
    dueTold("", "");
    dueTold("   ", "");
    dueTold("and", "");
    dueTold(" and and ", "");
    dueTold(", and ,,", "");
  }

  private static void initials() {
    CiteLists x = new CiteLists();
    x.entry(0);
    x.entry(0);
    Check.put(x, 0, Check.AUTHOR, "Donald E. Knuth and Berg and , x \u00e9c");
    check.due("initials of the first", "D. E.", Check.initials(x, 0, 0));
    check.due("initials without given words", "", Check.initials(x, 0, 1));
    check.due("initials behind a comma", "x. \u00e9.", Check.initials(x, 0, 2));
    check.dueThrows("person 3", Check.INDEX, () -> x.initials(0, 3, -1));
    check.dueThrows("person -1", Check.INDEX, () -> x.initials(0, -1, -1));
    check.dueThrows("character 5", Check.INDEX, () -> x.initials(0, 0, 5));
    check.dueThrows("character -2", Check.INDEX, () -> x.initials(0, 0, -2));
    check.dueThrows("character 0 of none", Check.INDEX, () -> x.initials(0, 1, 0));
    check.dueThrows("entry 2", Check.NO_ELEMENT, () -> x.initials(2, 0, -1));
    check.dueThrows("entry -1", Check.NO_ELEMENT, () -> x.initials(-1, 0, -1));
    check.dueThrows("no persons", Check.INDEX, () -> x.initials(1, 0, -1));
    x.cross(1, 0);
    check.due("by the value, without a run", "D. E.", Check.initials(x, 1, 0));
    Check.put(x, 1, Check.AUTHOR, "Zoe Young");
    check.due("as it is now", "Z.", Check.initials(x, 1, 0));
  }

  private static void mostWords() {
    dueTold(",a" + " a".repeat(39), ", a." + " a.".repeat(39));
    String persons = "A" + " and A".repeat(13);
    CiteLists y = new CiteLists();
    Check.cited(y, 4, Check.AUTHOR, persons);
    check.due("the fourteenth person", 0, y.initials(0, 13, -1));
    check.dueThrows("no fifteenth person", Check.INDEX, () -> y.initials(0, 14, -1));
    check.due("a label of fourteen", "AAAA+", Check.label(y, 1, 0));
  }
}
