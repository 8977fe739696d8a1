import java.util.ArrayList;
import java.util.LinkedHashSet;
import java.util.List;
import java.util.NoSuchElementException;

/** The document once more, written plainly with the library's texts and lists, to compare with. */
final class Model {
  private static final class Item {
    int kind;
    String key = "";
    String[] fields = {"", "", "", "", "", "", "", ""};
    int crossed = -1;
  }

  private record Person(List<String> given, List<String> particles, List<String> family) {
    String name() {
      List<String> words = new ArrayList<>(particles);
      words.addAll(family);
      return String.join(" ", words);
    }

    String initials() {
      List<String> parts = new ArrayList<>();
      for (String word : given) {
        parts.add(word.charAt(0) + ".");
      }
      return String.join(" ", parts);
    }

    String foldedFamily() {
      return fold(String.join(" ", family));
    }
  }

  private final List<Item> items = new ArrayList<>();
  private final List<Integer> cites = new ArrayList<>();
  private int sort;
  private int label;
  private boolean hasRun;
  private List<Integer> rows = new ArrayList<>();
  private List<Integer> letters = new ArrayList<>();
  private List<String> texts = new ArrayList<>();
  private List<int[]> missing = new ArrayList<>();
  private String printed = "";

  int entry(int kind) {
    if (items.size() == 24) {
      throw new UnsupportedOperationException();
    }
    Item item = new Item();
    item.kind = kind == 0 || kind == 1 || kind == 2 || kind == 3 ? kind : 4;
    items.add(item);
    return items.size() - 1;
  }

  void key(int entry, int c) {
    Item item = item(entry);
    String more = characters(c);
    if ((item.key + more).length() > 16) {
      throw new UnsupportedOperationException();
    }
    item.key += more;
  }

  void field(int entry, int name, int c) {
    Item item = item(entry);
    if (name < 0 || name > 7) {
      throw new IndexOutOfBoundsException();
    }
    String more = characters(c);
    if ((item.fields[name] + more).length() > 80) {
      throw new UnsupportedOperationException();
    }
    item.fields[name] += more;
  }

  int cite(int entry) {
    item(entry);
    if (cites.size() == 60) {
      throw new UnsupportedOperationException();
    }
    cites.add(entry);
    return cites.size();
  }

  int cross(int entry, int other) {
    item(entry);
    item(other);
    for (int on = other; on >= 0; on = items.get(on).crossed) {
      if (on == entry) {
        return 0;
      }
    }
    items.get(entry).crossed = other;
    return 1;
  }

  int style(int newSort, int newLabel) {
    if (newSort < 0 || newSort > 2 || newLabel < 0 || newLabel > 2) {
      throw new IllegalArgumentException();
    }
    int before = 10 * sort + label;
    sort = newSort;
    label = newLabel;
    return before;
  }

  int run() {
    LinkedHashSet<Integer> real = new LinkedHashSet<>();
    for (int cited : cites) {
      real.add(realOne(cited));
    }
    rows = new ArrayList<>(real);
    if (sort != 0) {
      rows.sort(this::compareRows);
    }
    List<String> bases = new ArrayList<>();
    for (int row : rows) {
      bases.add(base(row));
    }
    letters = new ArrayList<>();
    texts = new ArrayList<>();
    missing = new ArrayList<>();
    for (int i = 0; i < rows.size(); i++) {
      letters.add(letterOf(bases, i));
      texts.add(text(i, bases.get(i)));
      addMissing(rows.get(i));
    }
    hasRun = true;
    return rows.size();
  }

  int row(int i) {
    return of(rows, i);
  }

  int letter(int i) {
    return of(letters, i);
  }

  int initials(int entry, int person, int i) {
    item(entry);
    String text = of(persons(entry), person).initials();
    return i == -1 ? text.length() : charOf(text, i);
  }

  int missing(int i, int what) {
    if (i == -1) {
      return missing.size();
    }
    int[] one = of(missing, i);
    if (what < 0 || what > 1) {
      throw new IndexOutOfBoundsException();
    }
    return one[what];
  }

  int print(int i) {
    if (!hasRun) {
      throw new IndexOutOfBoundsException();
    }
    printed = i == -1 ? "References (" + rows.size() + ")" : of(texts, i);
    return printed.length();
  }

  int at(int i) {
    return charOf(printed, i);
  }

  int printedLength() {
    return printed.length();
  }

  int twice(int i) {
    List<Integer> found = new ArrayList<>();
    for (int entry = 0; entry < items.size(); entry++) {
      if (realOne(entry) != entry) {
        found.add(entry);
      }
    }
    return i == -1 ? found.size() : of(found, i);
  }

  private Item item(int entry) {
    if (entry < 0 || entry >= items.size()) {
      throw new NoSuchElementException();
    }
    return items.get(entry);
  }

  private static <T> T of(List<T> list, int i) {
    if (i < 0 || i >= list.size()) {
      throw new IndexOutOfBoundsException();
    }
    return list.get(i);
  }

  private static int charOf(String text, int i) {
    if (i < 0 || i >= text.length()) {
      throw new IndexOutOfBoundsException();
    }
    return text.charAt(i);
  }

  private static String characters(int c) {
    StringBuilder text = new StringBuilder();
    for (int left = c, i = 0; i < 4; i++, left >>>= 8) {
      int b = left & 0xff;
      if (b == 0) {
        continue;
      }
      if (b < 32 || b > 126 && b < 192 || b == 215 || b == 247) {
        throw new IllegalArgumentException();
      }
      text.append((char) b);
    }
    return text.toString();
  }

  private static boolean in(int c, int from, int to) {
    return c >= from && c <= to;
  }

  private static String fold(String text) {
    StringBuilder folded = new StringBuilder();
    for (char c : text.toCharArray()) {
      folded.append(in(c, 'A', 'Z') ? (char) (c + 32)
          : in(c, 192, 198) || in(c, 224, 230) ? 'a'
          : c == 199 || c == 231 ? 'c'
          : c == 208 || c == 240 ? 'd'
          : in(c, 200, 203) || in(c, 232, 235) ? 'e'
          : in(c, 204, 207) || in(c, 236, 239) ? 'i'
          : c == 209 || c == 241 ? 'n'
          : in(c, 210, 214) || c == 216 || in(c, 242, 246) || c == 248 ? 'o'
          : c == 223 ? 's'
          : c == 222 || c == 254 ? 't'
          : in(c, 217, 220) || in(c, 249, 252) ? 'u'
          : c == 221 || c == 253 || c == 255 ? 'y' : c);
    }
    return folded.toString();
  }

  private String value(int entry, int name) {
    Item item = items.get(entry);
    if (!item.fields[name].isEmpty() || item.crossed < 0 || name == Check.TITLE) {
      return item.fields[name];
    }
    String title = items.get(item.crossed).fields[Check.TITLE];
    return name == Check.BOOKTITLE && !title.isEmpty() ? title : value(item.crossed, name);
  }

  private int realOne(int entry) {
    String key = items.get(entry).key;
    for (int i = 0; i < items.size() && !key.isEmpty(); i++) {
      if (items.get(i).key.equals(key)) {
        return i;
      }
    }
    return entry;
  }

  private List<Person> persons(int entry) {
    List<Person> persons = new ArrayList<>();
    StringBuilder one = new StringBuilder();
    for (String word : (value(entry, Check.AUTHOR) + " and").split(" ")) {
      if (word.equals("and")) {
        Person person = person(one.toString());
        if (person != null) {
          persons.add(person);
        }
        one.setLength(0);
      } else {
        one.append(' ').append(word);
      }
    }
    return persons;
  }

  private static List<String> words(String text) {
    List<String> words = new ArrayList<>();
    for (String word : text.split("[ ,]+")) {
      if (!word.isEmpty()) {
        words.add(word);
      }
    }
    return words;
  }

  private static boolean small(String word) {
    return in(word.charAt(0), 'a', 'z') || word.charAt(0) > 222;
  }

  private static Person person(String text) {
    List<String> all = words(text);
    if (all.isEmpty()) {
      return null;
    }
    int comma = text.indexOf(',');
    if (comma >= 0) {
      List<String> before = words(text.substring(0, comma));
      int family = 0;
      while (family + 1 < before.size() && small(before.get(family))) {
        family++;
      }
      return new Person(words(text.substring(comma)), before.subList(0, family),
          before.subList(family, before.size()));
    }
    int first = -1;
    int last = -1;
    for (int i = 0; i + 1 < all.size(); i++) {
      if (small(all.get(i))) {
        first = first < 0 ? i : first;
        last = i;
      }
    }
    if (first < 0) {
      int end = all.size() - 1;
      return new Person(all.subList(0, end), List.of(), all.subList(end, end + 1));
    }
    return new Person(all.subList(0, first), all.subList(first, last + 1),
        all.subList(last + 1, all.size()));
  }

  private int compareRows(int a, int b) {
    int byPersons = comparePersons(persons(a), persons(b));
    int byYear = fold(value(a, Check.YEAR)).compareTo(fold(value(b, Check.YEAR)));
    int byTitle = fold(value(a, Check.TITLE)).compareTo(fold(value(b, Check.TITLE)));
    int first = sort == 1 ? byPersons : byYear;
    int second = sort == 1 ? byYear : byPersons;
    return first != 0 ? first : second != 0 ? second : byTitle;
  }

  private static int comparePersons(List<Person> a, List<Person> b) {
    for (int i = 0; i < a.size() && i < b.size(); i++) {
      int by = a.get(i).foldedFamily().compareTo(b.get(i).foldedFamily());
      by = by != 0 ? by : compareWords(a.get(i).given(), b.get(i).given());
      by = by != 0 ? by : compareWords(a.get(i).particles(), b.get(i).particles());
      if (by != 0) {
        return by;
      }
    }
    return a.size() - b.size();
  }

  private static int compareWords(List<String> a, List<String> b) {
    return fold(String.join(" ", a)).compareTo(fold(String.join(" ", b)));
  }

  private String base(int row) {
    String year = value(row, Check.YEAR);
    if (label == 1) {
      return shortBase(row) + year.substring(Math.max(0, year.length() - 2));
    }
    return label == 0 ? "" : longBase(row) + (year.isEmpty() ? "" : " " + year);
  }

  private static String firstThree(String text) {
    return text.substring(0, Math.min(3, text.length()));
  }

  private String shortBase(int row) {
    List<Person> persons = persons(row);
    if (persons.isEmpty()) {
      return firstThree(items.get(row).key);
    }
    if (persons.size() == 1) {
      return firstThree(String.join(" ", persons.get(0).family()));
    }
    StringBuilder base = new StringBuilder();
    for (Person person : persons.subList(0, Math.min(4, persons.size()))) {
      base.append(person.family().isEmpty() ? "" : person.family().get(0).substring(0, 1));
    }
    return base + (persons.size() > 4 ? "+" : "");
  }

  private String longBase(int row) {
    List<Person> persons = persons(row);
    if (persons.isEmpty()) {
      return items.get(row).key;
    }
    Person first = persons.get(0);
    String base = first.name();
    for (int other : rows) {
      if (other != row && !first.given().isEmpty() && !persons(other).isEmpty()) {
        Person rival = persons(other).get(0);
        if (rival.foldedFamily().equals(first.foldedFamily())
            && !rival.initials().equals(first.initials())) {
          base = first.initials() + " " + first.name();
        }
      }
    }
    return persons.size() == 1 ? base
        : persons.size() == 2 ? base + " and " + persons.get(1).name()
        : base + " et al.";
  }

  private static int letterOf(List<String> bases, int i) {
    int alike = 0;
    int before = 0;
    for (int j = 0; j < bases.size(); j++) {
      if (bases.get(j).equals(bases.get(i))) {
        alike++;
        before += j < i ? 1 : 0;
      }
    }
    return alike > 1 && !bases.get(i).isEmpty() ? before + 1 : 0;
  }

  private String text(int i, String base) {
    String letter = letters.get(i) == 0 ? "" : "" + (char) ('a' + letters.get(i) - 1);
    String head = label == 0 ? "[" + (i + 1) + "]"
        : label == 1 ? "[" + base + letter + "]" : "(" + base + letter + ")";
    int row = rows.get(i);
    List<String> pieces = new ArrayList<>(List.of(personsPiece(persons(row)),
        value(row, Check.TITLE), placePiece(row), value(row, Check.YEAR)));
    pieces.removeIf(String::isEmpty);
    return pieces.isEmpty() ? head : head + " " + String.join(". ", pieces) + ".";
  }

  private static String personsPiece(List<Person> persons) {
    List<String> told = new ArrayList<>();
    for (Person person : persons) {
      told.add(person.name() + (person.given().isEmpty() ? "" : ", " + person.initials()));
    }
    int last = told.size() - 1;
    return last < 0 ? "" : last == 0 ? told.get(0)
        : last > 2 ? told.get(0) + " et al."
        : String.join(", ", told.subList(0, last)) + " and " + told.get(last);
  }

  private String placePiece(int row) {
    String pages = value(row, Check.PAGES);
    String journal = value(row, Check.JOURNAL);
    String booktitle = value(row, Check.BOOKTITLE);
    switch (items.get(row).kind) {
      case 0:
        return journal + (journal.isEmpty() || pages.isEmpty() ? "" : ", " + pages);
      case 2:
        return booktitle.isEmpty() ? ""
            : "In: " + booktitle + (pages.isEmpty() ? "" : ", pp. " + pages);
      case 4:
        return value(row, Check.NOTE);
      default:
        return value(row, Check.PUBLISHER);
    }
  }

  private void addMissing(int row) {
    String[] needed = {"0123", "0124", "0126", "12", "1"};
    for (char name : needed[items.get(row).kind].toCharArray()) {
      if (value(row, name - '0').isEmpty()) {
        missing.add(new int[] {row, name - '0'});
      }
    }
  }
}
