import java.util.NoSuchElementException;

/** Lists of what was cited; ../shared/DOC.md says what each call promises. */
public final class CiteLists {
  private static final int MOST_ENTRIES = 24;
  private static final int MOST_CITES = 60;
  private static final int KINDS = 5;
  private static final int FIELDS = 8;
  private static final int STYLES = 3;

  private static final int ARTICLE = 0;
  private static final int PAPER = 2;

  private static final int AUTHOR = 0;
  private static final int TITLE = 1;
  private static final int YEAR = 2;
  private static final int PAGES = 5;
  private static final int BOOKTITLE = 6;

  private static final int KEY_ROOM = 16;
  private static final int FIELD_ROOM = 80;
  // A word and what parts it from the next one take two characters at least.
  private static final int MOST_WORDS = FIELD_ROOM / 2;
  // 14 persons fill a field: a letter each and " and " between them.
  private static final int MOST_PERSONS = 16;
  // Each given word gives a character, a point and a blank.
  private static final int INITIALS_ROOM = 3 * MOST_WORDS;
  // AUTHOR, YEAR and TITLE, and the marks behind their parts.
  private static final int ORDER_ROOM = 3 * FIELD_ROOM + 3 * MOST_PERSONS + 2;
  // Initials, a name and a year, and the few signs round them.
  private static final int BASE_ROOM = INITIALS_ROOM + 2 * FIELD_ROOM + 20;
  // A base, persons with initials and four more fields, and the signs round them.
  private static final int TEXT_ROOM = BASE_ROOM + INITIALS_ROOM + 5 * FIELD_ROOM + 50;

  // Both marks come before all characters, so that a text comes before a longer one
  // that it begins; the end of all persons comes before the parts of a further one.
  private static final char END = 0;
  private static final char PART_END = 1;

  private static final int FIRST_ACCENTED = 192;
  private static final String FOLDED_ACCENTED =
      "aaaaaaaceeeeiiiidnooooo\u00d7ouuuuytsaaaaaaaceeeeiiiidnooooo\u00f7ouuuuyty";

  private static final int MOST_NEEDED = 4;
  private static final int NONE = -1;
  // Four places for each kind.
  private static final int[] NEEDED_FIELDS = {
    0, 1, 2, 3,
    0, 1, 2, 4,
    0, 1, 2, 6,
    1, 2, -1, -1,
    1, -1, -1, -1
  };
  // For each kind the field that says where it stands or came out: JOURNAL, PUBLISHER,
  // BOOKTITLE, PUBLISHER, NOTE.
  private static final int[] PLACE_FIELDS = {3, 4, 6, 4, 7};

  private final Entry[] entries = new Entry[MOST_ENTRIES];
  private final Row[] rowsOfEntries = new Row[MOST_ENTRIES];
  private int entryCount;
  private final int[] cites = new int[MOST_CITES];
  private int citeCount;
  private int sorting;
  private int labelling;

  private boolean hasRun;
  private final Row[] rows = new Row[MOST_ENTRIES];
  private int rowCount;
  private final int[] missingEntries = new int[MOST_ENTRIES * MOST_NEEDED];
  private final int[] missingFields = new int[MOST_ENTRIES * MOST_NEEDED];
  private int missingCount;

  private final Text printed = new Text(TEXT_ROOM);
  private final Persons askedPersons = new Persons();
  private final Text askedInitials = new Text(INITIALS_ROOM);

  public CiteLists() {
  }

  public int entry(int kind) throws UnsupportedOperationException {
    if (entryCount >= MOST_ENTRIES) {
      throw new UnsupportedOperationException("no more entries");
    }
    int number = entryCount;
    Entry made = new Entry(number, kind >= 0 && kind < KINDS ? kind : KINDS - 1);
    entries[number] = made;
    rowsOfEntries[number] = new Row(made);
    entryCount++;
    return number;
  }

  public void key(int entry, int c)
      throws NoSuchElementException, IllegalArgumentException, UnsupportedOperationException {
    Entry found = findEntry(entry);
    if (found == null) {
      throw new NoSuchElementException("no such entry");
    }
    addBytes(found.keyText, c);
  }

  public void field(int entry, int name, int c)
      throws NoSuchElementException, IndexOutOfBoundsException, IllegalArgumentException,
          UnsupportedOperationException {
    Entry found = findEntry(entry);
    if (found == null) {
      throw new NoSuchElementException("no such entry");
    }
    if (name < 0 || name >= FIELDS) {
      throw new IndexOutOfBoundsException("no such field");
    }
    addBytes(found.own(name), c);
  }

  public int cite(int entry) throws NoSuchElementException, UnsupportedOperationException {
    if (findEntry(entry) == null) {
      throw new NoSuchElementException("no such entry");
    }
    if (citeCount >= MOST_CITES) {
      throw new UnsupportedOperationException("no more cites");
    }
    cites[citeCount] = entry;
    citeCount++;
    return citeCount;
  }

  public int cross(int entry, int other) throws NoSuchElementException {
    Entry from = findEntry(entry);
    Entry to = findEntry(other);
    if (from == null || to == null) {
      throw new NoSuchElementException("no such entry");
    }
    if (to.leadsTo(from)) {
      return 0;
    }
    from.crossedTo = to;
    return 1;
  }

  public int style(int sort, int label) throws IllegalArgumentException {
    if (sort < 0 || sort >= STYLES || label < 0 || label >= STYLES) {
      throw new IllegalArgumentException("no such style");
    }
    int before = 10 * sorting + labelling;
    sorting = sort;
    labelling = label;
    return before;
  }

  public int run() {
    collectRows();
    if (sorting != 0) {
      sortRows();
    }
    writeBases();
    giveLetters();
    for (int i = 0; i < rowCount; i++) {
      rows[i].writeText(labelling, i + 1);
    }
    listMissing();
    hasRun = true;
    return rowCount;
  }

  public int row(int i) throws IndexOutOfBoundsException {
    if (i < 0 || i >= rowCount) {
      throw new IndexOutOfBoundsException("no such row");
    }
    return rows[i].source.number;
  }

  public int letter(int i) throws IndexOutOfBoundsException {
    if (i < 0 || i >= rowCount) {
      throw new IndexOutOfBoundsException("no such row");
    }
    return rows[i].letterNumber;
  }

  public int initials(int entry, int person, int i)
      throws NoSuchElementException, IndexOutOfBoundsException {
    Entry found = findEntry(entry);
    if (found == null) {
      throw new NoSuchElementException("no such entry");
    }
    askedPersons.read(found.value(AUTHOR));
    if (person < 0 || person >= askedPersons.count) {
      throw new IndexOutOfBoundsException("no such person");
    }
    askedInitials.clear();
    askedPersons.addInitials(person, askedInitials);
    if (i == -1) {
      return askedInitials.size();
    }
    if (i < 0 || i >= askedInitials.size()) {
      throw new IndexOutOfBoundsException("no such character");
    }
    return askedInitials.charOf(i);
  }

  public int missing(int i, int what) throws IndexOutOfBoundsException {
    if (i == -1) {
      return missingCount;
    }
    if (i < 0 || i >= missingCount || what < 0 || what > 1) {
      throw new IndexOutOfBoundsException("nothing missing there");
    }
    return what == 0 ? missingEntries[i] : missingFields[i];
  }

  public int print(int i) throws IndexOutOfBoundsException {
    if (!hasRun || i < -1 || i >= rowCount) {
      throw new IndexOutOfBoundsException("no such row");
    }
    printed.clear();
    if (i == -1) {
      printed.addWritten("References (");
      printed.addNumber(rowCount);
      printed.add(')');
    } else {
      printed.addText(rows[i].text);
    }
    return printed.size();
  }

  public int at(int i) throws IndexOutOfBoundsException {
    if (i < 0 || i >= printed.size()) {
      throw new IndexOutOfBoundsException("no such character");
    }
    return printed.charOf(i);
  }

  public int twice(int i) throws IndexOutOfBoundsException {
    int count = 0;
    for (int number = 0; number < entryCount; number++) {
      if (realOf(number) != number) {
        if (count == i) {
          return number;
        }
        count++;
      }
    }
    if (i != -1) {
      throw new IndexOutOfBoundsException("no such entry");
    }
    return count;
  }

  private Entry findEntry(int number) {
    return number >= 0 && number < entryCount ? entries[number] : null;
  }

  private static boolean isCharacter(int b) {
    return b >= 32 && b <= 126 || b >= FIRST_ACCENTED && b <= 255 && b != 215 && b != 247;
  }

  private static void addBytes(Text text, int bytes) {
    int count = 0;
    for (int shift = 0; shift < 32; shift += 8) {
      int b = bytes >>> shift & 255;
      if (b != 0) {
        if (!isCharacter(b)) {
          throw new IllegalArgumentException("no character");
        }
        count++;
      }
    }
    if (count > text.room()) {
      throw new UnsupportedOperationException("too many characters");
    }
    for (int shift = 0; shift < 32; shift += 8) {
      int b = bytes >>> shift & 255;
      if (b != 0) {
        text.add((char) b);
      }
    }
  }

  private int realOf(int number) {
    Text key = entries[number].keyText;
    if (!key.isEmpty()) {
      for (int i = 0; i < number; i++) {
        if (entries[i].keyText.sameAs(key)) {
          return i;
        }
      }
    }
    return number;
  }

  private void collectRows() {
    rowCount = 0;
    for (int i = 0; i < citeCount; i++) {
      Row row = rowsOfEntries[realOf(cites[i])];
      if (!isListed(row)) {
        row.readPersons();
        rows[rowCount] = row;
        rowCount++;
      }
    }
  }

  private boolean isListed(Row row) {
    for (int i = 0; i < rowCount; i++) {
      if (rows[i] == row) {
        return true;
      }
    }
    return false;
  }

  private void sortRows() {
    for (int i = 0; i < rowCount; i++) {
      rows[i].writeOrder(sorting);
    }
    for (int i = 1; i < rowCount; i++) {
      Row moved = rows[i];
      int to = i;
      while (to > 0 && rows[to - 1].order.comesAfter(moved.order)) {
        rows[to] = rows[to - 1];
        to--;
      }
      rows[to] = moved;
    }
  }

  private void writeBases() {
    for (int i = 0; i < rowCount; i++) {
      Row row = rows[i];
      row.base.clear();
      if (labelling == 1) {
        row.writeShortBase();
      } else if (labelling == 2) {
        row.writeLongBase(needsInitials(row));
      }
    }
  }

  private boolean needsInitials(Row row) {
    for (int i = 0; i < rowCount; i++) {
      if (rows[i] != row && row.differsByInitials(rows[i])) {
        return true;
      }
    }
    return false;
  }

  private void giveLetters() {
    for (int i = 0; i < rowCount; i++) {
      rows[i].letterNumber = 0;
      Row alike = lastAlikeBefore(i);
      if (alike != null) {
        if (alike.letterNumber == 0) {
          alike.letterNumber = 1;
        }
        rows[i].letterNumber = alike.letterNumber + 1;
      }
    }
  }

  private Row lastAlikeBefore(int i) {
    Text base = rows[i].base;
    if (!base.isEmpty()) {
      for (int j = i - 1; j >= 0; j--) {
        if (rows[j].base.sameAs(base)) {
          return rows[j];
        }
      }
    }
    return null;
  }

  private void listMissing() {
    missingCount = 0;
    for (int i = 0; i < rowCount; i++) {
      Entry source = rows[i].source;
      for (int j = 0; j < MOST_NEEDED; j++) {
        int name = NEEDED_FIELDS[source.kind * MOST_NEEDED + j];
        if (name != NONE && source.value(name).isEmpty()) {
          missingEntries[missingCount] = source.number;
          missingFields[missingCount] = name;
          missingCount++;
        }
      }
    }
  }

  /** Characters in a room of their own, so that no call has to make a new text. */
  private static final class Text {
    private final char[] chars;
    private int length;

    Text(int room) {
      chars = new char[Math.max(room, 0)];
    }

    int size() {
      return length;
    }

    boolean isEmpty() {
      return length == 0;
    }

    int room() {
      return chars.length - length;
    }

    char charOf(int i) {
      return i >= 0 && i < length ? chars[i] : END;
    }

    void clear() {
      length = 0;
    }

    void add(char c) {
      if (length < chars.length) {
        chars[length] = c;
        length++;
      }
    }

    void addText(Text other) {
      addPart(other, 0, other.length);
    }

    void addPart(Text other, int from, int to) {
      int amount = Math.min(Math.min(to, other.length) - from, chars.length - length);
      if (from >= 0 && amount > 0) {
        System.arraycopy(other.chars, from, chars, length, amount);
        length += amount;
      }
    }

    void addWritten(String written) {
      for (int i = 0; i < written.length(); i++) {
        add(written.charAt(i));
      }
    }

    /** Numbers of rows have two digits at most. */
    void addNumber(int number) {
      if (number >= 10) {
        add((char) ('0' + number / 10 % 10));
      }
      add((char) ('0' + number % 10));
    }

    void cutTo(int most) {
      if (most >= 0 && length > most) {
        length = most;
      }
    }

    void fold() {
      for (int i = 0; i < length; i++) {
        chars[i] = folded(chars[i]);
      }
    }

    private static char folded(char c) {
      if (c >= 'A' && c <= 'Z') {
        return (char) (c - 'A' + 'a');
      }
      int accented = c - FIRST_ACCENTED;
      if (accented >= 0 && accented < FOLDED_ACCENTED.length()) {
        return FOLDED_ACCENTED.charAt(accented);
      }
      return c;
    }

    boolean sameAs(Text other) {
      if (length != other.length) {
        return false;
      }
      for (int i = 0; i < length; i++) {
        if (chars[i] != other.chars[i]) {
          return false;
        }
      }
      return true;
    }

    boolean comesAfter(Text other) {
      int shared = Math.min(length, other.length);
      for (int i = 0; i < shared; i++) {
        if (chars[i] != other.chars[i]) {
          return chars[i] > other.chars[i];
        }
      }
      return length > other.length;
    }
  }

  /** What is known of one entry. */
  private static final class Entry {
    final int number;
    final int kind;
    final Text keyText = new Text(KEY_ROOM);
    private final Text[] fields = new Text[FIELDS];
    Entry crossedTo;

    Entry(int number, int kind) {
      this.number = number;
      this.kind = kind;
      for (int i = 0; i < FIELDS; i++) {
        fields[i] = new Text(FIELD_ROOM);
      }
    }

    Text own(int name) {
      return fields[name];
    }

    Text value(int name) {
      Text found = fields[name];
      Entry other = name == TITLE ? null : crossedTo;
      for (int step = 0; step < MOST_ENTRIES && other != null && found.isEmpty(); step++) {
        if (name == BOOKTITLE) {
          found = other.fields[TITLE];
        }
        if (found.isEmpty()) {
          found = other.fields[name];
        }
        other = other.crossedTo;
      }
      return found;
    }

    boolean leadsTo(Entry end) {
      Entry reached = this;
      for (int step = 0; step < MOST_ENTRIES && reached != null; step++) {
        if (reached == end) {
          return true;
        }
        reached = reached.crossedTo;
      }
      return false;
    }
  }

  /** Which words are whose part: the name is the particles and, right behind, the family. */
  private static final class Person {
    int particlesFrom;
    int familyFrom;
    int nameTo;
    int givenFrom;
    int givenTo;
  }

  /** The persons that a text names. */
  private static final class Persons {
    int count;
    private Text source = new Text(0);
    private final Person[] persons = new Person[MOST_PERSONS];
    private final int[] wordFrom = new int[MOST_WORDS];
    private final int[] wordTo = new int[MOST_WORDS];
    private int wordCount;
    private int firstWord;
    // The first word behind the first comma of the person that is read, or NONE.
    private int wordBehindComma;

    Persons() {
      for (int i = 0; i < MOST_PERSONS; i++) {
        persons[i] = new Person();
      }
    }

    void read(Text text) {
      source = text;
      count = 0;
      wordCount = 0;
      beginPerson();
      int from = 0;
      for (int i = 0; i <= text.size(); i++) {
        if (i == text.size() || text.charOf(i) == ' ') {
          readBetweenBlanks(from, i);
          from = i + 1;
        }
      }
      endPerson();
    }

    private void readBetweenBlanks(int from, int to) {
      if (isAnd(from, to)) {
        endPerson();
        beginPerson();
        return;
      }
      int start = from;
      for (int i = from; i < to; i++) {
        if (source.charOf(i) == ',') {
          addWord(start, i);
          start = i + 1;
          if (wordBehindComma == NONE) {
            wordBehindComma = wordCount;
          }
        }
      }
      addWord(start, to);
    }

    private boolean isAnd(int from, int to) {
      return to - from == 3
          && source.charOf(from) == 'a'
          && source.charOf(from + 1) == 'n'
          && source.charOf(from + 2) == 'd';
    }

    private void addWord(int from, int to) {
      if (from < to && wordCount < MOST_WORDS) {
        wordFrom[wordCount] = from;
        wordTo[wordCount] = to;
        wordCount++;
      }
    }

    private void beginPerson() {
      firstWord = wordCount;
      wordBehindComma = NONE;
    }

    private void endPerson() {
      if (firstWord == wordCount || count >= MOST_PERSONS) {
        return;
      }
      if (wordBehindComma == NONE) {
        partWithoutComma(persons[count]);
      } else {
        partAtComma(persons[count]);
      }
      count++;
    }

    private void partAtComma(Person person) {
      int family = firstWord;
      while (family < wordBehindComma - 1 && beginsSmall(family)) {
        family++;
      }
      person.particlesFrom = firstWord;
      person.familyFrom = family;
      person.nameTo = wordBehindComma;
      person.givenFrom = wordBehindComma;
      person.givenTo = wordCount;
    }

    private void partWithoutComma(Person person) {
      int last = wordCount - 1;
      int particles = last;
      int family = last;
      for (int word = last - 1; word >= firstWord; word--) {
        if (beginsSmall(word)) {
          if (particles == last) {
            family = word + 1;
          }
          particles = word;
        }
      }
      person.particlesFrom = particles;
      person.familyFrom = family;
      person.nameTo = wordCount;
      person.givenFrom = firstWord;
      person.givenTo = particles;
    }

    private boolean beginsSmall(int word) {
      char c = source.charOf(wordFrom[word]);
      return c >= 'a' && c <= 'z' || c > 222;
    }

    boolean hasGiven(int i) {
      return persons[i].givenFrom < persons[i].givenTo;
    }

    void addName(int i, Text to) {
      addWords(persons[i].particlesFrom, persons[i].nameTo, to);
    }

    void addFamily(int i, Text to) {
      addWords(persons[i].familyFrom, persons[i].nameTo, to);
    }

    void addInitials(int i, Text to) {
      Person person = persons[i];
      for (int word = person.givenFrom; word < person.givenTo; word++) {
        if (word > person.givenFrom) {
          to.add(' ');
        }
        to.add(source.charOf(wordFrom[word]));
        to.add('.');
      }
    }

    void addPerson(int i, Text to) {
      addWords(persons[i].particlesFrom, persons[i].nameTo, to);
      if (hasGiven(i)) {
        to.addWritten(", ");
        addInitials(i, to);
      }
    }

    void addFirstOfFamily(int i, Text to) {
      if (persons[i].familyFrom < persons[i].nameTo) {
        to.add(source.charOf(wordFrom[persons[i].familyFrom]));
      }
    }

    /** What the order by persons looks at. */
    void addOrder(Text to) {
      for (int i = 0; i < count; i++) {
        Person person = persons[i];
        addWords(person.familyFrom, person.nameTo, to);
        to.add(PART_END);
        addWords(person.givenFrom, person.givenTo, to);
        to.add(PART_END);
        addWords(person.particlesFrom, person.familyFrom, to);
        to.add(PART_END);
      }
    }

    private void addWords(int from, int end, Text to) {
      for (int word = from; word < end; word++) {
        if (word > from) {
          to.add(' ');
        }
        to.addPart(source, wordFrom[word], wordTo[word]);
      }
    }
  }

  /** What a run tells of one entry; it stays until the next run. */
  private static final class Row {
    private static final int MOST_TOLD = 3;
    private static final int MOST_IN_SHORT_BASE = 4;
    private static final int SHORT_BASE = 3;

    final Entry source;
    final Text order = new Text(ORDER_ROOM);
    final Text base = new Text(BASE_ROOM);
    final Text text = new Text(TEXT_ROOM);
    int letterNumber;
    private final Persons persons = new Persons();
    private final Text firstFamily = new Text(FIELD_ROOM);
    private final Text firstInitials = new Text(INITIALS_ROOM);
    private int pieces;

    Row(Entry source) {
      this.source = source;
    }

    void readPersons() {
      persons.read(source.value(AUTHOR));
      firstFamily.clear();
      firstInitials.clear();
      if (persons.count > 0) {
        persons.addFamily(0, firstFamily);
        firstFamily.fold();
        persons.addInitials(0, firstInitials);
      }
    }

    /** All that the rows are in order by, in one folded text. */
    void writeOrder(int sort) {
      order.clear();
      if (sort == 1) {
        persons.addOrder(order);
        order.add(END);
        order.addText(source.value(YEAR));
      } else {
        order.addText(source.value(YEAR));
        order.add(END);
        persons.addOrder(order);
      }
      order.add(END);
      order.addText(source.value(TITLE));
      order.fold();
    }

    boolean differsByInitials(Row other) {
      return persons.count > 0
          && persons.hasGiven(0)
          && other.persons.count > 0
          && firstFamily.sameAs(other.firstFamily)
          && !firstInitials.sameAs(other.firstInitials);
    }

    void writeShortBase() {
      if (persons.count == 0) {
        base.addText(source.keyText);
        base.cutTo(SHORT_BASE);
      } else if (persons.count == 1) {
        persons.addFamily(0, base);
        base.cutTo(SHORT_BASE);
      } else {
        for (int i = 0; i < persons.count && i < MOST_IN_SHORT_BASE; i++) {
          persons.addFirstOfFamily(i, base);
        }
        if (persons.count > MOST_IN_SHORT_BASE) {
          base.add('+');
        }
      }
      Text year = source.value(YEAR);
      base.addPart(year, Math.max(year.size() - 2, 0), year.size());
    }

    void writeLongBase(boolean withInitials) {
      if (persons.count == 0) {
        base.addText(source.keyText);
      } else {
        if (withInitials) {
          base.addText(firstInitials);
          base.add(' ');
        }
        persons.addName(0, base);
        if (persons.count == 2) {
          base.addWritten(" and ");
          persons.addName(1, base);
        } else if (persons.count > 2) {
          base.addWritten(" et al.");
        }
      }
      Text year = source.value(YEAR);
      if (!year.isEmpty()) {
        base.add(' ');
        base.addText(year);
      }
    }

    void writeText(int label, int place) {
      text.clear();
      text.add(label == 2 ? '(' : '[');
      if (label == 0) {
        text.addNumber(place);
      } else {
        text.addText(base);
        if (letterNumber > 0) {
          text.add((char) ('a' + letterNumber - 1));
        }
      }
      text.add(label == 2 ? ')' : ']');
      pieces = 0;
      addPersons();
      addField(TITLE);
      addPlace();
      addField(YEAR);
      if (pieces > 0) {
        text.add('.');
      }
    }

    private void beginPiece() {
      text.addWritten(pieces == 0 ? " " : ". ");
      pieces++;
    }

    private void addPersons() {
      if (persons.count == 0) {
        return;
      }
      beginPiece();
      persons.addPerson(0, text);
      if (persons.count > MOST_TOLD) {
        text.addWritten(" et al.");
        return;
      }
      for (int i = 1; i < persons.count; i++) {
        text.addWritten(i == persons.count - 1 ? " and " : ", ");
        persons.addPerson(i, text);
      }
    }

    private void addField(int name) {
      Text value = source.value(name);
      if (!value.isEmpty()) {
        beginPiece();
        text.addText(value);
      }
    }

    /** Where it stands or came out: the piece that each kind has of its own. */
    private void addPlace() {
      Text place = source.value(PLACE_FIELDS[source.kind]);
      if (place.isEmpty()) {
        return;
      }
      beginPiece();
      if (source.kind == PAPER) {
        text.addWritten("In: ");
      }
      text.addText(place);
      Text pages = source.value(PAGES);
      if (!pages.isEmpty() && (source.kind == ARTICLE || source.kind == PAPER)) {
        text.addWritten(source.kind == PAPER ? ", pp. " : ", ");
        text.addText(pages);
      }
    }
  }
}
