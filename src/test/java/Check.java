/** What all tests share: counting of wrong answers, and calls written with texts. */
final class Check {
  static final int AUTHOR = 0;
  static final int TITLE = 1;
  static final int YEAR = 2;
  static final int JOURNAL = 3;
  static final int PUBLISHER = 4;
  static final int PAGES = 5;
  static final int BOOKTITLE = 6;
  static final int NOTE = 7;

  static final String NONE = "nothing";
  static final String NO_ELEMENT = "NoSuchElementException";
  static final String INDEX = "IndexOutOfBoundsException";
  static final String ARGUMENT = "IllegalArgumentException";
  static final String UNSUPPORTED = "UnsupportedOperationException";

  private int wrong;
  private String sentence = "";

  /** A call of the face; what it answers is looked at by its caller. */
  interface Call {
    void make();
  }

  /** The document's words that the checks behind this call hold. */
  void sentence(String words) {
    sentence = "\"" + words + "\": ";
  }

  void due(String what, Object want, Object got) {
    if (!want.equals(got)) {
      wrong++;
      System.out.println(sentence + what + " answered " + got + ", due is " + want);
    }
  }

  /** The exception's own class is due, not one below it. */
  void dueThrows(String what, String want, Call call) {
    String got = NONE;
    try {
      call.make();
    } catch (RuntimeException e) {
      got = e.getClass().getSimpleName();
    }
    due(what + " throws", want, got);
  }

  void end(String test) {
    System.out.println(test + ": " + (wrong == 0 ? "all as due" : wrong + " not as due"));
    if (wrong != 0) {
      System.exit(1);
    }
  }

  static int bytes(String text) {
    int packed = 0;
    for (int i = 0; i < text.length(); i++) {
      packed |= text.charAt(i) << 8 * i;
    }
    return packed;
  }

  static void putKey(CiteLists x, int entry, String text) {
    for (int i = 0; i < text.length(); i += 4) {
      x.key(entry, bytes(text.substring(i, Math.min(i + 4, text.length()))));
    }
  }

  static void put(CiteLists x, int entry, int name, String text) {
    for (int i = 0; i < text.length(); i += 4) {
      x.field(entry, name, bytes(text.substring(i, Math.min(i + 4, text.length()))));
    }
  }

  /** A new entry with fields (name, text, name, text, ..) that is cited at once. */
  static int cited(CiteLists x, int kind, Object... fields) {
    int entry = x.entry(kind);
    for (int i = 0; i + 1 < fields.length; i += 2) {
      put(x, entry, (Integer) fields[i], (String) fields[i + 1]);
    }
    x.cite(entry);
    return entry;
  }

  static String readPrinted(CiteLists x, int length) {
    StringBuilder text = new StringBuilder();
    for (int i = 0; i < length; i++) {
      text.append((char) x.at(i));
    }
    return text.toString();
  }

  /** An object with all that was called on it so far. */
  interface Made {
    CiteLists make();
  }

  /** A text too long to be read within the 512 calls of one object. */
  static String longText(Made made, int row) {
    StringBuilder text = new StringBuilder();
    int length = made.make().print(row);
    while (text.length() < length) {
      CiteLists x = made.make();
      x.print(row);
      for (int i = 0; i < 200 && text.length() < length; i++) {
        text.append((char) x.at(text.length()));
      }
    }
    return text.toString();
  }

  static String printed(CiteLists x, int i) {
    return readPrinted(x, x.print(i));
  }

  static String initials(CiteLists x, int entry, int person) {
    StringBuilder text = new StringBuilder();
    int length = x.initials(entry, person, -1);
    for (int i = 0; i < length; i++) {
      text.append((char) x.initials(entry, person, i));
    }
    return text.toString();
  }

  static String rows(CiteLists x, int count) {
    StringBuilder text = new StringBuilder();
    for (int i = 0; i < count; i++) {
      text.append(i == 0 ? "" : " ").append(x.row(i));
    }
    return text.toString();
  }

  static String letters(CiteLists x, int count) {
    StringBuilder text = new StringBuilder();
    for (int i = 0; i < count; i++) {
      text.append(i == 0 ? "" : " ").append(x.letter(i));
    }
    return text.toString();
  }

  static String missing(CiteLists x) {
    StringBuilder text = new StringBuilder();
    for (int i = 0; i < x.missing(-1, 0); i++) {
      text.append(i == 0 ? "" : " ").append(x.missing(i, 0)).append(':').append(x.missing(i, 1));
    }
    return text.toString();
  }

  /** Runs the list with a label and no sort, and tells what stands in the brackets of a row. */
  static String label(CiteLists x, int label, int row) {
    x.style(0, label);
    x.run();
    String text = printed(x, row);
    return text.substring(1, text.indexOf(label == 2 ? ')' : ']'));
  }
}
