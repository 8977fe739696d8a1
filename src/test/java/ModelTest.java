import java.util.Random;

/** Runs of 512 calls of several moods, the same ones every time; the answers must be the model's. */
public final class ModelTest {
  private static final int RUNS = 3000;
  private static final int CALLS = 512;
  // In place of a field's name; no odd number is this one.
  private static final int KEY = 1000;
  private static final String[] WORDS = {"and", "and", "and", " and ", " ", "  ", ",", ", ", "van",
    "de", "Li", "LI", "L\u00ed", "Lis", "Ann", "Abe", "Bob", "A", "a", "B", "\u00dfx", "\u00dex",
    "\u00ff", "Z.", "1999", "1998", "99", "+"};
  private static final String[] SHORT_KEYS = {"a", "a", "b", "ab"};
  private static final String[] NAMES = {"Bee, A", "Bee, Ann", "Bee, B", "Ann B\u00cae", "bee", "Li",
    "d Li", "Li, A B", ", A", "A de la Bee Cee", "Cee D", "and"};
  private static final int[] ODD_NUMBERS = {-1, -2, 24, 60, 8, Integer.MIN_VALUE, Integer.MAX_VALUE};

  /** How many of 100 calls bring keys and fields, cite and cross, and how rare odd numbers are. */
  private enum Mood {
    MIXED(10, 45, 10, 5, 40), CROSSED(5, 15, 10, 30, 40), KEYED(30, 10, 20, 5, 40),
    NAMED(5, 20, 20, 10, 80), THROWING(10, 35, 10, 10, 5);

    final int keysTo;
    final int fieldsTo;
    final int citesTo;
    final int crossesTo;
    final int oneOddIn;

    Mood(int keys, int fields, int cites, int crosses, int oneOddIn) {
      keysTo = keys;
      fieldsTo = keysTo + fields;
      citesTo = fieldsTo + cites;
      crossesTo = citesTo + crosses;
      this.oneOddIn = oneOddIn;
    }
  }

  private final Mood mood;
  private final Random random;
  private final CiteLists x = new CiteLists();
  private final Model model = new Model();
  private final int entries;
  private final int tellsFrom;
  private int calls;

  private ModelTest(int seed) {
    random = new Random(seed);
    mood = Mood.values()[seed % Mood.values().length];
    entries = 1 + random.nextInt(seed % 3 == 0 ? 24 : 6);
    tellsFrom = random.nextInt(CALLS);
  }

  /** One call on both; what it answers or throws is compared. */
  private interface Call {
    int make(boolean onModel);
  }

  private static String answer(Call call, boolean onModel) {
    try {
      return Integer.toString(call.make(onModel));
    } catch (RuntimeException e) {
      return "throws." + e.getClass().getSimpleName();
    }
  }

  public static void main(String[] args) {
    Check check = new Check();
    for (int seed = 0; seed < RUNS; seed++) {
      new ModelTest(seed).compare(check, seed);
    }
    check.end("ModelTest");
  }

  private void compare(Check check, int seed) {
    while (calls < CALLS) {
      step(check, "run " + seed + ", call " + calls);
    }
  }

  private void due(Check check, String what, Call call) {
    if (calls == CALLS) {
      return;
    }
    calls++;
    check.due(what, answer(call, true), answer(call, false));
  }

  private int number(int below) {
    return random.nextInt(mood.oneOddIn) == 0 ? ODD_NUMBERS[random.nextInt(ODD_NUMBERS.length)]
        : random.nextInt(below);
  }

  private int fieldName() {
    boolean author = random.nextInt(mood == Mood.CROSSED ? 12 : 3) == 0;
    return author ? Check.AUTHOR : number(8);
  }

  private void step(Check check, String what) {
    int entry = number(entries);
    int other = number(entries);
    int choice = random.nextInt(100);
    if (calls < entries || choice == 0 && entries == 24) {
      int kind = number(6);
      due(check, what + " entry", m -> m ? model.entry(kind) : x.entry(kind));
    } else if (choice < mood.keysTo) {
      addWord(check, what, entry, true);
    } else if (choice < mood.fieldsTo) {
      if (mood == Mood.NAMED && random.nextInt(3) > 0) {
        addName(check, what, entry);
      } else {
        addWord(check, what, entry, false);
      }
    } else if (choice < mood.citesTo) {
      due(check, what + " cite", m -> m ? model.cite(entry) : x.cite(entry));
    } else if (choice < mood.crossesTo) {
      due(check, what + " cross", m -> m ? model.cross(entry, other) : x.cross(entry, other));
    } else {
      askOrRun(check, what, entry);
    }
  }

  private void askOrRun(Check check, String what, int entry) {
    int some = number(4);
    int wide = random.nextInt(4) == 0 ? -1 : number(26);
    int choice = random.nextInt(30);
    if (choice < 5) {
      int sort = number(3);
      int label = number(3);
      due(check, what + " style", m -> m ? model.style(sort, label) : x.style(sort, label));
    } else if (choice < 13) {
      due(check, what + " run", m -> m ? model.run() : x.run());
      if (calls > tellsFrom) {
        tellRun(check, what);
      }
    } else if (choice < 19) {
      due(check, what + " initials",
          m -> m ? model.initials(entry, some, wide) : x.initials(entry, some, wide));
    } else if (choice < 20) {
      due(check, what + " row", m -> m ? model.row(wide) : x.row(wide));
    } else if (choice < 21) {
      due(check, what + " letter", m -> m ? model.letter(wide) : x.letter(wide));
    } else if (choice < 22) {
      due(check, what + " missing", m -> m ? model.missing(wide, some) : x.missing(wide, some));
    } else if (choice < 24) {
      due(check, what + " twice", m -> m ? model.twice(wide) : x.twice(wide));
    } else if (choice < 26) {
      due(check, what + " at", m -> m ? model.at(wide) : x.at(wide));
    } else {
      due(check, what + " print", m -> m ? model.print(wide) : x.print(wide));
    }
  }

  /** A whole person behind AUTHOR, of whom there are few, so that labels are often alike. */
  private void addName(Check check, String what, int entry) {
    String name = NAMES[random.nextInt(NAMES.length)] + " and ";
    for (int i = 0; i < name.length(); i += 4) {
      int c = Check.bytes(name.substring(i, Math.min(i + 4, name.length())));
      add(check, what + " name", entry, Check.AUTHOR, c);
    }
  }

  private void addWord(Check check, String what, int entry, boolean toKey) {
    String word = WORDS[random.nextInt(WORDS.length)];
    if (word.length() < 4 && random.nextBoolean()) {
      word += " ";
    }
    if (toKey && mood == Mood.KEYED) {
      word = SHORT_KEYS[random.nextInt(SHORT_KEYS.length)];
    }
    int odd = random.nextInt(mood.oneOddIn) == 0 ? random.nextInt() : 0;
    int c = odd != 0 ? odd : Check.bytes(word.substring(0, Math.min(4, word.length())));
    add(check, what + (toKey ? " key" : " field"), entry, toKey ? KEY : fieldName(), c);
  }

  private void add(Check check, String what, int entry, int name, int c) {
    due(check, what, m -> {
      if (name == KEY && m) {
        model.key(entry, c);
      } else if (name == KEY) {
        x.key(entry, c);
      } else if (m) {
        model.field(entry, name, c);
      } else {
        x.field(entry, name, c);
      }
      return 0;
    });
  }

  /** What the run tells, from some row on, as far as the object's calls go. */
  private void tellRun(Check check, String what) {
    int rows = model.run();
    int first = random.nextInt(rows + 2);
    for (int i = 0; i < rows + 2 && calls < CALLS; i++) {
      int row = (first + i) % (rows + 2) - 1;
      due(check, what + " row " + row, m -> m ? model.row(row) : x.row(row));
      due(check, what + " letter " + row, m -> m ? model.letter(row) : x.letter(row));
      due(check, what + " print " + row, m -> m ? model.print(row) : x.print(row));
      tellMissing(check, what, 2 * row);
      tellPrinted(check, what + " row " + row);
    }
  }

  private void tellPrinted(Check check, String what) {
    int length = model.printedLength();
    for (int i = 0; i <= length; i++) {
      int place = i;
      due(check, what + " at " + i, m -> m ? model.at(place) : x.at(place));
    }
  }

  private void tellMissing(Check check, String what, int from) {
    for (int i = from; i < from + 2; i++) {
      int place = i;
      due(check, what + " missing entry " + i,
          m -> m ? model.missing(place, 0) : x.missing(place, 0));
      due(check, what + " missing field " + i,
          m -> m ? model.missing(place, 1) : x.missing(place, 1));
    }
  }
}
