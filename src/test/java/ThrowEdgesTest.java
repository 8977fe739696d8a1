import java.util.ArrayList;
import java.util.List;

/** "A call that throws changes nothing", and which exception it is where several fit. */
public final class ThrowEdgesTest {
  private static final Check check = new Check();
  private static final int BAD = 'a' | 127 << 8;

  private interface Call {
    void make(CiteLists x);
  }

  private interface State {
    CiteLists make();
  }

  public static void main(String[] args) {
    changesNothing("a new object", CiteLists::new);
    changesNothing("some entries before a run", ThrowEdgesTest::beforeARun);
    changesNothing("some entries after a run", ThrowEdgesTest::afterARun);
    changesNothing("full of entries", ThrowEdgesTest::fullOfEntries);
    changesNothing("full of characters", ThrowEdgesTest::fullOfCharacters);
    changesNothing("full of cites", ThrowEdgesTest::fullOfCites);
    firstNamedOfKey();
    firstNamedOfField();
    firstNamedOfCite();
    firstNamedOfInitials();
    check.end("ThrowEdgesTest");
  }

  private static CiteLists beforeARun() {
    CiteLists x = new CiteLists();
    Check.cited(x, 0, Check.AUTHOR, "Bee, A and C D", Check.YEAR, "1999", Check.TITLE, "x");
    Check.cited(x, 2, Check.AUTHOR, "Bee, B", Check.YEAR, "1999");
    Check.put(x, x.entry(3), Check.TITLE, "Volume");
    Check.putKey(x, 0, "abcdefghijklm");
    Check.putKey(x, x.entry(1), "abcdefghijklm");
    Check.put(x, 0, Check.NOTE, "n".repeat(77));
    x.cross(1, 2);
    x.style(1, 2);
    return x;
  }

  private static CiteLists afterARun() {
    CiteLists x = beforeARun();
    x.run();
    x.print(1);
    Check.put(x, 1, Check.TITLE, "later");
    x.style(2, 1);
    return x;
  }

  private static CiteLists fullOfEntries() {
    CiteLists x = new CiteLists();
    for (int i = 0; i < 24; i++) {
      x.entry(i % 5);
      x.key(i, 'a' + i / 2);
    }
    for (int i = 23; i > 0; i--) {
      x.cite(i);
      x.cross(i, i - 1);
    }
    Check.put(x, 0, Check.AUTHOR, "Ann Bee");
    x.style(2, 2);
    x.run();
    x.print(3);
    return x;
  }

  private static CiteLists fullOfCharacters() {
    CiteLists x = new CiteLists();
    x.cite(x.entry(4));
    Check.putKey(x, 0, "abcdefghijklmnop");
    for (int name : new int[] {Check.AUTHOR, Check.TITLE, Check.NOTE}) {
      Check.put(x, 0, name, "Ab Cd Ef".repeat(10));
    }
    x.run();
    x.print(-1);
    return x;
  }

  private static CiteLists fullOfCites() {
    CiteLists x = new CiteLists();
    for (int i = 0; i < 3; i++) {
      x.entry(i);
    }
    for (int i = 0; i < 60; i++) {
      x.cite(i == 59 ? 2 : i / 40);
    }
    x.run();
    x.print(0);
    return x;
  }

  private static String outcome(CiteLists x, Call call) {
    try {
      call.make(x);
      return Check.NONE;
    } catch (RuntimeException e) {
      return e.getClass().getSimpleName();
    }
  }

  /** Calls that throw in each state; those that do not throw in some of them are left out there. */
  private static final Call[] CALLS = {
    x -> x.entry(1),
    x -> x.key(-1, 'a'), x -> x.key(24, 'a'), x -> x.key(0, BAD), x -> x.key(0, 1 << 24),
    x -> x.key(0, Check.bytes("wxyz")), x -> x.key(23, 'z'),
    x -> x.field(-1, 0, 'a'), x -> x.field(24, 0, 'a'), x -> x.field(0, 8, 'a'),
    x -> x.field(0, -1, 'a'), x -> x.field(0, 7, BAD), x -> x.field(0, 0, 'a' | 215 << 16),
    x -> x.field(0, 7, Check.bytes("wxyz")), x -> x.field(0, 0, Check.bytes("z")),
    x -> x.cite(-1), x -> x.cite(24), x -> x.cite(0),
    x -> x.cross(-1, 0), x -> x.cross(0, -1), x -> x.cross(0, 24), x -> x.cross(24, 0),
    x -> x.cross(1, 24), x -> x.cross(1, -1), x -> x.cross(24, 1),
    x -> x.style(-1, 0), x -> x.style(3, 1), x -> x.style(0, -1), x -> x.style(1, 3),
    x -> x.row(-1), x -> x.row(24), x -> x.letter(-1), x -> x.letter(24),
    x -> x.initials(-1, 0, -1), x -> x.initials(0, -1, -1), x -> x.initials(0, 14, -1),
    x -> x.initials(0, 0, -2), x -> x.initials(0, 0, 119),
    x -> x.missing(-2, 0), x -> x.missing(96, 0), x -> x.missing(0, 2), x -> x.missing(0, -1),
    x -> x.print(-2), x -> x.print(24), x -> x.print(-1), x -> x.print(0),
    x -> x.at(-1), x -> x.at(900), x -> x.at(0), x -> x.twice(-2), x -> x.twice(24)
  };

  private static void changesNothing(String state, State fresh) {
    check.sentence("A call that throws changes nothing");
    String due = all(fresh, new Call[0]);
    List<Call> throwing = new ArrayList<>();
    for (int i = 0; i < CALLS.length; i++) {
      if (!outcome(fresh.make(), CALLS[i]).equals(Check.NONE)) {
        throwing.add(CALLS[i]);
        check.due(state + " after call " + i, due, all(fresh, CALLS[i]));
      }
    }
    check.due(state + " after all calls", due, all(fresh, throwing.toArray(new Call[0])));
    check.due(state + ": calls that throw", true, throwing.size() > 30);
  }

  /** All that can be asked, each question of an object of its own: none has 512 calls. */
  private static String all(State fresh, Call... calls) {
    StringBuilder told = new StringBuilder();
    Question[] questions = {ThrowEdgesTest::tellPrinted, ThrowEdgesTest::tellRows,
      ThrowEdgesTest::tellEntries, ThrowEdgesTest::tellCounts};
    for (Question question : questions) {
      question.ask(told, after(fresh, calls));
    }
    for (int row = -1; row < 24; row++) {
      tellText(told, after(fresh, calls), row);
    }
    for (int style = 0; style < 9; style++) {
      CiteLists x = after(fresh, calls);
      x.style(style / 3, style % 3);
      x.run();
      tellRows(told, x);
      for (int row = 0; row < 3; row++) {
        CiteLists y = after(fresh, calls);
        y.style(style / 3, style % 3);
        y.run();
        tellText(told, y, row);
      }
    }
    return told.toString();
  }

  private static CiteLists after(State fresh, Call... calls) {
    CiteLists x = fresh.make();
    for (Call call : calls) {
      outcome(x, call);
    }
    return x;
  }

  private interface Question {
    void ask(StringBuilder told, CiteLists x);
  }

  private interface Answer {
    int tell();
  }

  private static boolean add(StringBuilder told, Answer answer) {
    try {
      told.append(answer.tell()).append(' ');
      return true;
    } catch (RuntimeException e) {
      told.append(e.getClass().getSimpleName()).append(' ');
      return false;
    }
  }

  private static void tellPrinted(StringBuilder told, CiteLists x) {
    told.append("printed ");
    int[] place = {0};
    while (add(told, () -> x.at(place[0]))) {
      place[0]++;
    }
  }

  private static void tellText(StringBuilder told, CiteLists x, int row) {
    if (add(told, () -> x.print(row))) {
      tellPrinted(told, x);
    }
  }

  private static void tellRows(StringBuilder told, CiteLists x) {
    told.append("rows ");
    int[] place = {0};
    while (add(told, () -> x.row(place[0]))) {
      add(told, () -> x.letter(place[0]));
      place[0]++;
    }
    place[0] = -1;
    while (add(told, () -> x.missing(place[0], 0))) {
      add(told, () -> x.missing(place[0], 1));
      place[0]++;
    }
  }

  private static void tellEntries(StringBuilder told, CiteLists x) {
    told.append("entries ");
    for (int i = 0; i < 24; i++) {
      int entry = i;
      add(told, () -> x.initials(entry, 0, -1));
      add(told, () -> x.initials(entry, 1, -1));
      add(told, () -> x.twice(entry));
    }
  }

  /** How many there are of each, and who is crossed to whom. */
  private static void tellCounts(StringBuilder told, CiteLists x) {
    told.append("counts ");
    add(told, () -> x.style(0, 0));
    add(told, () -> x.cite(0));
    add(told, () -> x.entry(0));
    for (int i = 0; i < 24; i++) {
      int entry = i;
      add(told, () -> x.cross(0, entry));
      add(told, () -> x.cross(entry, 0));
    }
  }

  private static void firstNamedOfKey() {
    check.sentence("where several exceptions that a call names fit, it is the one that it names"
        + " first: key");
    CiteLists x = fullOfCharacters();
    CiteLists y = new CiteLists();
    check.dueThrows("no entry, no character, no room", Check.NO_ELEMENT, () -> x.key(24, BAD));
    check.dueThrows("no entry, no character", Check.NO_ELEMENT, () -> y.key(0, 1));
    check.dueThrows("no character, no room", Check.ARGUMENT, () -> x.key(0, BAD));
    check.dueThrows("no character behind too many", Check.ARGUMENT,
        () -> x.key(0, Check.bytes("abc") | 1 << 24));
    check.dueThrows("no room", Check.UNSUPPORTED, () -> x.key(0, 'a'));
  }

  private static void firstNamedOfField() {
    check.sentence("where several exceptions that a call names fit, it is the one that it names"
        + " first: field");
    CiteLists x = fullOfCharacters();
    check.dueThrows("no entry, no field, no character", Check.NO_ELEMENT, () -> x.field(24, 8, BAD));
    check.dueThrows("no entry, no field", Check.NO_ELEMENT, () -> x.field(-1, -1, 'a'));
    check.dueThrows("no entry, no character", Check.NO_ELEMENT, () -> x.field(24, 0, BAD));
    check.dueThrows("no field, no character", Check.INDEX, () -> x.field(0, 8, BAD));
    check.dueThrows("no field below, no character", Check.INDEX, () -> x.field(0, -1, BAD));
    check.dueThrows("no character, no room", Check.ARGUMENT, () -> x.field(0, 7, BAD));
    check.dueThrows("no character behind too many", Check.ARGUMENT,
        () -> x.field(0, 7, Check.bytes("abc") | 247 << 24));
    check.dueThrows("no room", Check.UNSUPPORTED, () -> x.field(0, 7, 'a'));
  }

  private static void firstNamedOfCite() {
    check.sentence("where several exceptions that a call names fit, it is the one that it names"
        + " first: cite");
    CiteLists x = fullOfCites();
    check.dueThrows("no entry, 60 already", Check.NO_ELEMENT, () -> x.cite(3));
    check.dueThrows("no entry below, 60 already", Check.NO_ELEMENT, () -> x.cite(-1));
    check.dueThrows("60 already", Check.UNSUPPORTED, () -> x.cite(2));
  }

  private static void firstNamedOfInitials() {
    check.sentence("where several exceptions that a call names fit, it is the one that it names"
        + " first: initials");
    CiteLists x = fullOfCharacters();
    check.dueThrows("no entry, no person", Check.NO_ELEMENT, () -> x.initials(24, 99, -1));
    check.dueThrows("no entry, no person, no character", Check.NO_ELEMENT,
        () -> x.initials(-1, -1, -2));
    check.dueThrows("no person", Check.INDEX, () -> x.initials(0, 99, -1));
    check.dueThrows("no character", Check.INDEX, () -> x.initials(0, 0, 999));
  }
}
