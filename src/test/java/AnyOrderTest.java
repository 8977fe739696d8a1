import java.util.ArrayList;
import java.util.List;
import java.util.Random;

/**
 * Sentences that hold for calls in any order: the same list is made in several ways, all of which
 * must tell the same. What is told is looked at by the other tests.
 */
public final class AnyOrderTest {
  private static final Check check = new Check();
  private static final int PLANS = 400;
  private static final String[] AUTHORS = {"", "", "Bee, A", "Ann Bee", "Bea B\u00cbe", "d Li", "and",
    "A and B and C", "Li, A and Bee", "A and B and C and D and E", ", X", "van der Bee, A"};
  private static final String[] TEXTS = {"", "", "", "a", "B", "1984", "1985", " ", "\u00e9t\u00e9"};
  private static final String[] KEYS = {"", "a", "ab", "ab", "abc"};

  private interface Call {
    void make(CiteLists x);
  }

  /** What a list is made of; in which order it is put in is free. */
  private static final class Plan {
    final int entries;
    final int[] kinds;
    final String[] keys;
    final String[][] fields;
    final List<Call> cites = new ArrayList<>();
    final List<Call> crosses = new ArrayList<>();
    final int style;

    Plan(Random random) {
      entries = 2 + random.nextInt(6);
      kinds = new int[entries];
      keys = new String[entries];
      fields = new String[entries][8];
      for (int i = 0; i < entries; i++) {
        kinds[i] = random.nextInt(5);
        keys[i] = one(random, KEYS);
        for (int name = 0; name < 8; name++) {
          fields[i][name] = one(random, name == Check.AUTHOR ? AUTHORS : TEXTS);
        }
        for (int again = 0; again < 2; again++) {
          int cited = random.nextInt(entries);
          cites.add(x -> x.cite(cited));
        }
        int from = random.nextInt(entries);
        int to = random.nextInt(entries);
        crosses.add(x -> x.cross(from, to));
      }
      style = random.nextInt(9);
    }

    /** Entries first and the style at last; of each text, and of crosses, the order is kept. */
    List<Call> calls(Random random) {
      List<Call> calls = new ArrayList<>();
      for (int kind : kinds) {
        calls.add(x -> x.entry(kind));
      }
      List<List<Call>> queues = new ArrayList<>();
      queues.add(new ArrayList<>(cites));
      queues.add(new ArrayList<>(crosses));
      for (int i = 0; i < entries; i++) {
        queues.add(parts(random, i, -1, keys[i]));
        for (int name = 0; name < 8; name++) {
          queues.add(parts(random, i, name, fields[i][name]));
        }
      }
      queues.removeIf(List::isEmpty);
      while (!queues.isEmpty()) {
        List<Call> queue = queues.get(random.nextInt(queues.size()));
        calls.add(queue.remove(0));
        queues.removeIf(List::isEmpty);
      }
      calls.add(x -> x.style(style / 3, style % 3));
      return calls;
    }
  }

  private static String one(Random random, String[] texts) {
    return texts[random.nextInt(texts.length)];
  }

  /** The calls that bring a text (of the key, where name is -1), with bytes 0 among its bytes. */
  private static List<Call> parts(Random random, int entry, int name, String text) {
    List<Call> parts = new ArrayList<>();
    int done = 0;
    while (done < text.length()) {
      int packed = 0;
      for (int place = 0; place < 4 && done < text.length(); place++) {
        if (place == 3 || random.nextInt(4) > 0) {
          packed |= text.charAt(done) << 8 * place;
          done++;
        }
      }
      int c = packed;
      parts.add(name < 0 ? x -> x.key(entry, c) : x -> x.field(entry, name, c));
    }
    return parts;
  }

  public static void main(String[] args) {
    for (int seed = 0; seed < PLANS; seed++) {
      Random random = new Random(seed);
      Plan plan = new Plan(random);
      List<Call> calls = plan.calls(random);
      inAnyOrder(plan, calls, random, seed);
      questionsChangeNothing(calls, random, seed);
      throwsChangeNothing(calls, random, seed);
      staysUntilTheNextRun(calls, new Plan(random).calls(random), seed);
    }
    check.end("AnyOrderTest");
  }

  private static void inAnyOrder(Plan plan, List<Call> calls, Random random, int seed) {
    check.sentence("Characters behind an entry's key, behind a field; the bytes of a number");
    check.due("plan " + seed + " in another order", told(calls, true), told(plan.calls(random), true));
  }

  private static void questionsChangeNothing(List<Call> calls, Random random, int seed) {
    check.sentence("All that a run tells stays until the next one");
    List<Call> more = between(calls, QUESTIONS, random);
    check.due("plan " + seed + " with runs and questions between", told(calls, true),
        told(more, true));
  }

  private static void throwsChangeNothing(List<Call> calls, Random random, int seed) {
    check.sentence("A call that throws changes nothing");
    List<Call> more = between(calls, THROWS, random);
    check.due("plan " + seed + " with throws between", told(calls, true), told(more, true));
    List<Call> run = new ArrayList<>(calls);
    run.add(CiteLists::run);
    run.add(x -> x.print(-1));
    List<Call> behind = new ArrayList<>(run);
    for (int i = 0; i < 10; i++) {
      behind.add(THROWS[random.nextInt(THROWS.length)]);
    }
    check.due("plan " + seed + " with throws behind its run", told(run, false), told(behind, false));
  }

  private static void staysUntilTheNextRun(List<Call> calls, List<Call> changes, int seed) {
    check.sentence("All that a run tells stays until the next one");
    List<Call> run = new ArrayList<>(calls);
    run.add(CiteLists::run);
    List<Call> changed = new ArrayList<>(run);
    changed.addAll(changes);
    check.due("what the run of plan " + seed + " tells", toldRun(run, false), toldRun(changed, false));
  }

  /** Calls that change nothing but what the latest run tells and what was printed. */
  private static final Call[] QUESTIONS = {CiteLists::run, CiteLists::run, CiteLists::run,
    x -> x.print(-1), x -> x.print(0), x -> x.print(1), x -> x.at(0), x -> x.row(0), x -> x.letter(0),
    x -> x.missing(0, 1), x -> x.missing(-1, 0), x -> x.initials(0, 0, -1), x -> x.initials(1, 1, 0),
    x -> x.twice(-1), x -> x.twice(0), x -> x.style(1, 2), x -> x.style(2, 1), x -> x.style(1, 0),
    x -> x.cross(0, 0), x -> x.key(0, 0), x -> x.field(1, 0, 0)};

  /** Calls that throw in every state of a plan's object. */
  private static final Call[] THROWS = {x -> x.key(-1, 'a'), x -> x.key(24, 'a'), x -> x.key(0, 127),
    x -> x.key(0, 'a' | 215 << 24), x -> x.field(9, 0, 'a'), x -> x.field(0, 8, 'a'),
    x -> x.field(1, -1, 'a'), x -> x.field(1, 1, 'a' | 31 << 8), x -> x.field(0, 0, 'a' | 247 << 16),
    x -> x.cite(-1), x -> x.cite(9), x -> x.cross(0, 9), x -> x.cross(9, 1), x -> x.cross(-1, -1),
    x -> x.style(3, 0), x -> x.style(1, -1), x -> x.style(-1, 2), x -> x.style(2, 3), x -> x.row(9),
    x -> x.row(-1), x -> x.letter(9), x -> x.letter(-1), x -> x.initials(9, 0, -1),
    x -> x.initials(0, 9, 0), x -> x.initials(0, -1, -1), x -> x.initials(1, 0, -2),
    x -> x.missing(-2, 0), x -> x.missing(96, 1), x -> x.missing(0, 2), x -> x.print(-2),
    x -> x.print(9), x -> x.at(-1), x -> x.at(999), x -> x.twice(9), x -> x.twice(-2)};

  /** Not before the entries are there, and not behind the plan's own style. */
  private static List<Call> between(List<Call> calls, Call[] some, Random random) {
    List<Call> more = new ArrayList<>(calls);
    for (int i = 0; i < 40; i++) {
      more.add(8 + random.nextInt(more.size() - 8), some[random.nextInt(some.length)]);
    }
    return more;
  }

  private static CiteLists after(List<Call> calls, boolean thenRun) {
    CiteLists x = new CiteLists();
    for (Call call : calls) {
      try {
        call.make(x);
      } catch (RuntimeException e) {
        // What may throw here is told by what it leaves.
      }
    }
    if (thenRun) {
      x.run();
    }
    return x;
  }

  private static String told(List<Call> calls, boolean thenRun) {
    StringBuilder text = new StringBuilder(toldRun(calls, thenRun));
    CiteLists x = after(calls, thenRun);
    for (int i = 0; i < x.twice(-1); i++) {
      text.append(" twice ").append(x.twice(i));
    }
    for (int entry = 0; entry < 2; entry++) {
      for (int person = 0; person < persons(x, entry); person++) {
        text.append(" initials ").append(Check.initials(x, entry, person));
      }
    }
    text.append(" style ").append(x.style(0, 0)).append(" cites ").append(x.cite(0));
    text.append(" entries ").append(x.entry(0));
    return text.toString();
  }

  private static int persons(CiteLists x, int entry) {
    int count = 0;
    try {
      while (x.initials(entry, count, -1) >= 0) {
        count++;
      }
    } catch (IndexOutOfBoundsException e) {
      return count;
    }
    return count;
  }

  /** Each text is read from an object of its own, so that none has more than 512 calls. */
  private static String toldRun(List<Call> calls, boolean thenRun) {
    CiteLists x = after(calls, thenRun);
    String head = Check.printed(x, -1);
    int rows = Integer.parseInt(head.substring(head.indexOf('(') + 1, head.indexOf(')')));
    StringBuilder text = new StringBuilder(head);
    text.append(" rows ").append(Check.rows(x, rows)).append(" letters ").append(Check.letters(x, rows));
    text.append(" missing ").append(Check.missing(x));
    for (int i = 0; i < rows; i++) {
      text.append('\n').append(Check.printed(after(calls, thenRun), i));
    }
    return text.toString();
  }
}
