/** Edges of what "Terms" says of characters: which there are, bytes, small, folded, in order. */
public final class CharacterEdgesTest {
  private static final Check check = new Check();
  private static final int[] CHARACTERS = {32, 33, 125, 126, 192, 193, 214, 216, 246, 248, 254, 255};
  private static final int[] NO_CHARACTERS = {1, 31, 127, 128, 191, 215, 247};

  public static void main(String[] args) {
    characters();
    noCharacters();
    upToFour();
    bytesZero();
    smallLetters();
    foldedLetters();
    othersStay();
    firstThatDiffer();
    beginnings();
    check.end("CharacterEdgesTest");
  }

  private static void characters() {
    check.sentence("CHARACTERS are 32 .. 126 and 192 .. 255, but 215 and 247");
    for (int b : CHARACTERS) {
      for (int place = 0; place < 4; place++) {
        CiteLists x = new CiteLists();
        x.cite(x.entry(4));
        x.key(0, b << 8 * place);
        for (int name = 0; name < 8; name++) {
          x.field(0, name, b << 8 * place);
        }
        x.style(0, 2);
        x.run();
        String c = String.valueOf((char) b);
        // A blank in AUTHOR is no person, and the label begins with the key, a blank as well.
        String persons = b == 32 ? "" : c + ". ";
        check.due("character " + b, "(" + c + " " + c + ") " + persons + c + ". " + c + ". " + c + ".",
            Check.printed(x, 0));
      }
    }
  }

  private static void noCharacters() {
    check.sentence("IllegalArgumentException when a byte is no character (and not 0)");
    for (int b : NO_CHARACTERS) {
      for (int place = 0; place < 4; place++) {
        CiteLists x = new CiteLists();
        x.cite(x.entry(4));
        int alone = b << 8 * place;
        int amongOthers = Check.bytes("abcd") & ~(255 << 8 * place) | alone;
        check.dueThrows("key byte " + b, Check.ARGUMENT, () -> x.key(0, alone));
        check.dueThrows("key byte " + b + " among others", Check.ARGUMENT,
            () -> x.key(0, amongOthers));
        for (int name = 0; name < 8; name++) {
          int own = name;
          check.dueThrows("field byte " + b, Check.ARGUMENT, () -> x.field(0, own, alone));
          check.dueThrows("field byte " + b + " among others", Check.ARGUMENT,
              () -> x.field(0, own, amongOthers));
        }
        x.style(0, 2);
        x.run();
        check.due("none came", "()", Check.printed(x, 0));
      }
    }
  }

  private static String noteOf(int... calls) {
    CiteLists x = new CiteLists();
    x.cite(x.entry(4));
    for (int c : calls) {
      x.field(0, Check.NOTE, c);
    }
    x.run();
    return Check.printed(x, 0);
  }

  private static String keyOf(int... calls) {
    CiteLists x = new CiteLists();
    x.cite(x.entry(4));
    for (int c : calls) {
      x.key(0, c);
    }
    return Check.label(x, 2, 0);
  }

  private static void upToFour() {
    check.sentence("A call brings up to four: the bytes of a number, the lowest first");
    check.due("one", "[1] a.", noteOf('a'));
    check.due("four", "[1] abcd.", noteOf(0x64636261));
    check.due("four and four", "[1] abcdefgh.", noteOf(0x64636261, 0x68676665));
    check.due("the highest byte of a number below 0", "[1] ab~\u00c0.", noteOf(0xc07e6261));
    check.due("-1", "[1] \u00ff\u00ff\u00ff\u00ff.", noteOf(-1));
    check.due("key of one", "a", keyOf('a'));
    check.due("key of four and four", "abcdefgh", keyOf(0x64636261, 0x68676665));
    check.due("key of -1", "\u00ff\u00ff\u00ff\u00ff", keyOf(-1));
  }

  private static void bytesZero() {
    check.sentence("bytes 0 are none");
    check.due("0 alone", "[1]", noteOf(0));
    check.due("0 behind a character", "[1] a.", noteOf('a', 0));
    check.due("0 before a character", "[1] a.", noteOf(0, 'a' << 8));
    check.due("0 between characters", "[1] ab.", noteOf('a' | 'b' << 16));
    check.due("three before the highest", "[1] z.", noteOf('z' << 24));
    check.due("key of 0", "", keyOf(0));
    check.due("key with 0 between", "abc", keyOf('a' | 'b' << 24, 'c' << 16));
    CiteLists x = new CiteLists();
    x.entry(0);
    x.entry(0);
    x.key(0, 0);
    x.key(1, 0);
    check.due("keys of 0 are empty", 0, x.twice(-1));
    x.cite(0);
    x.field(0, Check.TITLE, 0);
    x.run();
    check.due("a field of 0 is empty", "0:0 0:1 0:2 0:3", Check.missing(x));
  }

  private static boolean mayStandInWords(int c) {
    return c > 32 && c < 127 && c != ',' || c >= 192 && c <= 255 && c != 215 && c != 247;
  }

  private static void smallLetters() {
    check.sentence("A letter is SMALL, if it is a .. z or above 222");
    for (int c = 0; c < 256; c++) {
      if (!mayStandInWords(c)) {
        continue;
      }
      boolean small = c >= 97 && c <= 122 || c >= 223;
      String word = (char) c + "x";
      check.due("a word of " + c + " before the last", small ? "1" : "2",
          String.valueOf(initialsCount("G " + word + " F")));
      CiteLists x = new CiteLists();
      Check.cited(x, 4, Check.AUTHOR, word + " Fa, G");
      x.style(0, 1);
      x.run();
      check.due("a word of " + c + " before a comma is a particle", true,
          Check.printed(x, 0).startsWith(small ? "[Fa] " : "[" + word + " ] "));
    }
  }

  private static int initialsCount(String author) {
    CiteLists x = new CiteLists();
    Check.put(x, x.entry(0), Check.AUTHOR, author);
    return (x.initials(0, 0, -1) + 1) / 3;
  }

  private static final int[][] FOLDED = {{192, 198, 'a'}, {224, 230, 'a'}, {199, 199, 'c'},
    {231, 231, 'c'}, {208, 208, 'd'}, {240, 240, 'd'}, {200, 203, 'e'}, {232, 235, 'e'},
    {204, 207, 'i'}, {236, 239, 'i'}, {209, 209, 'n'}, {241, 241, 'n'}, {210, 214, 'o'},
    {216, 216, 'o'}, {242, 246, 'o'}, {248, 248, 'o'}, {223, 223, 's'}, {222, 222, 't'},
    {254, 254, 't'}, {217, 220, 'u'}, {249, 252, 'u'}, {221, 221, 'y'}, {253, 253, 'y'},
    {255, 255, 'y'}};

  private static void foldedLetters() {
    check.sentence("FOLDED, A .. Z become a .. z; 192 .. 198 and 224 .. 230 a; ..; 221, 253, 255 y");
    for (char c = 'A'; c <= 'Z'; c++) {
      dueFolded(c, (char) (c + 32));
    }
    int letters = 0;
    for (int[] range : FOLDED) {
      for (int c = range[0]; c <= range[1]; c++) {
        dueFolded((char) c, (char) range[2]);
        letters++;
      }
    }
    check.due("letters above 191", 62, letters);
  }

  private static void othersStay() {
    check.sentence("others stay");
    for (char c = '!'; c < 127; c++) {
      if (c != ',' && (c < 'A' || c > 'Z')) {
        dueFolded(c, c);
      }
    }
  }

  /** A text with c stands just between two with the folded letter, wherever texts are folded. */
  private static void dueFolded(char c, char folded) {
    String[] forms = {"?", "X, ?", "v? X, G", "X and ?", "X and X, ?", "X ?, G"};
    for (String form : forms) {
      check.due((int) c + " in AUTHOR " + form, "2 1 0", between(Check.AUTHOR, 1, form, c, folded));
      check.due((int) c + " in AUTHOR " + form + " by sort 2", "2 1 0",
          between(Check.AUTHOR, 2, form, c, folded));
    }
    for (int sort = 1; sort <= 2; sort++) {
      check.due((int) c + " in YEAR", "2 1 0", between(Check.YEAR, sort, "?", c, folded));
      check.due((int) c + " in TITLE", "2 1 0", between(Check.TITLE, sort, "?", c, folded));
    }
    CiteLists x = new CiteLists();
    Check.cited(x, 4, Check.AUTHOR, c + "m, A");
    Check.cited(x, 4, Check.AUTHOR, folded + "m, B");
    x.style(0, 2);
    x.run();
    check.due((int) c + " in a label's family", "(A. " + c + "m) " + c + "m, A..",
        Check.printed(x, 0));
  }

  private static String between(int name, int sort, String form, char c, char folded) {
    return sorted(name, sort, form.replace("?", folded + "n"), form.replace("?", c + "m"),
        form.replace("?", folded + "l"));
  }

  private static String sorted(int name, int sort, String... texts) {
    CiteLists x = new CiteLists();
    for (String text : texts) {
      Check.cited(x, 4, name, text);
    }
    x.style(sort, 0);
    return Check.rows(x, x.run());
  }

  private static void firstThatDiffer() {
    check.sentence("Texts are in ORDER by their first characters that differ");
    String same = "s".repeat(79);
    for (int sort = 1; sort <= 2; sort++) {
      for (int name : new int[] {Check.AUTHOR, Check.TITLE, Check.YEAR}) {
        check.due("the first decides", "1 0", sorted(name, sort, "bax", "abz"));
        check.due("the second decides", "1 0", sorted(name, sort, "aca", "abz"));
        check.due("the longer one may come first", "1 0", sorted(name, sort, "b", "abcdefgh"));
        check.due("the last of 80 decides", "1 0", sorted(name, sort, same + "b", same + "a"));
        check.due("~ is the last", "1 0", sorted(name, sort, "a~", "az"));
      }
      check.due("a blank is the first", "1 0", sorted(Check.TITLE, sort, "a!", "a "));
    }
  }

  private static void beginnings() {
    check.sentence("one that is the beginning of the other comes first");
    String long79 = "s".repeat(79);
    for (int sort = 1; sort <= 2; sort++) {
      for (int name : new int[] {Check.AUTHOR, Check.TITLE, Check.YEAR}) {
        check.due("one and two", "1 0", sorted(name, sort, "ab", "a"));
        check.due("none and one", "1 0", sorted(name, sort, "!", ""));
        check.due("79 and 80", "1 0", sorted(name, sort, long79 + "!", long79));
        check.due("the same", "0 1", sorted(name, sort, long79 + "a", long79 + "A"));
      }
      check.due("a blank behind it", "1 0", sorted(Check.TITLE, sort, "a ", "a"));
      check.due("a given's beginning", "1 0", sorted(Check.AUTHOR, sort, "X, ab", "X, a"));
      check.due("no given", "1 0", sorted(Check.AUTHOR, sort, "X, a", "X"));
      check.due("a particle's beginning", "1 0", sorted(Check.AUTHOR, sort, "de X, G", "d X, G"));
      check.due("no particle", "1 0", sorted(Check.AUTHOR, sort, "d X, G", "X, G"));
      check.due("no family", "1 0", sorted(Check.AUTHOR, sort, "X, G", ", G"));
    }
  }
}
