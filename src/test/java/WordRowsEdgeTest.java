import java.util.ArrayList;
import java.util.List;

/** WORD ROWS and PROGRAMS at their bounds, and against all programs; promises 30 to 35. */
public final class WordRowsEdgeTest {
  public static void main(String[] args) {
    lengthsOfIn();
    lengthsOfOut();
    numbersOfLetters();
    lettersAlone();
    eightRows();
    exampleOrder();
    clearing();
    noRows();
    wordsOfThreeLetters();
    fourParts();
    spotsFromFrontAndBack();
    spotsOfLetters();
    spotsThatAreNotThere();
    cutsGoFurtherOn();
    thePrices();
    pricesOfTheLastLetters();
    allSpotsOfTen();
    theFirstOfAlike();
    numbersOfParts();
    partsOutOfRange();
    spotNumbers();
    theProgramStays();
    applyLengths();
    applyRefusals();
    applySecondSpots();
    applyManyLetters();
    places400();
    placesBehindOthers();
    againstTheModel();
    House.finish();
  }

  private static int example(House h, String text, int n) {
    h.tape(text);
    return h.x.example(n);
  }

  private static void lengthsOfIn() {
    String letters = "abcdefghijklmnop";
    for (int n = 0; n <= 12; n++) {
      House h = new House();
      House.due("IN of " + n, example(h, letters.substring(0, n) + "z", n), n <= 10 ? 1 : -1);
      House.due("the tape is used up", h.x.told(7), 0);
      House.due("rows", h.x.told(2), n <= 10 ? 1 : 0);
      House.due("records", h.x.told(4), n <= 10 ? 1 : 0);
    }
  }

  private static void lengthsOfOut() {
    String letters = "abcdefghijklmnop";
    for (int n = 0; n <= 12; n++) {
      boolean fine = n >= 1 && n <= 10;
      House h = new House();
      House.due("OUT of " + n + " behind none", example(h, letters.substring(0, n), 0), fine ? 1 : -1);
      House.due("OUT of " + n + " behind three", example(h, "xyz" + letters.substring(0, n), 3), fine ? 2 : -1);
      House.due("OUT of " + n + " behind ten", example(h, "zyxwvutsrq" + letters.substring(0, n), 10), fine ? 3 : -1);
      House.due("the tape is used up", h.x.told(7), 0);
      House.due("rows", h.x.told(2), fine ? 3 : 0);
    }
  }

  private static void numbersOfLetters() {
    House h = new House();
    for (int n : new int[] {-1, Integer.MIN_VALUE, 3, 4, 11, Integer.MAX_VALUE}) {
      House.due("n = " + n + " of three", example(h, "abc", n), -1);
      House.due("the tape is used up", h.x.told(7), 0);
    }
    House.due("n = 0 of three", example(h, "abc", 0), 1);
    House.due("n = 2 of three", example(h, "abc", 2), 2);
    House.due("n = 0 of none", example(h, "", 0), -1);
    House.due("n = 1 of one", example(h, "a", 1), -1);
    House.due("n = -1 of none", example(h, "", -1), -1);
    House.due("n = 0 of eleven", example(h, "abcdefghijk", 0), -1);
    House.due("n = 1 of eleven", example(h, "abcdefghijk", 1), 3);
    House.due("n = 10 of eleven", example(h, "abcdefghijk", 10), 4);
    House.due("n = 10 of twenty", example(h, "abcdefghijabcdefghij", 10), 5);
    House.due("n = 10 of twenty-one", example(h, "abcdefghijabcdefghijk", 10), -1);
    House.due("n = 11 of twenty-one", example(h, "abcdefghijabcdefghijk", 11), -1);
  }

  private static void lettersAlone() {
    for (String bad : new String[] {"A", "`", "{", " ", "\n", "1", "\"", "\u0000", "\u00e1", "\u00ff", "Z"}) {
      House h = new House();
      House.due("first: " + bad, example(h, bad + "bc", 2), -1);
      House.due("last of IN: " + bad, example(h, "a" + bad + "c", 2), -1);
      House.due("first of OUT: " + bad, example(h, "ab" + bad + "d", 2), -1);
      House.due("last: " + bad, example(h, "ab" + "c" + bad, 2), -1);
      House.due("no rows", h.x.told(2), 0);
    }
    House h = new House();
    House.due("a and z", example(h, "azza", 2), 1);
  }

  private static void eightRows() {
    House h = new House();
    for (int i = 1; i <= 8; i++) {
      House.due("row " + i, example(h, "ab", 1), i);
    }
    House.due("the ninth", example(h, "ab", 1), -3);
    House.due("the tape is used up", h.x.told(7), 0);
    House.due("eight", h.x.told(2), 8);
    House.due("eight records", h.x.told(4), 8);
    House.due("all go", h.x.clear(), 8);
    House.due("there is room again", example(h, "ab", 1), 1);
  }

  private static void exampleOrder() {
    House h = new House();
    for (int i = 1; i <= 8; i++) {
      example(h, "ab", 1);
    }
    House.due("NONE (n) before ROOM", example(h, "ab", -1), -1);
    House.due("NONE (words) before ROOM", example(h, "ab", 2), -1);
    House.due("NONE (letters) before ROOM", example(h, "aB", 1), -1);
    House.due("ROOM", example(h, "ab", 0), -3);
  }

  private static void clearing() {
    House h = new House();
    House.due("of none", h.x.clear(), 0);
    House.due("no record", h.x.told(4), 0);
    example(h, "ab", 1);
    House.due("of one", h.x.clear(), 1);
    House.due("two records", h.x.told(4), 2);
    House.due("their bytes", h.x.told(5), 6 + 3);
    House.due("of none", h.x.clear(), 0);
    House.due("two records", h.x.told(4), 2);
    House.due("no rows", h.x.fit(), -2);
    example(h, "ab", 1);
    example(h, "ab", 1);
    House.due("of two", h.x.clear(), 2);
  }

  /** NONE before STATE. */
  private static void noRows() {
    House h = new House();
    House.due("fit", h.x.fit(), -2);
    for (int m = 1; m <= 4; m++) {
      House.due("fitting(" + m + ")", h.x.fitting(m), -2);
    }
    for (int m : new int[] {0, 5, -1, Integer.MIN_VALUE, Integer.MAX_VALUE}) {
      House.due("fitting(" + m + ")", h.x.fitting(m), -1);
    }
    example(h, "ab", 1);
    for (int m : new int[] {0, 5, -1, Integer.MIN_VALUE, Integer.MAX_VALUE}) {
      House.due("fitting(" + m + ") with a row", h.x.fitting(m), -1);
    }
    House.due("fitting(1)", h.x.fitting(1), 1);
    House.due("fitting(4)", h.x.fitting(4), 0);
  }

  private static void wordsOfThreeLetters() {
    House h = new House();
    h.example("", "xyz");
    House.due("one word of three", h.x.fit(), 6);
    House.due("its letters", h.x.part(0, 2), (24 * 27 + 25) * 27 + 26);
    House.due("one part", h.x.part(0, 0), 1);
    House.due("of one part", h.x.fitting(1), 1);
    h.x.clear();
    h.example("", "wxyz");
    House.due("two words for four", h.x.fit(), 8);
    House.due("two parts", h.x.part(0, 0), 2);
    House.due("of one part", h.x.fitting(1), 0);
    House.due("the shorter one first", h.x.part(0, 2), 23);
  }

  private static void fourParts() {
    House h = new House();
    h.example("a", "axax");
    h.example("b", "bxbx");
    House.due("four parts", h.x.fit(), 8);
    House.due("four", h.x.part(0, 0), 4);
    House.due("of four", h.x.fitting(4) > 0 ? 1 : 0, 1);
    House.due("of three", h.x.fitting(3), 0);
    h.x.clear();
    h.example("a", "axaxa");
    h.example("b", "bxbxb");
    House.due("five would be wanted", h.x.fit(), 0);
    House.due("of four", h.x.fitting(4), 0);
    House.due("the program before stays", h.x.part(0, 0), 4);
    h.x.clear();
    h.example("", "abcdefghij");
    House.due("ten letters", h.x.fit(), 20);
    House.due("of four words of at most three", h.x.fitting(4), 10);
    House.due("of three", h.x.fitting(3), 0);
  }

  private static void spotsFromFrontAndBack() {
    House h = new House();
    h.example("abcdefghij", "abcdefghij");
    House.due("all ten", h.x.fit(), 2);
    House.due("front 0", h.x.part(0, 3), 0);
    House.due("front 10", h.x.part(0, 4), 10);
    h.x.clear();
    h.example("abcdefghij", "bcdefghi");
    h.example("zabcdefghz", "abcdefgh");
    House.due("from 1 to 9", h.x.fit(), 2);
    House.due("front 1", h.x.part(0, 3), 1);
    House.due("front 9", h.x.part(0, 4), 9);
    h.x.clear();
    h.example("abcdefghij", "abcdefghi");
    h.example("abcde", "abcd");
    House.due("to 1 from the back", h.x.fit(), 2);
    House.due("front 0", h.x.part(0, 3), 0);
    House.due("back 1", h.x.part(0, 4), 12);
    h.x.clear();
    h.example("abcdefghij", "ij");
    h.example("xyzuv", "uv");
    House.due("from 2 from the back", h.x.fit(), 2);
    House.due("back 2", h.x.part(0, 3), 13);
    House.due("back 0", h.x.part(0, 4), 11);
    h.x.clear();
    h.example("abcdefghij", "ab");
    h.example("qrstuvwxyz", "qr");
    House.due("to 8 from the back, or front 2", h.x.fit(), 2);
    House.due("the front first", h.x.part(0, 4), 2);
  }

  private static void spotsOfLetters() {
    House h = new House();
    h.example("paxbxcx", "c");
    h.example("qqqxbxrxs", "r");
    House.due("behind the 2nd x to before the 3rd", h.x.fit(), 4);
    House.due("from", h.x.part(0, 3), 100 + 3 * 23 + 1);
    House.due("to", h.x.part(0, 4), 22 + 3 * 23 + 2);
    h.x.clear();
    h.example("xxxxa", "a");
    h.example("xxxxxbc", "bc");
    House.due("behind a fourth x there is no spot", h.x.fit(), 0);
    h.x.clear();
    h.example("xxxa", "a");
    h.example("xxxbc", "bc");
    House.due("behind the third: front 3", h.x.fit(), 2);
    House.due("front", h.x.part(0, 3), 3);
    h.x.clear();
    h.example("xxpxa", "a");
    h.example("xxxbcd", "bcd");
    House.due("behind the third", h.x.fit(), 3);
    House.due("its spot", h.x.part(0, 3), 100 + 3 * 23 + 2);
    House.due("to the back", h.x.part(0, 4), 11);
  }

  private static void spotsThatAreNotThere() {
    House h = new House();
    h.example("ab", "b");
    h.example("a", "q");
    House.due("front 2 is not in a", h.x.fit(), 0);
    h.x.clear();
    h.example("abc", "c");
    h.example("c", "c");
    House.due("c as a word, or the last letter", h.x.fit(), 2);
    House.due("the word first", h.x.part(0, 1), 0);
    h.x.clear();
    h.example("", "q");
    h.example("abc", "q");
    House.due("of no letters there is one spot, no cut", h.x.fitting(1), 1);
  }

  /** A CUT goes from a SPOT to one further on, in each row. */
  private static void cutsGoFurtherOn() {
    House h = new House();
    h.example("a", "b");
    House.due("no cut", h.x.fitting(1), 1);
    House.due("the word", h.x.part(0, 1), -1);
    House.due("its price", h.x.fit(), 2);
    h.x.clear();
    h.example("xay", "a");
    h.example("xya", "a");
    House.due("behind x to behind a would be ya", h.x.fit(), 2);
    House.due("so the word", h.x.part(0, 1), 0);
    h.x.clear();
    h.example("xaby", "ab");
    h.example("yabx", "ab");
    House.due("from 1 to back 1", h.x.fit(), 2);
    House.due("not behind x to before y", h.x.part(0, 3), 1);
  }

  private static void thePrices() {
    House h = new House();
    h.example("qrs", "a");
    House.due("one letter", h.x.fit(), 2);
    h.x.clear();
    h.example("qrs", "ab");
    House.due("two letters", h.x.fit(), 4);
    h.x.clear();
    h.example("qrs", "qrs");
    House.due("two spots of 1", h.x.fit(), 2);
    h.x.clear();
    h.example("pqabc", "abc");
    h.example("pqrab", "ab");
    House.due("a letter's spot, the back", h.x.fit(), 3);
    h.x.clear();
    h.example("paqbr", "q");
    h.example("zzaqqbrr", "qq");
    House.due("two letters' spots", h.x.fit(), 4);
    h.x.clear();
    h.example("paqbr", "qxyz");
    h.example("zzaqqbrr", "qqxyz");
    House.due("and a word", h.x.fit(), 10);
  }

  /** A word's price is 2 for each letter, whichever these are. */
  private static void pricesOfTheLastLetters() {
    for (String word : new String[] {"a", "z", "aa", "az", "za", "zz", "aaa", "azz", "zaa", "zzz"}) {
      House h = new House();
      h.example("", word);
      House.due("the price of " + word, h.x.fit(), 2 * word.length());
      House.due("one part", h.x.part(0, 0), 1);
      House.due("of no other", h.x.fitting(1), 1);
    }
  }

  /** Ten letters, each of another kind, have 42 SPOTS: all of them count. */
  private static void allSpotsOfTen() {
    String in = "abcdefghij";
    for (int from = 0; from < 10; from++) {
      for (int to = from + 1; to <= 10; to += 3) {
        House h = new House();
        h.example(in, in.substring(from, to));
        int words = to - from <= 3 ? 1 : 0;
        int left = from == 0 ? 3 : 4;
        int right = to == 10 ? 3 : 4;
        House.due("from " + from + " to " + to, h.x.fitting(1), words + left * right);
      }
    }
    House h = new House();
    h.example("zzzyyyxxxw", "w");
    House.due("three of a kind: the 1st, 2nd and 3rd of each", h.x.fitting(1), 1 + 4 * 3);
    h.x.clear();
    h.example("zzzzyyyyxx", "x");
    House.due("the last letter, and the first x", h.x.fitting(1), 1 + 3 * 4 + 4 * 3);
    h.x.clear();
    h.example("aaaaaaaaaa", "a");
    House.due("the first four letters by spots of a, too", h.x.fitting(1), 1 + 3 * 4 + 4 * 4 + 4 * 3 + 3 * 2 + 6 * 2 * 2);
  }

  private static void due(House h, String what, int... told) {
    for (int i = 0; i < told.length / 3; i++) {
      for (int k = 0; k < 3; k++) {
        int which = k + 1;
        int due = told[3 * i + k];
        if (told[3 * i] == 1 && k > 0) {
          which = k + 2;
        } else if (told[3 * i] == 0 && k == 2) {
          continue;
        }
        House.due(what + ", part " + i + ", " + which, h.x.part(i, which), due);
      }
    }
  }

  /** The fewest parts; words before cuts; the shorter word; cuts by their first SPOT, then their second. */
  private static void theFirstOfAlike() {
    House h = new House();
    h.example("ab", "ab");
    h.x.fit();
    due(h, "a cut of 2 before words of 4", 1, 0, 2);
    h.x.clear();
    h.example("a", "ab");
    House.due("ab as a word, or a as a cut and b: 4", h.x.fit(), 4);
    House.due("the fewest parts", h.x.part(0, 0), 1);
    h.x.clear();
    h.example("a", "a");
    House.due("a word or a cut: 2", h.x.fit(), 2);
    due(h, "the word", 0, 1, 0);
    h.x.clear();
    h.example("pq", "pqx");
    h.example("rs", "rsx");
    House.due("a cut and a word", h.x.fit(), 4);
    due(h, "front 0 to front 2 before back 0", 1, 0, 2, 0, 24, 0);
    h.x.clear();
    h.example("pq", "xpq");
    h.example("rs", "xrs");
    House.due("a word and a cut", h.x.fit(), 4);
    due(h, "x, then the cut", 0, 24, 0, 1, 0, 2);
    h.x.clear();
    h.example("pqr", "q");
    h.example("stu", "t");
    h.x.fit();
    due(h, "front 1 to front 2 before back 2 to back 1", 1, 1, 2);
    h.x.clear();
    h.example("pqr", "qqq");
    House.due("three cuts or three letters", h.x.fit(), 6);
    House.due("one word", h.x.part(0, 0), 1);
    h.x.clear();
    h.example("", "abcd");
    h.x.fit();
    due(h, "the shorter word", 0, 1, 0, 0, (2 * 27 + 3) * 27 + 4, 0);
  }

  private static void numbersOfParts() {
    House h = new House();
    h.example("a", "aa");
    // one part gives aa: the word; two: each a by the word or one of nine cuts
    House.due("one part", h.x.fitting(1), 1);
    House.due("two parts", h.x.fitting(2), 100);
    House.due("three parts", h.x.fitting(3), 0);
    h.x.clear();
    h.example("a", "aaaa");
    House.due("four parts", h.x.fitting(4), 10000);
    House.due("three parts: one of them aa", h.x.fitting(3), 3 * 100);
    House.due("two parts: a aaa, aa aa, aaa a", h.x.fitting(2), 10 + 1 + 10);
    House.due("one part", h.x.fitting(1), 0);
  }

  private static void partsOutOfRange() {
    House h = new House();
    for (int what = -1; what <= 5; what++) {
      House.due("part(0, " + what + ") before any", h.x.part(0, what), -1);
    }
    h.example("pq", "pqx");
    h.example("rs", "rsx");
    h.x.fit();
    for (int i : new int[] {-1, 2, Integer.MIN_VALUE, Integer.MAX_VALUE}) {
      for (int what = 1; what <= 4; what++) {
        House.due("part(" + i + ", " + what + ")", h.x.part(i, what), -1);
      }
    }
    for (int what : new int[] {-1, 5, Integer.MIN_VALUE, Integer.MAX_VALUE}) {
      House.due("part(0, " + what + ")", h.x.part(0, what), -1);
      House.due("part(1, " + what + ")", h.x.part(1, what), -1);
    }
    House.due("how many", h.x.part(0, 0), 2);
    House.due("2 of a cut", h.x.part(0, 2), -1);
    House.due("3 of a word", h.x.part(1, 3), -1);
    House.due("4 of a word", h.x.part(1, 4), -1);
    Blocks.goDown(h);
    House.due("also when DOWN", h.x.part(0, 0) * 100 + h.x.part(1, 2), 224);
  }

  /** front k is k, back k 11 + k, before letter x the j-th 22 + 3 x + j - 1, behind 78 more. */
  private static void spotNumbers() {
    for (char letter : new char[] {'a', 'b', 'm', 'z'}) {
      int x = letter - 'a';
      for (int j = 1; j <= 3; j++) {
        String before = ("k" + letter).repeat(j - 1);
        House g = new House();
        g.example("p" + before + letter + "h", letter + "h");
        g.example(before + letter + "hhh", letter + "hhh");
        House.due("from the j-th " + letter, g.x.fit(), 3);
        House.due("before the j-th " + letter, g.x.part(0, 3), 22 + 3 * x + j - 1);
        House b = new House();
        b.example("p" + before + letter + "h", "h");
        b.example(before + letter + "uuu", "uuu");
        House.due("behind the j-th " + letter, b.x.fit(), 3);
        House.due("behind the j-th " + letter, b.x.part(0, 3), 100 + 3 * x + j - 1);
        House.due("to the back", b.x.part(0, 4), 11);
      }
    }
    House h = new House();
    h.example("abcdefghij", "j");
    h.example("z", "z");
    House.due("the last letter", h.x.fit(), 2);
    House.due("back 1", h.x.part(0, 3), 12);
    h.x.clear();
    h.example("abcdefghij", "abcdefghij");
    h.example("bcdefghija", "bcdefghija");
    House.due("ten", h.x.fit(), 2);
    House.due("front 10", h.x.part(0, 4), 10);
  }

  private static void theProgramStays() {
    House h = new House();
    h.example("a", "ab");
    House.due("ab", h.x.fit(), 4);
    h.example("c", "x");
    House.due("none fits", h.x.fit(), 0);
    House.due("it stays", h.x.part(0, 2), 29);
    h.x.clear();
    House.due("without rows", h.x.fit(), -2);
    House.due("it stays", h.x.part(0, 2), 29);
    h.example("", "q");
    House.due("fitting does not change it", h.x.fitting(1), 1);
    House.due("it stays", h.x.part(0, 2), 29);
    Blocks.goDown(h);
    h.x.start();
    House.due("start() leaves it", h.x.part(0, 2), 29);
    House.due("it can be applied", h.apply("zzz"), 2);
    h.example("", "q");
    House.due("another", h.x.fit(), 2);
    House.due("is there", h.x.part(0, 2), 17);
  }

  private static void applyLengths() {
    House h = new House();
    h.example("", "q");
    h.x.fit();
    for (int n = 0; n <= 10; n++) {
      House.due("a word of " + n, h.apply("abcdefghij".substring(0, n)), 1);
      House.due("the tape", h.x.told(7), 1);
    }
    House.due("of eleven", h.apply("abcdefghijk"), -1);
    House.due("it is used up", h.x.told(7), 0);
    for (String bad : new String[] {"A", "a b", "a1", "`", "{", "\u00e1", "ab\n", "\"a\""}) {
      House.due("no word: " + bad, h.apply(bad), -1);
      House.due("it is used up", h.x.told(7), 0);
    }
    House.due("a and z", h.apply("az"), 1);
  }

  private static void applyRefusals() {
    House h = new House();
    House.due("NONE (the tape) before STATE", h.apply("A"), -1);
    House.due("NONE (its length) before STATE", h.apply("abcdefghijk"), -1);
    House.due("STATE", h.apply("abc"), -2);
    House.due("it is used up", h.x.told(7), 0);
    House.due("STATE of no letters", h.apply(""), -2);
    h.example("xab", "ab");
    h.example("yyxc", "c");
    House.due("behind x", h.x.fit(), 3);
    House.due("there", h.apply("xq"), 1);
    House.due("no x", h.apply("ab"), -1);
    House.due("it is used up, too", h.x.told(7), 0);
    House.due("an x, but nothing behind it", h.apply("abx"), -1);
    House.due("the first x counts", h.apply("axbx"), 2);
    h.x.clear();
    h.example("abcdefghij", "abcdefghij");
    h.x.fit();
    House.due("front 10 of ten", h.apply("jjjjjjjjjj"), 10);
    House.due("front 10 of nine", h.apply("jjjjjjjjj"), -1);
  }

  /** The second SPOT of a cut is a letter's, too: it must be there, and further on. */
  private static void applySecondSpots() {
    House h = new House();
    h.example("paqbr", "q");
    h.example("zzacdbrr", "cd");
    House.due("behind a to before b", h.x.fit(), 4);
    due(h, "its spots", 1, 100, 25);
    String[] words = {"xaybz", "ab", "ba", "a", "b", "", "bab", "babb", "aabb", "caxxxxxxb", "axxb"};
    int[] letters = {1, -1, -1, -1, -1, -1, -1, -1, 1, 6, 2};
    for (int k = 0; k < words.length; k++) {
      House.due("apply " + words[k], h.apply(words[k]), letters[k]);
      House.due("the tape behind " + words[k], h.x.told(7), Math.max(0, letters[k]));
    }
    h.apply("uavwxb");
    House.due("its letters become a row", h.x.example(1), 3);
    h.x.clear();
    h.example("pxq", "px");
    h.example("x", "x");
    h.example("ttttxx", "ttttx");
    House.due("front 0 to behind the first x", h.x.fit(), 3);
    due(h, "its spots", 1, 0, 100 + 3 * 23);
    House.due("there", h.apply("abx"), 3);
    House.due("no x", h.apply("ab"), -1);
    House.due("an x that was cut off does not count", cutOff(h, "abx", 2), -1);
    House.due("nor the letters behind it", cutOff(h, "abxx", 3), 3);
    h.x.clear();
    h.example("pxq", "q");
    h.example("x", "x");
    h.example("xr", "r");
    House.due("the last letter", h.x.fit(), 2);
    due(h, "back 1 to back 0", 1, 12, 11);
    House.due("of one letter", cutOff(h, "qrs", 1), 1);
    House.due("of none", cutOff(h, "qrs", 0), -1);
  }

  private static int cutOff(House h, String word, int n) {
    h.tape(word);
    h.x.end(n);
    return h.x.apply();
  }

  /** Four cuts of ten letters are forty, and they are the tape's. */
  private static void applyManyLetters() {
    House h = new House();
    h.example("ab", "abababab");
    h.example("cd", "cdcdcdcd");
    h.example("xyz", "xyzxyzxyz");
    House.due("not all three", h.x.fit(), 0);
    h.x.clear();
    h.example("ab", "abababab");
    h.example("c", "cccc");
    House.due("four cuts", h.x.fit(), 8);
    House.due("forty letters", h.apply("abcdefghij"), 40);
    House.due("on the tape", h.x.told(7), 40);
    h.x.end(20);
    House.due("the first twenty", h.x.example(10), 3);
    h.x.sync();
    int first = 3 + (3 + 1 + 10) + (3 + 1 + 10) + (3 + 1 + 12) + 3 + (3 + 1 + 10) + (3 + 1 + 5) + 3 + 1;
    for (int i = 0; i < 20; i++) {
      House.due("letter " + i, h.x.octet(1, first + i), 'a' + i % 10);
    }
    House more = new House();
    more.example("ab", "xabab");
    more.example("c", "xcc");
    House.due("a word and two cuts", more.x.fit(), 6);
    House.due("what is given", more.apply("pq"), 5);
    House.due("becomes a row", more.x.example(1), 3);
    more.x.sync();
    String due = "xpqpq";
    for (int i = 0; i < 5; i++) {
      House.due("letter " + i, more.x.octet(1, 3 + (3 + 8) + (3 + 5) + 3 + 1 + i), due.charAt(i));
    }
  }

  private static final String[][][] ROOMS = {
    {{"aaaaabab", "aaaaaaaa"}, {"aaaabaab", "aaaaaaaa"}, {"aaabaab", "aaaaaaaaaa"}, {"abaabbab", "aaaaaaaaa"}},
    {{"aabaaab", "aaaaaaaaaa"}, {"baaaa", "aaaaaaaaa"}, {"baaaaa", "aaaaaaaaaa"}, {"aaaaaa", "aaaaaaaaa"}},
    {{"baaaaab", "aaaaaaaaaa"}, {"aabaabaa", "aaaaaaaaaa"}, {"baaaabb", "aaaaaaaaa"}, {"aabaabab", "aaaaaaaaaa"}, {"baaaaaab", "aaaaaaaaa"}}
  };

  /** 400 rows of places are not too many, 401 are. */
  private static void places400() {
    int[] due = {400, 401, 401};
    for (int k = 0; k < ROOMS.length; k++) {
      House h = new House();
      Programs model = new Programs();
      h.example("", "q");
      h.x.fit();
      h.x.clear();
      for (String[] row : ROOMS[k]) {
        h.example(row[0], row[1]);
        model.add(row[0], row[1]);
      }
      House.due("rows of places", model.places(), due[k]);
      boolean room = due[k] <= 400;
      for (int m = 1; m <= 4; m++) {
        House.due("fitting(" + m + ")", h.x.fitting(m), room ? model.count(m) : -3);
      }
      House.due("fitting(0)", h.x.fitting(0), -1);
      House.due("fitting(5)", h.x.fitting(5), -1);
      Programs.Best best = model.first();
      House.due("fit", h.x.fit(), room ? best == null ? 0 : best.price : -3);
      House.due("the program before stays where none is found", h.x.part(0, 2), room && best != null ? h.x.part(0, 2) : 17);
      House.due("fit again", h.x.fit(), room ? best == null ? 0 : best.price : -3);
      House.due("clear", h.x.clear(), ROOMS[k].length);
      h.example("", "r");
      House.due("then there is room", h.x.fit(), 2);
    }
  }

  /** Rows that were cleared leave nothing: neither letters of their INs and OUTs nor places. */
  private static void placesBehindOthers() {
    for (int k = 0; k < ROOMS.length; k++) {
      House fresh = new House();
      House used = new House();
      for (int i = 0; i < 8; i++) {
        used.example("aaaaaaaaaa", "aaaaaaaaaa");
      }
      used.x.fitting(4);
      used.x.clear();
      for (String[] row : ROOMS[k]) {
        fresh.example(row[0], row[1]);
        used.example(row[0], row[1]);
      }
      dueAlike("rows of places " + k, fresh, used);
    }
    String[][][] rows = {{{"ab", "b"}}, {{"ab", "ab"}, {"b", "b"}}, {{"", "ab"}}, {{"abc", "cab"}, {"bc", "cbc"}}, {{"a", "a"}}};
    for (String[][] each : rows) {
      House fresh = new House();
      House used = new House();
      for (int i = 0; i < 3; i++) {
        used.example("abcabcabca", "bcabcabcab");
      }
      used.x.fitting(1);
      used.x.clear();
      for (String[] row : each) {
        fresh.example(row[0], row[1]);
        used.example(row[0], row[1]);
      }
      dueAlike("rows behind longer ones, " + each[0][0], fresh, used);
    }
  }

  private static void dueAlike(String what, House fresh, House used) {
    for (int m = 1; m <= 4; m++) {
      House.due(what + ", fitting " + m, used.x.fitting(m), fresh.x.fitting(m));
    }
    House.due(what + ", fit", used.x.fit(), fresh.x.fit());
    for (int i = 0; i < 4; i++) {
      for (int which = 0; which <= 4; which++) {
        House.due(what + ", part " + i, used.x.part(i, which), fresh.x.part(i, which));
      }
    }
  }

  private long seed = 99;

  private int next(int below) {
    seed = seed * 6364136223846793005L + 1442695040888963407L;
    return (int) ((seed >>> 33) % below);
  }

  private String letters(int size, int kinds) {
    StringBuilder text = new StringBuilder();
    for (int i = 0; i < size; i++) {
      text.append((char) ('a' + next(kinds)));
    }
    return text.toString();
  }

  private static void againstTheModel() {
    WordRowsEdgeTest random = new WordRowsEdgeTest();
    int fitting = 0;
    for (int run = 0; run < 120; run++) {
      fitting += random.compare("run " + run) ? 1 : 0;
    }
    House.due("some fit, some do not", fitting > 40 && fitting < 119 ? 1 : 0, 1);
  }

  /** Rows that some program fits, or almost: whether one does. */
  private boolean compare(String what) {
    int rows = 1 + next(4);
    int kinds = 2 + next(3);
    List<Programs.Part> told = new ArrayList<>();
    for (int i = 1 + next(3); i > 0; i--) {
      int[] spots = {0, 1, 2, 11, 12, 13, 22 + next(3 * kinds), 22 + next(3 * kinds), 100 + next(3 * kinds), 100 + next(3 * kinds)};
      told.add(next(3) == 0 ? new Programs.Part(letters(1 + next(3), kinds), 0, 0) : new Programs.Part(null, spots[next(10)], spots[next(10)]));
    }
    House h = new House();
    Programs model = new Programs();
    int there = 0;
    for (int r = 0; r < rows; r++) {
      String in = letters(next(9), kinds);
      String out = Programs.give(told, in);
      if (out == null || out.isEmpty() || out.length() > 10) {
        out = next(3) == 0 ? letters(1 + next(6), kinds) : null;
      }
      if (out != null) {
        there++;
        House.due(what + ", row", h.example(in, out), there);
        model.add(in, out);
      }
    }
    if (there == 0) {
      return false;
    }
    boolean room = model.places() <= 400;
    Programs.Best best = room ? model.first() : null;
    House.due(what + ", fit", h.x.fit(), room ? best == null ? 0 : best.price : -3);
    for (int m = 1; m <= 4; m++) {
      House.due(what + ", fitting " + m, h.x.fitting(m), room ? model.count(m) : -3);
    }
    if (best == null) {
      House.due(what + ", no part", h.x.part(0, 0), -1);
      return false;
    }
    House.due(what + ", parts", h.x.part(0, 0), best.parts.size());
    for (int i = 0; i < best.parts.size(); i++) {
      Programs.Part part = best.parts.get(i);
      House.due(what + ", part " + i, h.x.part(i, 1), part.word == null ? 1 : 0);
      House.due(what + ", part " + i, h.x.part(i, 3), part.word == null ? part.first : -1);
      House.due(what + ", part " + i, h.x.part(i, 4), part.word == null ? part.second : -1);
      int code = 0;
      for (int k = 0; part.word != null && k < part.word.length(); k++) {
        code = code * 27 + part.word.charAt(k) - 'a' + 1;
      }
      House.due(what + ", part " + i, h.x.part(i, 2), part.word == null ? -1 : code);
    }
    for (int k = 0; k < 3; k++) {
      String word = letters(next(11), kinds);
      String given = Programs.give(best.parts, word);
      House.due(what + ", apply " + word, h.apply(word), given == null ? -1 : given.length());
    }
    return true;
  }
}
