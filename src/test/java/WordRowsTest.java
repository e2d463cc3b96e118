/** Promises 30 to 35: example, clear, fit, fitting, part, apply. */
public final class WordRowsTest {
  public static void main(String[] args) {
    rows();
    oneRow();
    programs();
    spots();
    ordering();
    rooms();
    applying();
    House.finish();
  }

  private static void rows() {
    House h = new House();
    House.due("n below 0", example(h, "ab", -1), -1);
    House.due("n above the tape", example(h, "ab", 3), -1);
    House.due("no OUT", example(h, "ab", 2), -1);
    House.due("IN of 11", example(h, "abcdefghijka", 11), -1);
    House.due("OUT of 11", example(h, "aabcdefghijk", 1), -1);
    House.due("another byte", example(h, "a b", 1), -1);
    House.due("another letter", example(h, "aBc", 1), -1);
    House.due("a { is behind z", example(h, "a{c", 1), -1);
    House.due("the tape is used up", h.x.told(7), 0);
    House.due("no record", h.x.told(4), 0);
    House.due("IN of none", example(h, "a", 0), 1);
    House.due("both of 10", example(h, "abcdefghijabcdefghij", 10), 2);
    House.due("records", h.x.told(5), 3 + 2 + 3 + 21);
    House.due("clear", h.x.clear(), 2);
    House.due("its record", h.x.told(5), 3 + 2 + 3 + 21 + 3);
    House.due("clear of none", h.x.clear(), 0);
    House.due("has no record", h.x.told(4), 3);
    for (int i = 1; i <= 8; i++) {
      House.due("row " + i, example(h, "ab", 1), i);
    }
    House.due("eight at most", example(h, "ab", 1), -3);
    House.due("NONE comes first", example(h, "ab", 2), -1);
    House.due("rows", h.x.told(2), 8);
  }

  private static int example(House h, String text, int n) {
    h.tape(text);
    return h.x.example(n);
  }

  private static void oneRow() {
    House h = new House();
    House.due("fit without rows", h.x.fit(), -2);
    House.due("fitting 0", h.x.fitting(0), -1);
    House.due("fitting 5", h.x.fitting(5), -1);
    House.due("fitting without rows", h.x.fitting(1), -2);
    h.example("", "ab");
    House.due("words alone", h.x.fit(), 4);
    House.due("the fewest parts", h.x.part(0, 0), 1);
    House.due("a word", h.x.part(0, 1), 0);
    House.due("its letters", h.x.part(0, 2), 29);
    House.due("no spots", h.x.part(0, 3), -1);
    House.due("no spots", h.x.part(0, 4), -1);
    House.due("ab", h.x.fitting(1), 1);
    House.due("a b", h.x.fitting(2), 1);
    House.due("no more", h.x.fitting(3), 0);
    h.x.clear();
    h.example("", "abcd");
    House.due("at most three letters a word", h.x.fit(), 8);
    House.due("two parts", h.x.part(9, 0), 2);
    House.due("the shorter word first", h.x.part(0, 2), 1);
    House.due("then the rest", h.x.part(1, 2), (2 * 27 + 3) * 27 + 4);
    House.due("1 3, 2 2, 3 1", h.x.fitting(2), 3);
    House.due("1 1 2, 1 2 1, 2 1 1", h.x.fitting(3), 3);
    House.due("1 1 1 1", h.x.fitting(4), 1);
    h.x.clear();
    h.example("", "abcdefghij");
    House.due("ten letters by four words", h.x.fit(), 20);
    House.due("four parts", h.x.part(0, 0), 4);
    House.due("one letter first", h.x.part(0, 2), 1);
    h.x.clear();
    h.example("ab", "ba");
    h.example("cd", "xx");
    House.due("nothing fits", h.x.fit(), 0);
    House.due("the program before stays", h.x.part(0, 0), 4);
    House.due("none of any length", h.x.fitting(1) + h.x.fitting(2) + h.x.fitting(3) + h.x.fitting(4), 0);
  }

  private static void programs() {
    House h = new House();
    h.example("abxcd", "cdx");
    h.example("qxr", "rx");
    h.example("uvwxyz", "yzx");
    House.due("behind the x, then an x", h.x.fit(), 2 + 1 + 2);
    House.due("two parts", h.x.part(0, 0), 2);
    House.due("a cut", h.x.part(0, 1), 1);
    House.due("from behind the first x", h.x.part(0, 3), 22 + 3 * 23 + 78);
    House.due("to the back", h.x.part(0, 4), 11);
    House.due("no letters", h.x.part(0, 2), -1);
    House.due("a word", h.x.part(1, 1), 0);
    House.due("x", h.x.part(1, 2), 24);
    House.due("no such part", h.x.part(2, 1), -1);
    House.due("no such part", h.x.part(-1, 1), -1);
    House.due("no such thing", h.x.part(0, 5), -1);
    House.due("no such thing", h.x.part(0, -1), -1);
    House.due("of one part none", h.x.fitting(1), 0);
  }

  private static void spots() {
    House h = new House();
    h.example("a", "a");
    // spots at 0: front 0, back 1, before a 1; at 1: front 1, back 0, behind a 1: nine cuts, and the word
    House.due("programs of one part", h.x.fitting(1), 10);
    House.due("the price", h.x.fit(), 2);
    House.due("the word is before cuts of its price", h.x.part(0, 1), 0);
    h.x.clear();
    h.example("aaaa", "a");
    // spots: 0: f0 b4 before1; 1: f1 b3 behind1 before2; 2: f2 b2 behind2 before3; 3: f3 b1 behind3; 4: f4 b0
    House.due("the fourth a has no spots of its letter", h.x.fitting(1), 3 * 4 + 4 * 4 + 4 * 3 + 3 * 2 + 1);
  }

  private static void ordering() {
    House h = new House();
    h.example("abcabc", "abcabc");
    House.due("a cut of all", h.x.fit(), 2);
    House.due("front 0", h.x.part(0, 3), 0);
    House.due("front 6", h.x.part(0, 4), 6);
    h.example("ab", "ab");
    House.due("front 6 is not there now", h.x.fit(), 2);
    House.due("front 0", h.x.part(0, 3), 0);
    House.due("back 0", h.x.part(0, 4), 11);
    h.x.clear();
    h.example("xabc", "abc");
    h.example("yyyab", "ab");
    House.due("before an a", h.x.fit(), 3);
    House.due("before a 1", h.x.part(0, 3), 22);
    House.due("back 0", h.x.part(0, 4), 11);
    h.x.clear();
    h.example("abc", "cab");
    House.due("two cuts, or a letter and a cut", h.x.fit(), 4);
    House.due("two parts", h.x.part(0, 0), 2);
    House.due("words before cuts", h.x.part(0, 1), 0);
    House.due("c", h.x.part(0, 2), 3);
    House.due("then front 0", h.x.part(1, 3), 0);
    House.due("to front 2", h.x.part(1, 4), 2);
  }

  /** Rows whose parts lead to just 400 rows of places, and to 401. */
  private static void rooms() {
    House h = new House();
    h.example("aaaaabab", "aaaaaaaa");
    h.example("aaaabaab", "aaaaaaaa");
    h.example("aaabaab", "aaaaaaaaaa");
    h.example("abaabbab", "aaaaaaaaa");
    House.due("400 rows of places", h.x.fit() >= 0 ? 1 : 0, 1);
    House.due("are not too many", h.x.fitting(1), 0);
    h.x.clear();
    h.example("aabaaab", "aaaaaaaaaa");
    h.example("baaaa", "aaaaaaaaa");
    h.example("baaaaa", "aaaaaaaaaa");
    h.example("aaaaaa", "aaaaaaaaa");
    House.due("401 are", h.x.fit(), -3);
    House.due("for all numbers of parts", h.x.fitting(1) + h.x.fitting(4), -6);
    House.due("m comes before", h.x.fitting(5), -1);
    h.x.clear();
    h.example("baaaaab", "aaaaaaaaaa");
    h.example("aabaabaa", "aaaaaaaaaa");
    h.example("baaaabb", "aaaaaaaaa");
    h.example("aabaabab", "aaaaaaaaaa");
    h.example("baaaaaab", "aaaaaaaaa");
    House.due("401 of five rows", h.x.fit(), -3);
    h.x.clear();
    House.due("no rows", h.x.fit(), -2);
  }

  private static void applying() {
    House h = new House();
    House.due("no program", h.apply("abc"), -2);
    House.due("no word comes before that", h.apply("a1"), -1);
    House.due("nor one of 11 letters", h.apply("abcdefghijk"), -1);
    h.example("abxcd", "cdx");
    h.example("qxr", "rx");
    h.example("uvwxyz", "yzx");
    h.x.fit();
    House.due("what it gives", h.apply("kkxlmn"), 4);
    House.due("becomes the tape's", h.x.told(7), 4);
    House.due("its letters are lmnx", h.x.learn(), -2);
    House.due("no x", h.apply("abc"), -1);
    House.due("it is used up", h.x.told(7), 0);
    House.due("nothing behind the x", h.apply("abx"), -1);
    House.due("none at all", h.apply(""), -1);
    h.x.clear();
    House.due("the program stays", h.apply("axbb"), 3);
    h.tape("");
    h.example("", "hey");
    h.x.fit();
    House.due("a program of words alone", h.apply(""), 3);
    h.example("", "you");
    House.due("none fits both", h.x.fit(), 0);
    House.due("the one before stays", h.apply("abc"), 3);
    letters();
    House twice = new House();
    twice.example("abcdefghij", "abcdefghij");
    twice.x.fit();
    House.due("ten letters", twice.apply("zzzzzzzzzz"), 10);
    House.due("front 10 of nine", twice.apply("zzzzzzzzz"), -1);
  }

  /** What is given is read from the tape as a word for machines. */
  private static void letters() {
    House h = new House();
    h.example("cabd", "abaab");
    h.example("caad", "aaaab");
    h.example("cbbad", "bbaaab");
    House.due("behind the c, before the d, then aab", h.x.fit(), 1 + 1 + 6);
    House.due("two parts", h.x.part(0, 0), 2);
    House.due("a cut from 1 on", h.x.part(0, 3), 1);
    House.due("to 1 from the back", h.x.part(0, 4), 12);
    House.due("aab", h.x.part(1, 2), (1 * 27 + 1) * 27 + 2);
    House.due("what it gives for abba", h.apply("abba"), 5);
    House.due("is a word", h.x.word(true), 1);
    House.due("bbaab", h.word("bbaab", false), -2);
    House.due("no other one", h.word("bbaaa", false), 2);
  }
}
