import java.util.Arrays;

/** MACHINES for words and ROWS OF ACTS at their bounds; promises 36 to 42. */
public final class MachineEdgeTest {
  public static void main(String[] args) {
    lengthsOfWords();
    lettersOfWords();
    twentyWords();
    wordsToldAgain();
    wordOrder();
    forgetting();
    oneState();
    statesThatNoWordTells();
    fiveStates();
    theFirstByWhereItGoes();
    statesOutOfRange();
    theMachineStays();
    fiveAgainstAll();
    twentyAgainstAll();
    wordsThatWereCut();
    goalsOfNoActs();
    goalsOfActs();
    goalsUpToEight();
    actsModulo16();
    mostOfFive();
    theShortest();
    theFirstByItsActs();
    stepsOutOfRange();
    stepsOfTheLatest();
    rowsOfFive();
    whileDown();
    House.finish();
  }

  private static void lengthsOfWords() {
    for (int n = 0; n <= 10; n++) {
      House h = new House();
      House.due("a word of " + n, h.word("ba".repeat(5).substring(0, n), true), n <= 8 ? 1 : -1);
      House.due("the tape is used up", h.x.told(7), 0);
      House.due("words", h.x.told(3), n <= 8 ? 1 : 0);
      House.due("bytes of its record", h.x.told(5), n <= 8 ? 4 + n : 0);
    }
  }

  private static void lettersOfWords() {
    for (String bad : new String[] {"c", "`", "A", "z", " ", "\n", "1", "\u00e1", "\u0000", "\""}) {
      House h = new House();
      House.due("alone: " + bad, h.word(bad, true), -1);
      House.due("first: " + bad, h.word(bad + "ab", true), -1);
      House.due("last: " + bad, h.word("ab" + bad, false), -1);
      House.due("no words", h.x.told(3) + h.x.told(4), 0);
    }
    House h = new House();
    House.due("a", h.word("a", true), 1);
    House.due("b", h.word("b", true), 2);
  }

  private static String bits(int i) {
    return Integer.toBinaryString(32 + i).substring(1).replace('0', 'a').replace('1', 'b');
  }

  private static void twentyWords() {
    House h = new House();
    for (int i = 1; i <= 20; i++) {
      House.due("word " + i, h.word(bits(i), i % 3 == 0), i);
    }
    House.due("the 21st", h.word("a", true), -3);
    House.due("the tape is used up", h.x.told(7), 0);
    House.due("twenty", h.x.told(3), 20);
    House.due("twenty records", h.x.told(4), 20);
    House.due("one of them, as it is", h.word(bits(20), false), 20);
    House.due("one of them, otherwise", h.word(bits(20), true), -2);
    House.due("all go", h.x.forget(), 20);
    House.due("there is room again", h.word("a", true), 1);
  }

  private static void wordsToldAgain() {
    House h = new House();
    House.due("none", h.word("", true), 1);
    House.due("as it is", h.word("", true), 1);
    House.due("otherwise", h.word("", false), -2);
    House.due("the tape is used up", h.x.told(7), 0);
    House.due("one record", h.x.told(4), 1);
    House.due("a", h.word("a", false), 2);
    House.due("aa is another", h.word("aa", true), 3);
    House.due("ab is another", h.word("ab", true), 4);
    House.due("ba is another", h.word("ba", false), 5);
    House.due("a as it is", h.word("a", false), 5);
    House.due("ab otherwise", h.word("ab", false), -2);
    House.due("ba otherwise", h.word("ba", true), -2);
    House.due("eight a", h.word("aaaaaaaa", false), 6);
    House.due("seven a", h.word("aaaaaaa", true), 7);
    House.due("eight b", h.word("bbbbbbbb", false), 8);
    House.due("seven records more", h.x.told(4), 8);
    House.due("it stays as it was", h.x.forget(), 8);
    House.due("now it may be otherwise", h.word("", false), 1);
  }

  /** NONE, STATE, ROOM in this order. */
  private static void wordOrder() {
    House h = new House();
    for (int i = 1; i <= 20; i++) {
      h.word(bits(i), true);
    }
    House.due("NONE before ROOM", h.word("abc", true), -1);
    House.due("NONE before ROOM: its length", h.word("aaaaaaaaa", true), -1);
    House.due("STATE before ROOM", h.word(bits(1), false), -2);
    House.due("ROOM", h.word("", false), -3);
  }

  private static void forgetting() {
    House h = new House();
    House.due("of none", h.x.forget(), 0);
    House.due("no record", h.x.told(4), 0);
    h.word("a", true);
    House.due("of one", h.x.forget(), 1);
    House.due("two records", h.x.told(4), 2);
    House.due("their bytes", h.x.told(5), 5 + 3);
    House.due("of none", h.x.forget(), 0);
    House.due("two records", h.x.told(4), 2);
    House.due("word rows stay", h.example("a", "b") + h.x.forget(), 1);
  }

  private static void machine(House h, String what, int... told) {
    House.due(what, h.x.machine(), told.length / 3);
    for (int i = 0; i < told.length; i++) {
      House.due(what + ", state " + i / 3 + ", " + i % 3, h.x.state(i / 3, i % 3), told[i]);
    }
    House.due(what + ", no other state", h.x.state(told.length / 3, 0), -1);
  }

  private static void oneState() {
    House h = new House();
    machine(h, "no words", 0, 0, 0);
    h.word("ab", false);
    machine(h, "one that is not good", 0, 0, 0);
    h.word("", false);
    machine(h, "none is good", 0, 0, 0);
    h.x.forget();
    h.word("ab", true);
    h.word("bbbbbbbb", true);
    machine(h, "all are good", 0, 0, 1);
    h.word("a", false);
    House.due("now two", h.x.machine(), 2);
  }

  /** GOOD ones stand behind others: a state in which no word ends is not GOOD. */
  private static void statesThatNoWordTells() {
    House h = new House();
    h.word("aa", true);
    h.word("", false);
    machine(h, "aa alone is good", 1, 0, 0, 1, 0, 1);
    h.x.forget();
    h.word("aa", true);
    h.word("a", false);
    h.word("", false);
    House.due("three states", h.x.machine(), 3);
    House.due("the last one is good", h.x.state(2, 2), 1);
    House.due("the others are not", h.x.state(0, 2) + h.x.state(1, 2), 0);
    h.x.forget();
    h.word("", false);
    h.word("a", true);
    h.word("aaa", false);
    machine(h, "no word ends in 2", 1, 0, 0, 2, 0, 1, 0, 0, 0);
  }

  private static void fiveStates() {
    House h = new House();
    for (int i = 0; i <= 8; i++) {
      h.word("a".repeat(i), i == 4);
    }
    machine(h, "five", 1, 0, 0, 2, 0, 0, 3, 0, 0, 4, 0, 0, 0, 0, 1);
    h.x.forget();
    for (int i = 0; i <= 8; i++) {
      h.word("a".repeat(i), i == 5);
    }
    House.due("six", h.x.machine(), 0);
    House.due("the latest that was found stays", h.x.state(4, 2), 1);
    House four = new House();
    for (int i = 0; i <= 8; i++) {
      four.word("b".repeat(i), i % 4 == 3);
    }
    machine(four, "four", 0, 1, 0, 0, 2, 0, 0, 3, 0, 0, 0, 1);
  }

  private static void theFirstByWhereItGoes() {
    House h = new House();
    h.word("", false);
    h.word("a", true);
    machine(h, "a leads to another", 1, 0, 0, 0, 0, 1);
    h.x.forget();
    h.word("", false);
    h.word("b", true);
    machine(h, "a stays, b leads to another", 0, 1, 0, 0, 0, 1);
    h.x.forget();
    h.word("", true);
    h.word("b", false);
    machine(h, "the first is good", 0, 1, 1, 0, 0, 0);
    h.x.forget();
    h.word("", false);
    h.word("b", true);
    h.word("bb", true);
    machine(h, "b leads on to itself", 0, 1, 0, 0, 1, 1);
    h.x.forget();
    h.word("", false);
    h.word("b", true);
    h.word("ba", true);
    machine(h, "a leads back to it", 0, 1, 0, 1, 0, 1);
  }

  private static void statesOutOfRange() {
    House h = new House();
    for (int what = -1; what <= 3; what++) {
      House.due("state(0, " + what + ") before any", h.x.state(0, what), -1);
    }
    h.word("", false);
    h.word("a", true);
    House.due("two", h.x.machine(), 2);
    for (int i : new int[] {-1, 2, 5, Integer.MAX_VALUE, Integer.MIN_VALUE}) {
      for (int what = 0; what <= 2; what++) {
        House.due("state(" + i + ", " + what + ")", h.x.state(i, what), -1);
      }
    }
    for (int what : new int[] {-1, 3, Integer.MAX_VALUE, Integer.MIN_VALUE}) {
      House.due("state(0, " + what + ")", h.x.state(0, what), -1);
      House.due("state(1, " + what + ")", h.x.state(1, what), -1);
    }
    House.due("state(1, 2)", h.x.state(1, 2), 1);
  }

  private static void theMachineStays() {
    House h = new House();
    h.word("", false);
    h.word("a", true);
    House.due("two", h.x.machine(), 2);
    h.word("b", true);
    h.x.forget();
    House.due("words change it not", h.x.state(0, 0) * 10 + h.x.state(1, 2), 11);
    Blocks.goDown(h);
    House.due("also when DOWN", h.x.state(1, 2), 1);
    House.due("machine() when DOWN", h.x.machine(), -5);
    h.x.start();
    House.due("start() leaves it", h.x.state(1, 2), 1);
    House.due("another", h.x.machine(), 1);
    House.due("is there", h.x.state(1, 2), -1);
  }

  private static void fiveAgainstAll() {
    String[][] sets = {
      {"", "a", "aa", "aaa", "aaaa+", "b", "ab+", "bb", "ba"},
      {"+", "ab", "ba+", "abab", "bbaa+", "aab", "bab", "abb+", "b", "aaa", "bbb+"},
      {"aab+", "ab", "b", "abab+", "bb+", "", "baa", "aabb", "bba+", "abba", "babb+", "aaaa"}
    };
    for (String[] set : sets) {
      againstAll(set);
    }
  }

  /** Words, those with a + good ones: THE LEAST is the first of all machines that fits. */
  private static void againstAll(String... set) {
    House h = new House();
    String[] words = new String[set.length];
    boolean[] good = new boolean[set.length];
    for (int i = 0; i < set.length; i++) {
      good[i] = set[i].endsWith("+");
      words[i] = set[i].replace("+", "");
      House.due("word", h.word(words[i], good[i]), i + 1);
    }
    int[] found = null;
    int n = 0;
    while (found == null && n < 5) {
      n++;
      found = first(n, new int[3 * n], 0, 0, words, good);
    }
    House.due("states", h.x.machine(), found == null ? 0 : n);
    for (int i = 0; found != null && i < n; i++) {
      House.due("by a", h.x.state(i, 0), found[2 * i]);
      House.due("by b", h.x.state(i, 1), found[2 * i + 1]);
      House.due("good", h.x.state(i, 2), found[2 * n + i]);
    }
  }

  /** As many words as there may be, the last one among them that counts. */
  private static void twentyAgainstAll() {
    for (int rule = 0; rule < 6; rule++) {
      String[] set = new String[20];
      for (int i = 0; i < 20; i++) {
        String word = bits(i).substring(i % 3);
        int as = word.replace("b", "").length();
        boolean[] good = {as % 2 == 0, as % 3 == 1, word.endsWith("ab"), i == 19, word.contains("bb"), i % 5 == 4};
        set[i] = (word.length() == 5 ? word : word + "abb".substring(0, i % 3 + 1)) + (good[rule] ? "+" : "");
      }
      againstAll(set);
    }
  }

  /** A word that end() has cut is as long as it is told: what stood behind it does not count. */
  private static void wordsThatWereCut() {
    House h = new House();
    House.due("ab", h.word("ab", true), 1);
    for (String longer : new String[] {"aba", "abb", "abbb", "abc", "ab ab"}) {
      h.tape(longer);
      h.x.end(2);
      House.due("ab of " + longer, h.x.word(true), 1);
      h.tape(longer);
      h.x.end(2);
      House.due("ab of " + longer + ", otherwise", h.x.word(false), -2);
    }
    h.tape("bbbb");
    h.x.end(0);
    House.due("none of bbbb", h.x.word(false), 2);
    House.due("no letters", h.word("", false), 2);
    House.due("the machine", h.x.machine(), 2);
  }

  /** Sets the moves one by one, and looks at the words when all are set. */
  private static int[] first(int n, int[] leads, int move, int met, String[] words, boolean[] good) {
    if (move == 2 * n) {
      return met == n - 1 && fits(n, leads, words, good) ? leads : null;
    }
    for (int to = 0; move / 2 <= met && to <= met + 1 && to < n; to++) {
      leads[move] = to;
      int[] found = first(n, leads, move + 1, Math.max(met, to), words, good);
      if (found != null) {
        return found;
      }
    }
    return null;
  }

  private static boolean fits(int n, int[] leads, String[] words, boolean[] good) {
    int[] told = new int[n];
    for (int w = 0; w < words.length; w++) {
      int state = 0;
      for (int i = 0; i < words[w].length(); i++) {
        state = leads[2 * state + words[w].charAt(i) - 'a'];
      }
      told[state] |= good[w] ? 1 : 2;
    }
    for (int i = 0; i < n; i++) {
      if (told[i] == 3) {
        return false;
      }
      leads[2 * n + i] = told[i] & 1;
    }
    return true;
  }

  private static final long SAME = 0xFEDCBA9876543210L;

  private static void goalsOfNoActs() {
    House h = new House();
    House.due("n = 0", h.x.goal(0, 0), SAME);
    House.due("n = 0, whatever the acts are", h.x.goal(-1, 0), SAME);
    for (int n : new int[] {-1, 9, Integer.MIN_VALUE, Integer.MAX_VALUE}) {
      House.due("n = " + n, h.x.goal(0, n), 0);
    }
  }

  /** 17 is an act, 18 is none; what stands behind the n acts is not looked at. */
  private static void goalsOfActs() {
    House h = new House();
    House.due("17", h.x.goal(17, 1), 0);
    House.due("16", h.x.goal(16, 1), 0x123456789ABCDEF0L);
    for (long act = 18; act < 32; act++) {
      for (int at = 0; at < 8; at += 7) {
        House.due("act " + act + " as number " + at, h.x.goal(act << 5 * at | (at == 0 ? 0 : 0x2108421084L), at + 1), 0);
      }
      House.due("act " + act + " behind one", h.x.goal(8 | act << 5, 1), ~SAME);
    }
    House.due("bits above the acts", h.x.goal(-1L << 5 | 8, 1), ~SAME);
    House.due("eight acts of 8", h.x.goal(pack(8, 8, 8, 8, 8, 8, 8, 8), 8), SAME);
    House.due("seven acts of 8", h.x.goal(pack(8, 8, 8, 8, 8, 8, 8), 7), ~SAME);
    House.due("two acts of 8 are none", h.x.goal(pack(8, 8), 2), SAME);
  }

  private static long pack(int... acts) {
    long packed = 0;
    for (int i = 0; i < acts.length; i++) {
      packed |= (long) acts[i] << 5 * i;
    }
    return packed;
  }

  private static void goalsUpToEight() {
    House h = new House();
    int[] row = {9, 11, 17, 12, 0, 15, 3, 2};
    for (int n = 0; n <= 8; n++) {
      int[] acts = Arrays.copyOf(row, n);
      House.due(n + " acts", h.x.goal(pack(row), n), goal(acts));
    }
    House.due("nine acts", h.x.goal(pack(row), 9), 0);
  }

  private static int[] step(int act, int a, int b) {
    int x = a;
    int y = b;
    switch (act) {
      case 0: x = a + b; break;
      case 1: y = a + b; break;
      case 2: x = a - b; break;
      case 3: y = b - a; break;
      case 4: x = a ^ b; break;
      case 5: y = a ^ b; break;
      case 6: x = a & b; break;
      case 7: y = a | b; break;
      case 8: x = 15 - a; break;
      case 9: y = a; break;
      case 10: x = b; break;
      case 11: x = a + 1; break;
      case 12: y = b + 1; break;
      case 13: x = 2 * a; break;
      case 14: x = a / 2; break;
      case 15: x = b; y = a; break;
      case 16: x = -a; break;
      default: x = a * b; break;
    }
    return new int[] {x & 15, y & 15};
  }

  private static long goal(int... acts) {
    long goal = 0;
    for (int input = 0; input < 16; input++) {
      int[] both = {input, 0};
      for (int act : acts) {
        both = step(act, both[0], both[1]);
      }
      goal |= (long) both[0] << 4 * input;
    }
    return goal;
  }

  /** Each act for all A and B: A is the input; B is made 0 .. 15 before, or A itself. */
  private static void actsModulo16() {
    for (int act = 0; act < 18; act++) {
      House h = new House();
      for (int[] before : new int[][] {{}, {9}, {12}, {12, 12}, {9, 12}, {9, 11}, {9, 13}, {9, 8}, {9, 14}, {12, 3}, {9, 16}, {12, 12, 12}}) {
        int[] row = Arrays.copyOf(before, before.length + 2);
        row[before.length] = act;
        for (int last : new int[] {8, 10, 15, 0}) {
          row[before.length + 1] = last;
          House.due("act " + act + " behind " + Arrays.toString(before), h.x.goal(pack(row), row.length), goal(row));
        }
      }
    }
  }

  private static void mostOfFive() {
    House h = new House();
    for (int most : new int[] {-1, 6, Integer.MIN_VALUE, Integer.MAX_VALUE}) {
      House.due("most = " + most, h.x.shortest(SAME, most), -1);
    }
    House.due("0 acts of 0", h.x.shortest(SAME, 0), 0);
    House.due("0 acts of 5", h.x.shortest(SAME, 5), 0);
    House.due("1 of 0", h.x.shortest(~SAME, 0), 100);
    House.due("1 of 1", h.x.shortest(~SAME, 1), 1);
    House.due("2 of 1", h.x.shortest(goal(9, 17), 1), 100);
    House.due("2 of 2", h.x.shortest(goal(9, 17), 2), 2);
    House.due("none of 5", h.x.shortest(0x0123012301230124L, 5), 100);
  }

  private static void theShortest() {
    House h = new House();
    for (int act = 0; act < 18; act++) {
      long goal = goal(act);
      int due = goal == SAME ? 0 : 1;
      int first = 0;
      while (goal(first) != goal) {
        first++;
      }
      House.due("act " + act, h.x.shortest(goal, 3), due);
      House.due("its first one", h.x.step(0), due == 0 ? -1 : first);
    }
  }

  private static void theFirstByItsActs() {
    House h = new House();
    House.due("0: A and B, before A = B", h.x.shortest(0, 5), 1);
    House.due("act 6", h.x.step(0), 6);
    House.due("2 A", h.x.shortest(goal(13), 5), 1);
    House.due("13", h.x.step(0), 13);
    House.due("3 A", h.x.shortest(goal(9, 13, 0), 5), 3);
    House.due("in the first way", h.x.step(0) * 10000 + h.x.step(1) * 100 + h.x.step(2), 1 * 10000 + 0 * 100 + 0);
  }

  private static void stepsOutOfRange() {
    House h = new House();
    House.due("before any", h.x.step(0), -1);
    h.x.shortest(goal(9, 17), 5);
    for (int i : new int[] {-1, 2, 5, Integer.MIN_VALUE, Integer.MAX_VALUE}) {
      House.due("step(" + i + ")", h.x.step(i), -1);
    }
    House.due("step(1)", h.x.step(1), 17);
    h.x.shortest(SAME, 5);
    House.due("a row of no acts", h.x.step(0), -1);
  }

  private static void stepsOfTheLatest() {
    House h = new House();
    h.x.shortest(goal(9, 17), 5);
    House.due("refused", h.x.shortest(SAME, 6), -1);
    House.due("that changes nothing", h.x.step(1), 17);
    House.due("goal() changes nothing", h.x.goal(pack(8, 8), 2), SAME);
    House.due("it stays", h.x.step(1), 17);
    Blocks.goDown(h);
    House.due("shortest() when DOWN", h.x.shortest(SAME, 5), -5);
    House.due("also when DOWN", h.x.step(1), 17);
    h.x.start();
    House.due("start() leaves it", h.x.step(1), 17);
    House.due("a shorter one", h.x.shortest(~SAME, 5), 1);
    House.due("is there", h.x.step(0), 8);
    House.due("without the old one", h.x.step(1), -1);
  }

  /** All rows of up to five acts, gone through in order. */
  private static void rowsOfFive() {
    int[][] told = {{9, 17, 11, 17, 11}, {12, 0, 9, 17, 14}, {11, 9, 14, 17, 16}, {14, 14, 9, 13, 1}, {7, 14, 5, 17, 0}};
    for (int[] row : told) {
      House h = new House();
      long goal = goal(row);
      int[] found = null;
      for (int n = 0; n <= 5 && found == null; n++) {
        found = search(goal, n, 0, new int[n], start());
      }
      House.due("a row for " + goal, h.x.shortest(goal, 5), found.length);
      for (int i = 0; i < found.length; i++) {
        House.due("act " + i, h.x.step(i), found[i]);
      }
      House.due("not of fewer", found.length == 0 ? 100 : h.x.shortest(goal, found.length - 1), 100);
    }
  }

  private static int[] start() {
    int[] both = new int[32];
    for (int i = 0; i < 16; i++) {
      both[i] = i;
    }
    return both;
  }

  private static int[] search(long goal, int n, int at, int[] row, int[] both) {
    if (at == n) {
      for (int i = 0; i < 16; i++) {
        if (both[i] != (goal >>> 4 * i & 15)) {
          return null;
        }
      }
      return row;
    }
    for (int act = 0; act < 18; act++) {
      int[] next = new int[32];
      boolean can = true;
      for (int i = 0; i < 16 && can; i++) {
        int[] two = step(act, both[i], both[16 + i]);
        next[i] = two[0];
        next[16 + i] = two[1];
        can = at < n - 1 || two[0] == (goal >>> 4 * i & 15);
      }
      row[at] = act;
      int[] found = can ? search(goal, n, at + 1, row, next) : null;
      if (found != null) {
        return found;
      }
    }
    return null;
  }

  private static void whileDown() {
    House h = new House();
    Blocks.goDown(h);
    h.tape("ab");
    House.due("word", h.x.word(true), -5);
    House.due("forget", h.x.forget(), -5);
    House.due("machine", h.x.machine(), -5);
    House.due("shortest, and NONE", h.x.shortest(0, 6), -5);
    House.due("goal", h.x.goal(8, 1), ~SAME);
    House.due("goal of none", h.x.goal(8, 9), 0);
    h.x.start();
    House.due("the tape was not used up", h.x.told(7), 2);
  }
}
