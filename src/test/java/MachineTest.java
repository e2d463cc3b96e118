/** Promises 36 to 42: word, forget, machine, state, shortest, step, goal. */
public final class MachineTest {
  public static void main(String[] args) {
    words();
    least();
    againstAllMachines();
    fiveStates();
    goals();
    rowsOfActs();
    againstAllRows();
    House.finish();
  }

  private static void words() {
    House h = new House();
    House.due("another letter", h.word("abc", true), -1);
    House.due("nine letters", h.word("ababababa", true), -1);
    House.due("a blank", h.word("a b", true), -1);
    House.due("the tape is used up", h.x.told(7), 0);
    House.due("no letters", h.word("", false), 1);
    House.due("eight letters", h.word("abababab", true), 2);
    House.due("its bytes", h.x.told(5), 3 + 1 + 3 + 9);
    House.due("told as it is", h.word("", false), 2);
    House.due("that has no record", h.x.told(4), 2);
    House.due("told otherwise", h.word("", true), -2);
    House.due("told otherwise", h.word("abababab", false), -2);
    for (int i = 3; i <= 20; i++) {
      StringBuilder word = new StringBuilder();
      for (int bit = 0; bit < 5; bit++) {
        word.append((i >> bit & 1) == 1 ? 'b' : 'a');
      }
      House.due("word " + i, h.word(word.toString(), i % 2 == 0), i);
    }
    House.due("twenty at most", h.word("a", true), -3);
    House.due("but one that is there", h.word("", false), 20);
    House.due("and one told otherwise", h.word("", true), -2);
    House.due("forget", h.x.forget(), 20);
    House.due("forget of none", h.x.forget(), 0);
    House.due("records", h.x.told(4), 21);
    House.due("words", h.x.told(3), 0);
    House.due("a is not aa", h.word("a", true) + 10 * h.word("aa", false), 21);
  }

  private static void least() {
    House h = new House();
    House.due("before any", h.x.state(0, 0), -1);
    House.due("no words", h.x.machine(), 1);
    House.due("leads to itself", h.x.state(0, 0) + h.x.state(0, 1), 0);
    House.due("is not good", h.x.state(0, 2), 0);
    House.due("no such state", h.x.state(1, 0), -1);
    House.due("no such state", h.x.state(-1, 0), -1);
    House.due("no such thing", h.x.state(0, 3), -1);
    House.due("no such thing", h.x.state(0, -1), -1);
    h.word("", true);
    House.due("one good state", h.x.machine(), 1);
    House.due("is good", h.x.state(0, 2), 1);
    h.word("a", false);
    h.word("aa", true);
    House.due("even numbers of a", h.x.machine(), 2);
    House.due("from 0 by a", h.x.state(0, 0), 1);
    House.due("from 0 by b", h.x.state(0, 1), 0);
    House.due("from 1 by a", h.x.state(1, 0), 0);
    House.due("from 1 by b", h.x.state(1, 1), 0);
    House.due("0 is good", h.x.state(0, 2), 1);
    House.due("1 is not", h.x.state(1, 2), 0);
    h.word("b", true);
    h.word("ab", false);
    House.due("still two", h.x.machine(), 2);
    House.due("from 1 by b", h.x.state(1, 1), 1);
  }

  /** Compares with all machines of at most four states, looked at one by one. */
  private static void againstAllMachines() {
    long seed = 12345;
    for (int run = 0; run < 12; run++) {
      House h = new House();
      int many = 3 + run;
      String[] words = new String[many];
      boolean[] good = new boolean[many];
      for (int i = 0; i < many; i++) {
        StringBuilder word = new StringBuilder();
        seed = seed * 6364136223846793005L + 1442695040888963407L;
        int size = (int) (seed >>> 60) % 7;
        for (int k = 0; k < size; k++) {
          word.append((seed >>> 20 + k & 1) == 1 ? 'b' : 'a');
        }
        words[i] = word.toString();
        int as = words[i].replace("b", "").length();
        good[i] = as % 3 == 1 || words[i].endsWith("bb");
        h.word(words[i], good[i]);
      }
      compare("run " + run, h, words, good, 4);
    }
  }

  private static void fiveStates() {
    House h = new House();
    String[] words = {"", "a", "aa", "aaa", "aaaa", "aaaaa", "b", "ab", "ba"};
    boolean[] good = {false, false, false, false, true, false, false, false, true};
    for (int i = 0; i < words.length; i++) {
      h.word(words[i], good[i]);
    }
    compare("four a", h, words, good, 5);
    h.x.forget();
    House six = new House();
    for (int i = 0; i <= 8; i++) {
      six.word("a".repeat(i), i == 5);
    }
    House.due("six states would be wanted", six.x.machine(), 0);
    House.due("no machine was found", six.x.state(0, 0), -1);
    House five = new House();
    for (int i = 0; i <= 8; i++) {
      five.word("a".repeat(i), i % 5 == 4);
    }
    House.due("a circle of five", five.x.machine(), 5);
    for (int i = 0; i < 5; i++) {
      House.due("by a", five.x.state(i, 0), (i + 1) % 5);
      House.due("by b", five.x.state(i, 1), 0);
      House.due("good", five.x.state(i, 2), i == 4 ? 1 : 0);
    }
    five.x.forget();
    for (int i = 0; i <= 8; i++) {
      five.word("a".repeat(i), i == 5);
    }
    House.due("now six would be wanted", five.x.machine(), 0);
    House.due("the latest one that was found stays", five.x.state(4, 2), 1);
  }

  private static void compare(String what, House h, String[] words, boolean[] good, int most) {
    for (int n = 1; n <= most; n++) {
      int[] leads = firstMachine(n, words, good);
      if (leads != null) {
        House.due(what + ": states", h.x.machine(), n);
        for (int i = 0; i < 2 * n; i++) {
          House.due(what + ": leads", h.x.state(i / 2, i % 2), leads[i]);
        }
        for (int i = 0; i < n; i++) {
          House.due(what + ": good", h.x.state(i, 2), leads[2 * n + i]);
        }
        return;
      }
    }
    if (most == 5) {
      House.due(what + ": none", h.x.machine(), 0);
    }
  }

  /** Goes through all rows of moves in order. */
  private static int[] firstMachine(int n, String[] words, boolean[] good) {
    int[] leads = new int[3 * n];
    long all = 1;
    for (int i = 0; i < 2 * n; i++) {
      all *= n;
    }
    for (long code = 0; code < all; code++) {
      long rest = code;
      for (int i = 2 * n - 1; i >= 0; i--) {
        leads[i] = (int) (rest % n);
        rest /= n;
      }
      if (isNumbered(leads, n) && fits(leads, n, words, good)) {
        return leads;
      }
    }
    return null;
  }

  private static boolean isNumbered(int[] leads, int n) {
    int met = 1;
    for (int i = 0; i < 2 * n; i++) {
      if (i / 2 >= met || leads[i] > met) {
        return false;
      }
      if (leads[i] == met) {
        met++;
      }
    }
    return met == n;
  }

  private static boolean fits(int[] leads, int n, String[] words, boolean[] good) {
    int[] told = new int[n];
    for (int w = 0; w < words.length; w++) {
      int state = 0;
      for (char letter : words[w].toCharArray()) {
        state = leads[2 * state + letter - 'a'];
      }
      told[state] |= good[w] ? 1 : 2;
      if (told[state] == 3) {
        return false;
      }
    }
    for (int i = 0; i < n; i++) {
      leads[2 * n + i] = told[i] & 1;
    }
    return true;
  }

  private static void goals() {
    House h = new House();
    long same = 0xFEDCBA9876543210L;
    House.due("no acts", h.x.goal(0, 0), same);
    House.due("n below 0", h.x.goal(0, -1), 0);
    House.due("n above 8", h.x.goal(0, 9), 0);
    House.due("act 18", h.x.goal(18, 1), 0);
    House.due("act 18 behind n", h.x.goal(18 << 5, 1), same);
    House.due("act 31", h.x.goal(31L << 35, 8), 0);
    for (int first = 0; first < 18; first++) {
      for (int second = 0; second < 18; second++) {
        int third = (first * 7 + second * 3) % 18;
        long acts = first | second << 5 | third << 10;
        House.due("goal of " + first + " " + second + " " + third, h.x.goal(acts, 3), goal(first, second, third));
      }
    }
    long eight = 0;
    int[] row = {9, 13, 1, 17, 15, 3, 7, 0};
    for (int i = 0; i < 8; i++) {
      eight |= (long) row[i] << 5 * i;
    }
    House.due("eight acts", h.x.goal(eight, 8), goal(row));
  }

  private static long goal(int... acts) {
    long goal = 0;
    for (int input = 0; input < 16; input++) {
      int a = input;
      int b = 0;
      for (int act : acts) {
        int oldA = a;
        switch (act) {
          case 0: a = a + b; break;
          case 1: b = a + b; break;
          case 2: a = a - b; break;
          case 3: b = b - a; break;
          case 4: a = a ^ b; break;
          case 5: b = a ^ b; break;
          case 6: a = a & b; break;
          case 7: b = a | b; break;
          case 8: a = 15 - a; break;
          case 9: b = a; break;
          case 10: a = b; break;
          case 11: a = a + 1; break;
          case 12: b = b + 1; break;
          case 13: a = 2 * a; break;
          case 14: a = a / 2; break;
          case 15: a = b; b = oldA; break;
          case 16: a = -a; break;
          default: a = a * b; break;
        }
        a &= 15;
        b &= 15;
      }
      goal |= (long) a << 4 * input;
    }
    return goal;
  }

  private static void rowsOfActs() {
    House h = new House();
    House.due("before any", h.x.step(0), -1);
    House.due("nothing to do", h.x.shortest(0xFEDCBA9876543210L, 0), 0);
    House.due("no acts", h.x.step(0), -1);
    House.due("15 - A", h.x.shortest(goal(8), 5), 1);
    House.due("act 8", h.x.step(0), 8);
    House.due("one only", h.x.step(1), -1);
    House.due("before the first", h.x.step(-1), -1);
    House.due("most below 0", h.x.shortest(goal(8), -1), -1);
    House.due("most above 5", h.x.shortest(goal(8), 6), -1);
    House.due("what is refused changes nothing", h.x.step(0), 8);
    House.due("0: A = B", h.x.shortest(0, 5), 1);
    House.due("A and B is 0 sooner", h.x.step(0), 6);
    House.due("squares", h.x.shortest(goal(9, 17), 5), 2);
    House.due("B = A first, in the first way", h.x.step(0), 1);
    House.due("then A = A B", h.x.step(1), 17);
    House.due("of at most one", h.x.shortest(goal(9, 17), 1), 100);
    House.due("none was found", h.x.step(0), -1);
  }

  /** Goes through all rows of at most three acts in order. */
  private static void againstAllRows() {
    House h = new House();
    for (int run = 0; run < 40; run++) {
      int[] told = {run * 5 % 18, run * 11 % 18, (run * 7 + 3) % 18};
      long goal = goal(told);
      int[] first = firstRow(goal);
      House.due("run " + run, h.x.shortest(goal, 4), first.length);
      for (int i = 0; i < first.length; i++) {
        House.due("run " + run + ", act " + i, h.x.step(i), first[i]);
      }
    }
    House.due("five acts", h.x.shortest(goal(9, 17, 11, 17, 11), 5) <= 5 ? 1 : 0, 1);
    long five = 0;
    for (int i = 0; i < 5 && h.x.step(i) >= 0; i++) {
      five |= (long) h.x.step(i) << 5 * i;
    }
    House.due("lead to the goal", h.x.goal(five, 5), goal(9, 17, 11, 17, 11));
    House.due("not of at most four", h.x.shortest(goal(9, 17, 11, 17, 11), 4), 100);
  }

  private static int[] firstRow(long goal) {
    if (goal() == goal) {
      return new int[0];
    }
    for (int a = 0; a < 18; a++) {
      if (goal(a) == goal) {
        return new int[] {a};
      }
    }
    for (int a = 0; a < 18 * 18; a++) {
      if (goal(a / 18, a % 18) == goal) {
        return new int[] {a / 18, a % 18};
      }
    }
    for (int a = 0; a < 18 * 18 * 18; a++) {
      if (goal(a / 324, a / 18 % 18, a % 18) == goal) {
        return new int[] {a / 324, a / 18 % 18, a % 18};
      }
    }
    return new int[4];
  }
}
