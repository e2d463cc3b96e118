/** Promises 26 to 29: loop, runs, span, keeps. */
public final class LoopTest {
  public static void main(String[] args) {
    counting();
    endless();
    errors();
    truths();
    keeping();
    faults();
    refusals();
    keepsWithoutALoop(new House());
    keepsBehindAStart();
    House.finish();
  }

  private static void counting() {
    House h = new House();
    House.due("states", h.loop("loop n from a while less(0,a) do sub(a,1) give a"), 16);
    for (int i = 0; i < 16; i++) {
      House.due("it ends", h.x.runs(i, 0), 1);
      House.due("its meetings", h.x.runs(i, 1), i + 1);
      House.due("its answer", h.x.runs(i, 2), 0);
    }
    House.due("the least", h.x.span(0, 0), 0);
    House.due("the greatest", h.x.span(0, 1), 15);
    House.due("two inputs, three variables", h.loop("loop n n from a, b, 0 while less(0,b) do a, sub(b,1), add(c,a) give c") > 0 ? 1 : 0, 1);
    for (int i = 0; i < 256; i++) {
      House.due("a product", h.x.runs(i, 2), (i / 16) * (i % 16) & 15);
    }
    House.due("no such input", h.x.runs(256, 0), -1);
    h = new House();
    h.loop("loop n n from a, b, 0 while less(0,b) do a, sub(b,1), add(c,a) give c");
    for (int i = 0; i < 256; i++) {
      House.due("its meetings", h.x.runs(i, 1), i % 16 + 1);
    }
    House.due("all from the STATE before", h.loop("loop n from a, 1 while less(a,9) do b, add(a,b) give b") > 0 ? 1 : 0, 1);
    House.due("its answer: (0,1) (1,1) (1,2) (2,3) (3,5) (5,8) (8,13) (13,5)", h.x.runs(0, 2), 5);
    House.due("its meetings", h.x.runs(0, 1), 8);
    House.due("a word as an answer", h.loop("loop n from a while false do a give sign(a)"), 16);
    House.due("its letter", h.x.runs(3, 2), 4);
    House.due("at most two kinds of inputs", h.loop("loop t n from b, a while a do add(a,1), b give 7"), -13);
  }

  private static void endless() {
    House h = new House();
    House.due("states", h.loop("loop n from a while less(a,8) do xor(a,1) give a"), 16);
    House.due("endless", h.x.runs(3, 0), 0);
    House.due("the meetings before a state comes again", h.x.runs(3, 1), 2);
    House.due("no answer", h.x.runs(3, 2), -1);
    House.due("it ends", h.x.runs(8, 0), 1);
    House.due("its meetings", h.x.runs(8, 1), 1);
    House.due("its answer", h.x.runs(8, 2), 8);
    House.due("a way into a circle", h.loop("loop n from a while true do if(less(a,3),add(a,1),if(same(a,5),3,add(a,1))) give a"), 16);
    House.due("from 0: 0 1 2 3 4 5", h.x.runs(0, 1), 6);
    House.due("from 4: 4 5 3", h.x.runs(4, 1), 3);
    House.due("from 6: to 15, then 0 to 5", h.x.runs(6, 1), 16);
    House.due("from 14", h.x.runs(14, 1), 8);
    House.due("all states", h.loop("loop n n from a, b, 0 while true do if(both(same(b,15),same(c,15)),add(a,1),a), if(same(c,15),add(b,1),b), add(c,1) give a"), 4096);
    House.due("a circle of all", h.x.runs(100, 1), 4096);
  }

  private static void errors() {
    House h = new House();
    House.due("an ERROR of from", h.loop("loop n from div(6,a) while less(0,a) do sub(a,2) give a"), 12);
    House.due("ERROR", h.x.runs(0, 0), 2);
    House.due("without a meeting", h.x.runs(0, 1), 0);
    House.due("and no answer", h.x.runs(0, 2), -1);
    House.due("2 0", h.x.runs(3, 1), 2);
    House.due("states", h.loop("loop n from a while less(0,div(a,sub(a,3))) do sub(a,1) give div(5,a)"), 16);
    House.due("an ERROR of the condition", h.x.runs(3, 0), 2);
    House.due("that is a meeting", h.x.runs(3, 1), 1);
    House.due("an ERROR of give", h.x.runs(0, 0), 2);
    House.due("is one, too", h.x.runs(0, 1), 1);
    House.due("it ends", h.x.runs(1, 0), 1);
    House.due("states", h.loop("loop n from a while less(3,a) do div(a,sub(a,7)) give a"), 16);
    House.due("an ERROR of do", h.x.runs(7, 0), 2);
    House.due("behind one meeting", h.x.runs(7, 1), 1);
    House.due("all are ERROR", h.loop("loop n from div(a,0) while true do a give a"), 0);
    House.due("no meeting: least", h.x.span(0, 0), -1);
    House.due("no meeting: greatest", h.x.span(0, 1), -1);
    House.due("no meeting keeps anything", h.keeps("false"), -1);
  }

  private static void truths() {
    House h = new House();
    House.due("states", h.loop("loop t n from a, b while both(a,less(b,9)) do less(b,4), add(b,1) give any(a,less(b,5))"), 32);
    House.due("inputs", h.x.runs(31, 0), 1);
    House.due("no more", h.x.runs(32, 0), -1);
    House.due("false 3", h.x.runs(3, 2), 1);
    House.due("false 9", h.x.runs(9, 2), 0);
    House.due("true 3: true 4, false 5", h.x.runs(16 + 3, 1), 3);
    House.due("the least", h.x.span(0, 0), 0);
    House.due("the greatest", h.x.span(0, 1), 1);
    House.due("of the second", h.x.span(1, 1), 15);
  }

  private static void keeping() {
    House h = new House();
    h.loop("loop n n from a, 0 while less(b,3) do add(a,2), add(b,1) give a");
    House.due("always", h.keeps("less(b,4)"), -1);
    House.due("not from the fourth meeting on", h.keeps("less(b,3)"), 3);
    House.due("the first input with it", h.keeps("less(a,9)"), 3 * 16 * 10000 + 3);
    House.due("false comes before", h.keeps("less(0,div(9,sub(a,15)))"), 3 * 16 * 10000 + 3);
    House.due("an ERROR is not true", h.keeps("not(same(div(1,sub(a,15)),7))"), 9 * 16 * 10000 + 3);
    House.due("the first meeting", h.keeps("less(0,b)"), 0);
    House.due("all acts may stand", h.keeps("not(like(sign(b),\"z\"))"), -1);
    House.due("true", h.keeps("true"), -1);
  }

  private static void faults() {
    House h = new House();
    h.fault("a kind s", h.loop("loop s from 1 while true do 1 give 1"), 1, 5);
    h.fault("three kinds", h.loop("loop n n n from 1 while true do 1 give 1"), 1, 9);
    h.fault("no give", h.loop("loop n from a while true do a"), 1, 29);
    h.fault("more behind it", h.loop("loop n from a while true do a give a, a"), 1, 36);
    h.fault("a ?", h.loop("loop n from ? while true do a give a"), 1, 12);
    h.fault("b in from", h.loop("loop n from b while true do a give a"), 2, 12);
    h.fault("b in while", h.loop("loop n n from a while same(b,1) do a give a"), 2, 27);
    h.fault("c", h.loop("loop n n from a,b while true do a,c give a"), 2, 34);
    h.fault("from is a word", h.loop("loop n from sign(a) while true do a give a"), 3, 12);
    h.fault("the condition is a number", h.loop("loop n from a while a do a give a"), 3, 20);
    h.fault("do's kind", h.loop("loop n from a, true while b do a, a give a"), 3, 34);
    h.fault("too few of do", h.loop("loop n from a, a while true do a give a"), 4, 28);
    h.fault("too many of do", h.loop("loop n from a while true do a, a give a"), 4, 25);
    h.fault("four of from", h.loop("loop n from a, a, a, a while true do a, a, a, a give a"), 4, 21);
    h.fault("four of from, the fourth a word", h.loop("loop n from a, a, a, \"\" while true do a give a"), 3, 21);
    h.fault("f", h.loop("loop n from f(a) while true do a give a"), 2, 12);
    String heavy = heavy(41);
    h.fault("a weight of 41", h.loop("loop n from " + heavy + " while true do a give a"), 5, 12);
    House.due("a weight of 40", new House().loop("loop n from " + heavy(40) + " while true do a give a") > 0 ? 1 : 0, 1);
    h.fault("of give", h.loop("loop n from a while true do a give " + heavy), 5, 35);
    h.fault("of while", h.loop("loop n from a while same(a," + heavy(40) + ") do a give a"), 5, 20);
    h.fault("of do", h.loop("loop n from a while true do " + heavy + " give a"), 5, 28);
    House.due("no loop came of these", h.x.runs(0, 0), -2);
    h.loop("loop n from a while false do a give a");
    h.fault("a fault", h.loop("loop n from b while false do a give a"), 2, 12);
    House.due("the loop that there was stays", h.x.runs(7, 2), 7);
    h.fault("keeps: another kind", h.keeps(" a"), 3, 1);
    h.fault("keeps: no such variable", h.keeps("same(b,1)"), 2, 5);
    House.due("the tape is used up", h.x.told(7), 0);
  }

  /** A sum of so many acts, none deep. */
  private static String heavy(int acts) {
    if (acts == 0) {
      return "a";
    }
    int left = (acts - 1) / 2;
    return "add(" + heavy(left) + "," + heavy(acts - 1 - left) + ")";
  }

  private static void refusals() {
    House h = new House();
    House.due("runs without a loop", h.x.runs(-1, 9), -2);
    House.due("span without a loop", h.x.span(-1, 9), -2);
    h.loop("loop n from a while false do a give a");
    House.due("no such input", h.x.runs(16, 0), -1);
    House.due("no such input", h.x.runs(-1, 0), -1);
    House.due("no such thing", h.x.runs(0, 3), -1);
    House.due("no such thing", h.x.runs(0, -1), -1);
    House.due("no such variable", h.x.span(1, 0), -1);
    House.due("no such variable", h.x.span(-1, 0), -1);
    House.due("no such thing", h.x.span(0, 2), -1);
    House.due("no such thing", h.x.span(0, -1), -1);
  }

  /** A term of another kind than t is a fault, whether there is a loop or not; only its parameters are asked of the loop. */
  private static void keepsWithoutALoop(House h) {
    House.due("a truth", h.keeps("true"), -2);
    House.due("a truth, behind a blank", h.keeps(" false"), -2);
    House.due("an act of kind t", h.keeps("less(1,2)"), -2);
    House.due("one that is ERROR", h.keeps("\nsame(div(1,0),2)"), -2);
    House.due("the tape is used up", h.x.told(7), 0);
    h.fault("a number", h.keeps("1"), 3, 0);
    h.fault("a number, behind a blank", h.keeps(" 1"), 3, 1);
    h.fault("a word", h.keeps("\"ab\""), 3, 0);
    h.fault("a word, behind blanks", h.keeps(" \n\"\" "), 3, 2);
    h.fault("an act of kind n", h.keeps("add(1,2)"), 3, 0);
    h.fault("an act of kind n, behind blanks", h.keeps("   len ( \"a\" )"), 3, 3);
    h.fault("an act of kind s", h.keeps("sign(1)"), 3, 0);
    h.fault("an act of kind s, behind a blank", h.keeps("\nrev(\"ab\")"), 3, 1);
    House.due("the tape is used up", h.x.told(7), 0);
    h.fault("a parameter is not known, of no kind", h.keeps("a"), 2, 0);
    h.fault("behind a blank", h.keeps(" a"), 2, 1);
    h.fault("the lesser place of two", h.keeps("add(a,1)"), 3, 0);
    h.fault("one in a truth", h.keeps("same(a,1)"), 2, 5);
    h.fault("an operand's kind", h.keeps("not(1)"), 3, 4);
    h.fault("one place, the lesser number", h.keeps(heavy(41).replace('a', '1').replace("1dd", "add")), 3, 0);
    h.fault("an empty tape", h.keeps(""), 1, 0);
    h.fault("more behind it", h.keeps("1 1"), 1, 2);
    h.fault("a ?", h.keeps("?"), 1, 0);
    h.x.end(0);
    House.due("a place from the latest fault", h.x.place(), 0);
  }

  private static void keepsBehindAStart() {
    House h = new House();
    h.loop("loop n n from a, b while false do a, b give a");
    House.due("with a loop", h.keeps("same(a,a)"), -1);
    h.fault("a variable of another kind", h.keeps(" a"), 3, 1);
    h.x.cut(0, 0);
    h.word("a", true);
    House.due("power goes", h.x.sync(), -4);
    House.due("DOWN comes before a fault", h.keeps("1"), -5);
    House.due("and leaves the tape", h.x.told(7), -5);
    h.x.start();
    House.due("the tape stays", h.x.told(7), 1);
    House.due("there is no loop", h.x.runs(0, 0), -2);
    keepsWithoutALoop(h);
  }
}
