import java.util.ArrayList;
import java.util.LinkedHashSet;
import java.util.List;
import java.util.Set;

/** LOOPS at their bounds, and against runs followed one by one; promises 26 to 29. */
public final class LoopEdgeTest {
  public static void main(String[] args) {
    inputsInOrder();
    noMeeting();
    oneMeeting();
    errorsAnywhere();
    endlessAtOnce();
    endlessLater();
    allStates();
    statesOfAllInputs();
    fromTheStateBefore();
    answersOfEachKind();
    runsOutOfRange();
    spans();
    spansOutOfRange();
    keepsTheFirst();
    keepsAtTheEnd();
    keepsErrors();
    keepsFaults();
    kindsOfVariables();
    ordersOfRefusals();
    aLoopForAnother();
    ownActsInLoops();
    againstTheModel();
    House.finish();
  }

  private static void inputsInOrder() {
    House h = new House();
    House.due("t n", h.loop("loop t n from a, b while false do a, b give if(a,add(b,1),b)"), 32);
    House.due("false 0", h.x.runs(0, 2), 0);
    House.due("false 15", h.x.runs(15, 2), 15);
    House.due("true 0", h.x.runs(16, 2), 1);
    House.due("true 15", h.x.runs(31, 2), 0);
    House.due("no more", h.x.runs(32, 2), -1);
    House.due("n t", h.loop("loop n t from a, b while false do a, b give if(b,add(a,1),a)"), 32);
    House.due("0 false", h.x.runs(0, 2), 0);
    House.due("0 true", h.x.runs(1, 2), 1);
    House.due("15 false", h.x.runs(30, 2), 15);
    House.due("15 true", h.x.runs(31, 2), 0);
    House.due("n n", h.loop("loop n n from a, b while false do a, b give sub(a,b)"), 256);
    House.due("0 1", h.x.runs(1, 2), 15);
    House.due("1 0", h.x.runs(16, 2), 1);
    House.due("15 14", h.x.runs(254, 2), 1);
    House.due("t", h.loop("loop t from a while false do a give a"), 2);
    House.due("false", h.x.runs(0, 2), 0);
    House.due("true", h.x.runs(1, 2), 1);
    House.due("no more", h.x.runs(2, 2), -1);
    House.due("t t", h.loop("loop t t from a, b while false do a, b give b"), 4);
    House.due("true false", h.x.runs(2, 2), 0);
    House.due("no more", h.x.runs(4, 0), -1);
  }

  private static void due(House h, int i, int how, int meetings, int answer) {
    House.due("input " + i + ", how it goes", h.x.runs(i, 0), how);
    House.due("input " + i + ", its MEETINGS", h.x.runs(i, 1), meetings);
    House.due("input " + i + ", its answer", h.x.runs(i, 2), answer);
  }

  private static void noMeeting() {
    House h = new House();
    House.due("all of from are ERROR", h.loop("loop n from div(a,0) while true do a give a"), 0);
    due(h, 0, 2, 0, -1);
    due(h, 15, 2, 0, -1);
    House.due("the least", h.x.span(0, 0), -1);
    House.due("the greatest", h.x.span(0, 1), -1);
    House.due("what it keeps", h.keeps("false"), -1);
    House.due("one of three", h.loop("loop n from a, 1, div(1,0) while true do a, b, c give a"), 0);
    due(h, 3, 2, 0, -1);
    House.due("one input alone has a STATE", h.loop("loop n from div(1,add(a,1)) while false do a give a"), 2);
    due(h, 15, 2, 0, -1);
    due(h, 0, 1, 1, 1);
    due(h, 14, 1, 1, 0);
  }

  private static void oneMeeting() {
    House h = new House();
    House.due("the condition is false", h.loop("loop n from 7 while less(a,7) do add(a,1) give mul(a,2)"), 1);
    due(h, 0, 1, 1, 14);
    House.due("it is true once", h.loop("loop n from 7 while less(a,8) do add(a,1) give mul(a,2)"), 2);
    due(h, 0, 1, 2, 0);
    House.due("fifteen times", h.loop("loop n from 0 while less(a,15) do add(a,1) give a"), 16);
    due(h, 0, 1, 16, 15);
  }

  private static void errorsAnywhere() {
    House h = new House();
    House.due("of the condition", h.loop("loop n from a while same(div(6,a),6) do sub(a,1) give a"), 16);
    due(h, 0, 2, 1, -1);
    due(h, 1, 2, 2, -1);
    due(h, 2, 1, 1, 2);
    House.due("of do", h.loop("loop n from a, 1 while less(a,3) do add(a,1), div(b,sub(1,a)) give b") > 0 ? 1 : 0, 1);
    due(h, 0, 2, 2, -1);
    due(h, 1, 2, 1, -1);
    due(h, 3, 1, 1, 1);
    House.due("of give", h.loop("loop n from a while less(a,2) do add(a,1) give div(4,sub(a,2))"), 16);
    due(h, 2, 2, 1, -1);
    due(h, 0, 2, 3, -1);
    due(h, 3, 1, 1, 4);
    House.due("give is not worked out before", h.loop("loop n from a while less(a,5) do add(a,1) give div(a,sub(a,4))"), 16);
    due(h, 4, 1, 2, 5);
    House.due("nor do behind", h.loop("loop n from a while false do div(a,0) give a"), 16);
    due(h, 4, 1, 1, 4);
  }

  private static void endlessAtOnce() {
    House h = new House();
    House.due("the same STATE", h.loop("loop n from a while true do a give a"), 16);
    due(h, 0, 0, 1, -1);
    due(h, 15, 0, 1, -1);
    House.due("of two", h.loop("loop n from a while true do xor(a,1) give a"), 16);
    due(h, 6, 0, 2, -1);
    House.due("all come to one", h.loop("loop n from a while true do 5 give a"), 16);
    due(h, 5, 0, 1, -1);
    due(h, 4, 0, 2, -1);
  }

  private static void endlessLater() {
    House h = new House();
    House.due("a way of three into a circle of four", h.loop("loop n from a while true do if(less(a,6),add(a,1),3) give a"), 16);
    due(h, 0, 0, 7, -1);
    due(h, 2, 0, 5, -1);
    due(h, 3, 0, 4, -1);
    due(h, 6, 0, 4, -1);
    due(h, 7, 0, 5, -1);
    House.due("beside those that end", h.loop("loop n from a while less(a,8) do if(less(a,4),xor(a,1),add(a,2)) give a"), 16);
    due(h, 3, 0, 2, -1);
    due(h, 4, 1, 3, 8);
    due(h, 7, 1, 2, 9);
    due(h, 8, 1, 1, 8);
  }

  private static final String COUNTER =
      "loop n n from a, b, 0 while # do if(both(same(b,15),same(c,15)),add(a,1),a), if(same(c,15),add(b,1),b), add(c,1) give c";

  /** All STATES of three numbers in one run. */
  private static void allStates() {
    House h = new House();
    House.due("a circle of all", h.loop(COUNTER.replace("#", "true")), 4096);
    due(h, 0, 0, 4096, -1);
    due(h, 255, 0, 4096, -1);
    House.due("the last meeting", h.keeps("less(add(div(a,15),add(div(b,15),div(c,15))),3)"), 4095);
    House.due("up to the last of all", h.loop(COUNTER.replace("#", "less(add(div(a,15),add(div(b,15),div(c,15))),3)")), 4096);
    due(h, 0, 1, 4096, 15);
    due(h, 255, 1, 16, 15);
    due(h, 254, 1, 32, 15);
    House.due("of two numbers", h.loop("loop n from a, a while true do if(same(b,15),add(a,1),a), add(b,1) give a"), 256);
    due(h, 9, 0, 256, -1);
    House.due("of two truths and a number", h.loop("loop t t from a, b, 0 while true do a, b, add(c,1) give a"), 64);
    due(h, 3, 0, 16, -1);
  }

  /** Each STATE counts once, by however many inputs it is met. */
  private static void statesOfAllInputs() {
    House h = new House();
    House.due("one", h.loop("loop n n from 3 while false do a give a"), 1);
    House.due("all inputs meet the same", h.loop("loop n n from 3 while less(a,9) do add(a,1) give a"), 7);
    House.due("b beside a makes others", h.loop("loop n from 3, a while less(a,9) do add(a,1), b give a"), 7 * 16);
    House.due("a truth and a number are others", h.loop("loop t from a, 0 while less(b,3) do a, add(b,1) give a"), 8);
  }

  private static void fromTheStateBefore() {
    House h = new House();
    h.loop("loop n n from a, b, 0 while less(c,1) do b, a, 1 give sub(a,b)");
    House.due("a and b change places", h.x.runs(16 * 9 + 4, 2), 11);
    h.loop("loop n from 0, 0, a while less(c,3) do add(c,1), a, add(b,2) give add(a,mul(b,4))");
    due(h, 0, 1, 4, 15);
    h.loop("loop n from 1, 1 while less(a,13) do b, add(a,b) give b");
    due(h, 0, 1, 7, 5);
  }

  private static void answersOfEachKind() {
    House h = new House();
    h.loop("loop n from a while false do a give cat(sign(a),sign(a))");
    House.due("a word", h.x.runs(2, 2), 3 * 27 + 3);
    h.loop("loop n from a while false do a give \"zzzzzz\"");
    House.due("the greatest word", h.x.runs(0, 2), 387420488);
    h.loop("loop n from a while false do a give \"\"");
    due(h, 0, 1, 1, 0);
    h.loop("loop n from a while false do a give less(a,3)");
    due(h, 2, 1, 1, 1);
    due(h, 3, 1, 1, 0);
  }

  private static void runsOutOfRange() {
    House h = new House();
    h.loop("loop n from a while false do a give a");
    for (int i : new int[] {-1, 16, 255, 256, Integer.MAX_VALUE, Integer.MIN_VALUE}) {
      for (int what = 0; what < 3; what++) {
        House.due("runs(" + i + ", " + what + ")", h.x.runs(i, what), -1);
      }
    }
    for (int what : new int[] {-1, 3, Integer.MAX_VALUE, Integer.MIN_VALUE}) {
      House.due("runs(0, " + what + ")", h.x.runs(0, what), -1);
      House.due("runs(15, " + what + ")", h.x.runs(15, what), -1);
    }
    House.due("runs(15, 2)", h.x.runs(15, 2), 15);
  }

  private static void dueSpan(House h, int v, int least, int greatest) {
    House.due("the least of " + v, h.x.span(v, 0), least);
    House.due("the greatest of " + v, h.x.span(v, 1), greatest);
  }

  private static void spans() {
    House h = new House();
    h.loop("loop n from add(div(a,2),3), 9, less(a,0) while less(a,12) do add(a,1), b, true give a");
    dueSpan(h, 0, 3, 12);
    dueSpan(h, 1, 9, 9);
    dueSpan(h, 2, 0, 1);
    h.loop("loop t from a, true, not(a) while false do a, b, c give a");
    dueSpan(h, 0, 0, 1);
    dueSpan(h, 1, 1, 1);
    dueSpan(h, 2, 0, 1);
    h.loop("loop n from 15 while true do 0 give a");
    dueSpan(h, 0, 0, 15);
    h.loop("loop n from 5 while less(a,5) do 0 give 15");
    dueSpan(h, 0, 5, 5);
    h.loop("loop n from 5 while less(a,6) do add(a,1) give div(1,0)");
    dueSpan(h, 0, 5, 6);
    h.loop("loop n from 5, div(1,0) while less(a,6) do add(a,1), b give 1");
    dueSpan(h, 0, -1, -1);
    dueSpan(h, 1, -1, -1);
  }

  private static void spansOutOfRange() {
    House h = new House();
    for (int vars = 1; vars <= 3; vars++) {
      String more = ", 7".repeat(vars - 1);
      h.loop("loop n from a" + more + " while false do a" + more + " give a");
      for (int v = -1; v <= 4; v++) {
        boolean there = v >= 0 && v < vars;
        House.due("span(" + v + ", 0) of " + vars, h.x.span(v, 0), there ? v == 0 ? 0 : 7 : -1);
        House.due("span(" + v + ", 1) of " + vars, h.x.span(v, 1), there ? v == 0 ? 15 : 7 : -1);
        House.due("span(" + v + ", -1) of " + vars, h.x.span(v, -1), -1);
        House.due("span(" + v + ", 2) of " + vars, h.x.span(v, 2), -1);
      }
      House.due("the greatest number", h.x.span(Integer.MAX_VALUE, 0), -1);
      House.due("the least number", h.x.span(Integer.MIN_VALUE, Integer.MIN_VALUE), -1);
    }
  }

  private static void keepsTheFirst() {
    House h = new House();
    h.loop("loop n n from a, b while less(a,b) do add(a,1), b give a");
    House.due("always", h.keeps("true"), -1);
    House.due("never", h.keeps("false"), 0);
    House.due("the first input", h.keeps("not(same(b,7))"), 7 * 10000);
    House.due("its first meeting", h.keeps("not(same(a,3))"), 3 * 10000 + 3);
    House.due("a lesser input, a later meeting", h.keeps("less(a,5)"), 5 * 10000 + 5);
    House.due("not in what the input itself meets", h.keeps("not(both(same(a,9),less(b,9)))"), (9 * 16) * 10000);
    House.due("the tape is used up", h.x.told(7), 0);
  }

  private static void keepsAtTheEnd() {
    House h = new House();
    h.loop("loop n n from a, b while less(a,0) do a, b give 3");
    House.due("the last input alone", h.keeps("not(both(same(a,15),same(b,15)))"), 255 * 10000);
    h.loop("loop n from a while less(a,15) do add(a,1) give 3");
    House.due("the last meeting of the first input", h.keeps("less(a,15)"), 15);
    h.loop("loop n from add(a,1) while less(a,15) do add(a,1) give 3");
    House.due("the last meeting of the first input", h.keeps("less(a,15)"), 14);
    House.due("the last input is 0", h.keeps("less(0,a)"), 15 * 10000);
    h.loop("loop n from a while true do 7 give a");
    House.due("a circle", h.keeps("not(same(a,7))"), 1);
    House.due("a circle that keeps it", h.keeps("any(less(a,7),less(6,a))"), -1);
  }

  private static void keepsErrors() {
    House h = new House();
    h.loop("loop n from a while less(a,9) do add(a,1) give a");
    House.due("ERROR is not true", h.keeps("same(div(a,a),1)"), 0);
    House.due("ERROR at 5", h.keeps("less(0,div(15,sub(a,5)))"), 5);
    House.due("false before ERROR", h.keeps("less(1,div(15,sub(a,12)))"), 4);
    House.due("what is not worked out", h.keeps("same(1,if(less(a,1),1,div(a,a)))"), -1);
  }

  private static void keepsFaults() {
    House h = new House();
    h.loop("loop n t from a, b while b do a, false give a");
    House.due("variables", h.keeps("any(b,less(a,15))"), 30 * 10000 + 0);
    h.fault("no third", h.keeps("same(c,1)"), 2, 5);
    h.fault("of kind n", h.keeps("a"), 3, 0);
    House.due("of kind t", h.keeps("b"), 0);
    h.fault("of kind s", h.keeps("  sign(a)"), 3, 2);
    h.fault("a kind within", h.keeps("not(a)"), 3, 4);
    h.fault("f", h.keeps("f(a)"), 2, 0);
    h.fault("a ?", h.keeps("same(a,?)"), 1, 7);
    h.fault("nothing", h.keeps(""), 1, 0);
    House.due("the tape is used up", h.x.told(7), 0);
    House.due("the ask's parameters are not the loop's", h.ask("find s s s -> n; use 1;"), 0);
    h.fault("no third", h.keeps("like(c,c)"), 2, 5);
  }

  /** Each variable has the kind of its term of from, also when another loop was there before. */
  private static void kindsOfVariables() {
    House h = new House();
    for (int before = 0; before < 2; before++) {
      for (int kinds = 0; kinds < 8 && h.x.left() > 60; kinds++) {
        String from = "";
        String to = "";
        for (int v = 0; v < 3; v++) {
          from += (v > 0 ? ", " : "") + ((kinds >> v & 1) == 0 ? "7" : "true");
          to += (v > 0 ? ", " : "") + "abc".charAt(v);
        }
        House.due("from " + from, h.loop("loop n from " + from + " while false do " + to + " give 1"), 1);
        for (int v = 0; v < 3; v++) {
          String name = "abc".substring(v, v + 1);
          if ((kinds >> v & 1) == 1) {
            House.due(name + " of from " + from, h.keeps(name), -1);
            h.fault(name + " is no number", h.keeps("same(" + name + ",1)"), 3, 5);
          } else {
            h.fault(name + " of from " + from, h.keeps(name), 3, 0);
            House.due(name + " is a number", h.keeps("same(" + name + ",7)"), -1);
          }
        }
      }
      h = new House();
      House.due("another loop before", h.loop("loop n from 1, true, true while false do a, b, c give 1"), 1);
    }
  }

  /** DOWN, STATE, NONE of runs and span; DOWN, FAULTS, STATE of keeps. */
  private static void ordersOfRefusals() {
    House h = new House();
    House.due("STATE before NONE: runs", h.x.runs(-1, -1), -2);
    House.due("STATE before NONE: runs", h.x.runs(256, 0), -2);
    House.due("STATE before NONE: span", h.x.span(-1, 0), -2);
    House.due("STATE before NONE: span", h.x.span(0, 2), -2);
    h.fault("FAULT before STATE: keeps", h.keeps("1"), 3, 0);
    House.due("STATE: keeps", h.keeps("true"), -2);
    h.fault("a refused loop is none", h.loop("loop n from b while true do a give a"), 2, 12);
    House.due("STATE: runs", h.x.runs(0, 0), -2);
    House.due("STATE: span", h.x.span(0, 0), -2);
    House.due("STATE: keeps", h.keeps("true"), -2);
    h.loop("loop n from a while false do a give a");
    Blocks.goDown(h);
    House.due("DOWN before NONE: runs", h.x.runs(-1, -1), -5);
    House.due("DOWN before NONE: span", h.x.span(-1, -1), -5);
    h.tape("foo");
    House.due("DOWN before FAULT: keeps", h.x.keeps(), -5);
    House.due("DOWN before FAULT: loop", h.x.loop(), -5);
    h.x.start();
    House.due("start(): no loop", h.x.runs(0, 0), -2);
    House.due("the tape was not used up", h.x.told(7), 3);
  }

  private static void aLoopForAnother() {
    House h = new House();
    h.loop("loop n n from a, b, 9 while less(0,b) do a, sub(b,1), c give c");
    House.due("two inputs", h.x.runs(255, 1), 16);
    House.due("a loop with less", h.loop("loop t from not(a) while false do a give a"), 2);
    House.due("its inputs", h.x.runs(2, 0), -1);
    House.due("its answer", h.x.runs(0, 2), 1);
    House.due("its variables", h.x.span(1, 0), -1);
    dueSpan(h, 0, 0, 1);
    h.fault("a fault", h.loop("loop n from 1,2,3 while false do 1,2,3 give foo"), 2, 44);
    House.due("the loop there was stays", h.x.runs(1, 2), 0);
    House.due("its variables", h.keeps("any(a,not(a))"), -1);
    h.fault("of one variable", h.keeps("b"), 2, 0);
    House.due("an ask changes it not", h.ask("find n -> n; use 1;"), 16);
    House.due("it stays", h.x.runs(0, 2), 1);
  }

  private static void ownActsInLoops() {
    House h = new House();
    h.act("act half n -> n = div(a,2)");
    h.act("act odd n -> t = same(rem(a,2),1)");
    h.act("act name n s -> s = cat(b,sign(a))");
    House.due("states", h.loop("loop n from a, 0 while less(1,a) do if(odd(a),sub(a,1),half(a)), add(b,1) give name(b,\"x\")") > 16 ? 1 : 0, 1);
    House.due("13 12 6 3 2 1", h.x.runs(13, 1), 6);
    House.due("xf", h.x.runs(13, 2), 24 * 27 + 6);
    House.due("keeps", h.keeps("less(b,7)"), -1);
  }

  private long seed = 7;

  private int next(int below) {
    seed = seed * 6364136223846793005L + 1442695040888963407L;
    return (int) ((seed >>> 33) % below);
  }

  /** A term of a kind with parameters of these kinds. */
  private String random(char kind, String kinds, int depth) {
    List<String> leaves = new ArrayList<>();
    for (int k = 0; k < kinds.length(); k++) {
      if (kinds.charAt(k) == kind) {
        leaves.add("abc".substring(k, k + 1));
      }
    }
    if (depth == 0 || next(4) == 0) {
      int which = next(leaves.size() + 2);
      return which < leaves.size() ? leaves.get(which) : kind == 't' ? next(2) == 0 ? "true" : "false" : "" + next(16);
    }
    if (kind == 't') {
      String[] acts = {"less n n", "same n n", "not t", "both t t", "any t t", "less n n"};
      return act(acts[next(6)], kinds, depth);
    }
    String[] acts = {"add n n", "sub n n", "mul n n", "div n n", "rem n n", "min n n", "xor n n", "if t n n", "if t n n"};
    return act(acts[next(9)], kinds, depth);
  }

  private String act(String told, String kinds, int depth) {
    String[] parts = told.split(" ");
    StringBuilder text = new StringBuilder(parts[0]);
    for (int k = 1; k < parts.length; k++) {
      text.append(k == 1 ? '(' : ',').append(random(parts[k].charAt(0), kinds, depth - 1));
    }
    return text.append(')').toString();
  }

  private static int code(int[] state) {
    int code = 0;
    for (int v : state) {
      code = code * 16 + v;
    }
    return code;
  }

  private static int[] states(String[] terms, int[] params) {
    int[] state = new int[terms.length];
    for (int v = 0; v < terms.length; v++) {
      state[v] = Terms.answer(terms[v], params);
      if (state[v] < 0) {
        return null;
      }
    }
    return state;
  }

  private static void againstTheModel() {
    LoopEdgeTest random = new LoopEdgeTest();
    for (int run = 0; run < 60; run++) {
      random.compare("run " + run);
    }
  }

  private void compare(String what) {
    String inputs = new String[] {"n", "t", "nn", "nt", "tn"}[next(5)];
    String kinds = new String[] {"n", "t", "nn", "nt", "nnn", "ntn"}[next(6)];
    String[] from = new String[kinds.length()];
    String[] then = new String[kinds.length()];
    for (int v = 0; v < kinds.length(); v++) {
      from[v] = random(kinds.charAt(v), inputs, 2);
      then[v] = random(kinds.charAt(v), kinds, 2);
    }
    String condition = random('t', kinds, 2);
    String give = random(next(2) == 0 ? 'n' : 't', kinds, 2);
    String truth = random('t', kinds, 2);
    String text = "loop " + String.join(" ", inputs.split("")) + " from " + String.join(",", from) + " while " + condition + " do "
        + String.join(",", then) + " give " + give;
    House h = new House();
    int answer = h.loop(text);
    Set<Integer> all = new LinkedHashSet<>();
    int second = inputs.length() == 1 ? 1 : inputs.charAt(1) == 'n' ? 16 : 2;
    int many = (inputs.charAt(0) == 'n' ? 16 : 2) * second;
    int broken = -1;
    int[] least = {99, 99, 99};
    int[] greatest = {-1, -1, -1};
    for (int i = 0; i < many; i++) {
      Set<Integer> met = new LinkedHashSet<>();
      int how = 2;
      int given = -1;
      int[] state = states(from, new int[] {i / second, i % second});
      while (state != null) {
        if (!met.add(code(state))) {
          how = 0;
          break;
        }
        for (int v = 0; v < state.length; v++) {
          least[v] = Math.min(least[v], state[v]);
          greatest[v] = Math.max(greatest[v], state[v]);
        }
        if (broken < 0 && Terms.answer(truth, state) != 1) {
          broken = i * 10000 + met.size() - 1;
        }
        int goesOn = Terms.answer(condition, state);
        if (goesOn < 1) {
          given = goesOn < 0 ? -1 : Terms.answer(give, state);
          how = given < 0 ? 2 : 1;
          break;
        }
        state = states(then, state);
      }
      all.addAll(met);
      if (i < 30 || i > many - 30) {
        due(h, what + ": " + text, i, how, met.size(), given);
      }
    }
    House.due(what + ": " + text, answer, all.size());
    House.due(what + ": " + text + " keeps " + truth, h.keeps(truth), broken);
    for (int v = 0; v < kinds.length(); v++) {
      dueSpan(h, v, least[v] == 99 ? -1 : least[v], greatest[v]);
    }
  }

  private static void due(House h, String what, int i, int how, int meetings, int answer) {
    House.due(what + ", input " + i + ", how it goes", h.x.runs(i, 0), how);
    House.due(what + ", input " + i + ", its MEETINGS", h.x.runs(i, 1), meetings);
    House.due(what + ", input " + i + ", its answer", h.x.runs(i, 2), answer);
  }
}
