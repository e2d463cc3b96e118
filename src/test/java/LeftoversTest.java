import java.util.ArrayList;
import java.util.List;

/** What was there before leaves nothing: an ask, a told term, a loop behind others is as in a new house. */
public final class LeftoversTest {
  public static void main(String[] args) {
    asksBehindAsks();
    asksBehindStart();
    noAskBehindStart();
    namesOfOtherTexts();
    toldBehindLonger();
    loopsBehindLoops();
    House.finish();
  }

  private static final String[] ASKS = {
    "find t n -> n; use if, not, 3:2, 0; row true 5 = 5;",
    "find n t -> n; use if:2, less, 1, 9; row 3 true = 1;",
    "find t t -> t; use not, both:2, any;",
    "find s t -> s; use pick, rev, head:2, \"b\"; row \"ab\" true = \"ab\"; row \"cd\" false = \"b\";",
    "find s -> s; use pick, rev, cat, true, \"\";",
    "find n -> n; use add, sub, mul, div, rem, min, max, and, or, xor, 0, 1; row 1 = 2;",
    "find n n -> n; use sub, 1:3, 2:4; law x:n -> f(x,x) = 0;",
    "find n n n -> n; use min, 7; row 1 2 3 = 1; row 9 9 8 = 7;",
    "find n -> t; use less, not, same:3, 7; row 3 = true; law x:n -> f(add(x,0)) = f(x);",
    "find t -> n; use if, 4, 11; row true = 4; row false = 11;"
  };

  private static void addText(List<Long> seen, String text) {
    for (char letter : text.toCharArray()) {
      seen.add((long) letter);
    }
    seen.add(0L);
  }

  /** What is answered for an ask, price by price. */
  private static List<Long> answers(House h, String ask) {
    List<Long> seen = new ArrayList<>();
    seen.add((long) h.ask(ask));
    for (int p = 1; p <= 6; p++) {
      seen.add((long) h.x.find(p));
      long many = h.x.count(p);
      seen.add(many);
      seen.add((long) h.x.different(p));
      seen.add((long) h.x.question(p));
      seen.add((long) h.x.ith(p, 0));
      int bytes = h.x.ith(p, many - 1);
      seen.add((long) bytes);
      seen.add(bytes > 0 ? h.x.answer(1) : 0L);
    }
    int bytes = h.x.ith(4, h.x.count(4) / 2);
    seen.add((long) bytes);
    addText(seen, bytes > 0 ? h.term() : "");
    return seen;
  }

  /** What is told of terms of an ask's last kind. */
  private static List<Long> mended(House h, String ask) {
    String last = ask.substring(ask.indexOf("->") + 3, ask.indexOf("->") + 4);
    String leaf = last.equals("n") ? "9" : last.equals("t") ? "same(9,8)" : "\"zz\"";
    List<Long> seen = new ArrayList<>();
    for (int p = 1; p <= 3; p++) {
      int price = h.mend(leaf, p);
      seen.add((long) price);
      seen.add(price > 0 && price <= p ? h.x.mended() : -1L);
      addText(seen, price > 0 && price <= p ? h.term() : "");
      seen.add((long) h.cheaper("a"));
    }
    return seen;
  }

  private static void dueAlike(String what, List<Long> got, List<Long> want) {
    House.due(what + ", as many answers", got.size(), want.size());
    for (int i = 0; i < got.size() && i < want.size(); i++) {
      House.due(what + ", answer " + i, got.get(i), want.get(i));
    }
  }

  private static void asksBehindAsks() {
    for (String ask : ASKS) {
      House fresh = new House();
      List<Long> want = answers(fresh, ask);
      want.addAll(mended(fresh, ask));
      for (String before : ASKS) {
        House h = new House();
        answers(h, before);
        List<Long> got = answers(h, ask);
        House other = new House();
        other.ask(before);
        other.mend("9", 3);
        other.x.find(5);
        other.ask(ask);
        got.addAll(mended(other, ask));
        dueAlike(ask + " behind " + before, got, want);
      }
    }
  }

  private static void asksBehindStart() {
    for (int k = 0; k < ASKS.length; k++) {
      House h = new House();
      h.act("act up n -> n = add(a,1)");
      answers(h, ASKS[(k + 1) % ASKS.length]);
      Blocks.goDown(h);
      h.x.start();
      dueAlike(ASKS[k] + " behind start()", answers(h, ASKS[k]), answers(new House(), ASKS[k]));
    }
  }

  /** start() leaves no ask: terms have no parameters then, no kind is wanted of them, and nothing is a piece. */
  private static void noAskBehindStart() {
    House h = new House();
    h.ask("find n t -> n; use add, 1, 7; row 1 true = 2;");
    h.loop("loop n t from a, b while b do a, false give a");
    House.due("a piece", h.cheaper("add(1,7)"), 3);
    House.due("the latest", h.x.find(3), 3);
    Blocks.goDown(h);
    House.due("start", h.x.start(), 0);
    House.due("a piece", h.cheaper("add(1,7)"), -2);
    House.due("a value", h.cheaper("7"), -2);
    h.fault("a parameter, in cheaper()", h.cheaper("add(a,1)"), 2, 4);
    h.fault("a parameter, in mend()", h.mend("a", 1), 2, 0);
    h.fault("a parameter, in sketch()", h.sketch("add(?,a)"), 2, 6);
    h.fault("a variable, in keeps()", h.keeps("b"), 2, 0);
    House.due("another kind, in mend()", h.mend("true", 1), -2);
    House.due("another kind, in sketch()", h.sketch("less(?,1)"), -2);
    House.due("a sketch", h.sketch("add(?,1)"), -2);
    House.due("a truth, in keeps()", h.keeps("true"), -2);
    House.due("find", h.x.find(3), -2);
    House.due("a point", h.x.point(0, 0), -2);
    House.due("an answer", h.x.answer(0), -2);
    House.due("THE TERM", h.x.byteOf(0), -1);
    House.due("it is not kept", h.x.keep(), -2);
    House.due("a run", h.x.runs(0, 0), -2);
  }

  /** A token that is no NAME is not the NAME before it, of this text or another. */
  private static void namesOfOtherTexts() {
    House h = new House();
    h.fault("find, alone", h.value("find"), 2, 0);
    h.fault("; for find", h.ask("; n -> n; use 1;"), 1, 0);
    h.fault("act, alone", h.value("act"), 2, 0);
    h.fault("1 for act", h.act("1 x n -> n = a"), 1, 0);
    h.fault("loop, alone", h.value("loop"), 2, 0);
    h.fault("= for loop", h.loop("= n from a while true do a give a"), 1, 0);
    h.fault("true, then a name of another text", h.value("add(true,1)"), 3, 4);
    h.fault("5 for row", h.ask("find n -> n; use 1; row 1 = 1; 5 2 = 2;"), 1, 31);
    h.fault("a word for row", h.ask("find n -> n; use 1; row 1 = 1; \"row\" 2 = 2;"), 1, 31);
    h.fault("error, then no answer", h.ask("find n -> n; use 1; row 1 = error; row 2 = ;"), 1, 43);
    h.fault("( for a kind behind n", h.ask("find n ( -> n; use 1;"), 1, 7);
    h.fault("n as the last name, then no kind", h.ask("find n -> 1; use 1;"), 1, 10);
    h.fault("true as the last name, then no value", h.ask("find t -> t; use true, ;"), 1, 23);
    h.fault("a sign for an act's name", h.act("act ; n -> n = a"), 1, 4);
    h.fault("a sign for a law's name", h.ask("find n -> n; use 1; law :n -> 1 = 1;"), 1, 24);
  }

  /** A told term has the places that it has, whatever longer ones were read before. */
  private static void toldBehindLonger() {
    String[] longer = {"add(1,add(2,foo))", "add(b,add(c,add(1,2)))", "max(1,max(a,max(a,max(a,1))))", "if(true,?,len(sign(3)))", "pick(like(\"a\",\"b\"),\"c\",\"d\")"};
    for (String before : longer) {
      House h = new House();
      h.ask("find n -> n; use 3, add, true, \"x\"; row 3 = 1; row 4 = 9;");
      for (String text : new String[] {"a", "add(a,1)", "max(a,2)", "if(true,a,1)"}) {
        h.value(before);
        House.due(text + " behind " + before, h.mend(text, 3), 100);
        h.sketch(before);
        House.due(text + " behind the sketch " + before, h.mend(text, 3), 100);
        h.mend(before, 1);
        House.due(text + " behind mend() of " + before, h.mend(text, 3), 100);
      }
    }
  }

  private static final String[] LOOPS = {
    "loop n n from a, b, 9 while less(0,b) do a, sub(b,1), c give c", "loop t from not(a) while false do a give a",
    "loop n from a, true while b do add(a,1), less(a,9) give sign(a)", "loop n t from div(a,2), b while true do xor(a,5), b give a",
    "loop n from div(4,a) while less(a,3) do add(a,1) give div(a,sub(a,3))", "loop t n from b, b, a while less(a,12) do add(a,3), a, not(c) give c"
  };

  private static List<Long> told(House h, String loop) {
    List<Long> seen = new ArrayList<>();
    seen.add((long) h.loop(loop));
    for (int i : new int[] {-1, 0, 1, 2, 3, 7, 15, 16, 31, 32, 100, 255, 256}) {
      for (int what = 0; what < 3; what++) {
        seen.add((long) h.x.runs(i, what));
      }
    }
    for (int v = 0; v < 3; v++) {
      seen.add((long) h.x.span(v, 0));
      seen.add((long) h.x.span(v, 1));
    }
    seen.add((long) h.keeps("true"));
    seen.add((long) h.keeps("less(a,8)"));
    seen.add((long) h.keeps("any(b,same(1,1))"));
    seen.add((long) h.x.place());
    return seen;
  }

  private static void loopsBehindLoops() {
    for (String loop : LOOPS) {
      List<Long> want = told(new House(), loop);
      for (String before : LOOPS) {
        House h = new House();
        told(h, before);
        List<Long> got = told(h, loop);
        want.set(want.size() - 1, got.get(got.size() - 1));
        dueAlike(loop + " behind " + before, got, want);
      }
    }
  }
}
