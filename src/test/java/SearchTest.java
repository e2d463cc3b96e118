/** Promises 8 to 12 and 17 to 19: find, count, ith, different, question; THE TERM's bytes and answers; points. */
public final class SearchTest {
  public static void main(String[] args) {
    finding();
    ordering();
    counting();
    choosing();
    errors();
    lawsForAll();
    words();
    asking();
    rooms();
    refusals();
    House.finish();
  }

  private static void finding() {
    House h = new House();
    h.ask("find n n -> n; use add, 1; row 3 4 = 8; row 0 0 = 1;");
    House.due("no term of price 4", h.x.find(4), 0);
    House.due("nothing told yet", h.x.byteOf(0), -1);
    House.due("the least price", h.x.find(5), 5);
    House.due("the first in ORDER", h.term(), "add(a,add(b,1))");
    House.due("behind its text", h.x.byteOf(15), -1);
    House.due("before its text", h.x.byteOf(-1), -1);
    House.due("its answer at 3 4", h.x.answer(3 * 16 + 4), 8);
    House.due("its answer at 15 15", h.x.answer(255), 15);
    House.due("no such point", h.x.answer(256), -2);
    House.due("no such point", h.x.answer(-1), -2);
    h.ask("find t -> t; use not;");
    House.due("THE TERM stays with another ask", h.term(), "add(a,add(b,1))");
    House.due("and its answers", h.x.answer(255), 15);
    House.due("the first of all", h.x.find(12), 1);
    House.due("a parameter", h.term(), "a");
    House.due("its answers", h.x.answer(1), 1);
    House.due("of two points", h.x.answer(2), -2);
    h.ask("find n -> n; use 15; row 0 = 15; row 1 = 15;");
    h.x.find(1);
    House.due("a number of two digits", h.term(), "15");
    h.ask("find n -> t; use true, false; row 0 = false; row 1 = false;");
    House.due("a truth", h.x.find(1), 1);
    House.due("its text", h.term(), "false");
    h.x.ith(1, 0);
    House.due("the only one", h.term(), "false");
    h.ask("find n -> t; use false, true; row 0 = true;");
    h.x.find(2);
    House.due("the other", h.term(), "true");
  }

  private static void ordering() {
    House h = new House();
    h.ask("find n n -> n; use sub, 0:2, add; row 5 0 = 5; row 9 0 = 9; row 3 0 = 3;");
    House.due("a parameter first", h.x.find(1), 1);
    House.due("price 3", h.x.count(3), 3);
    h.x.ith(3, 0);
    House.due("pieces as they are told", h.term(), "sub(a,b)");
    h.x.ith(3, 1);
    House.due("then operands from the left", h.term(), "add(a,b)");
    h.x.ith(3, 2);
    House.due("the last of them", h.term(), "add(b,a)");
    House.due("price 4: operands by their prices", h.x.count(4), 3);
    h.x.ith(4, 0);
    House.due("the first", h.term(), "sub(a,0)");
    h.x.ith(4, 1);
    House.due("a lesser price stands before", h.term(), "add(a,0)");
    h.x.ith(4, 2);
    House.due("the last", h.term(), "add(0,a)");
    House.due("behind the last", h.x.ith(4, 3), -1);
    House.due("before the first", h.x.ith(4, -1), -1);
    House.due("THE TERM stays", h.term(), "add(0,a)");
  }

  private static void counting() {
    House h = new House();
    h.ask("find t -> t; use not;");
    for (int p = 1; p <= 12; p++) {
      House.due("chains of not, price " + p, h.x.count(p), 1);
    }
    House.due("its bytes", h.x.ith(12, 0), 11 * 5 + 1);
    House.due("the longest", h.term(), "not(".repeat(11) + "a" + ")".repeat(11));
    h.ask("find t -> t; use both;");
    long[] trees = {1, 0, 1, 0, 2, 0, 5, 0, 14, 0, 42, 0};
    for (int p = 1; p <= 12; p++) {
      House.due("trees of price " + p, h.x.count(p), trees[p - 1]);
    }
    h.x.ith(11, 0);
    House.due("the first tree", h.term(), "both(a,both(a,both(a,both(a,both(a,a)))))");
    h.x.ith(11, 41);
    House.due("the last tree", h.term(), "both(both(both(both(both(a,a),a),a),a),a)");
    h.x.ith(7, 2);
    House.due("the one in the middle", h.term(), "both(both(a,a),both(a,a))");
    long last = 0;
    for (int p = 1; p <= 9; p++) {
      h = new House();
      h.ask("find t t -> t; use both:2, any, not:3, true;");
      long many = h.x.count(p);
      for (long i = 0; i < many && h.x.left() > 80; i++) {
        int bytes = h.x.ith(p, i);
        House.due("ith tells its bytes", h.term().length(), bytes);
        House.due("its price", cheapPrice(h.term()), p);
      }
      last = many;
    }
    House.due("many of price 9", last, h.x.count(9));
  }

  /** All terms of if, one by one: in ORDER, without one twice, each meeting. */
  private static void choosing() {
    House h = new House();
    h.ask("find t n -> n; use if, not, 3:2; row true 5 = 5;");
    String[] due = {"if(a,b,b)", "if(a,b,3)", "if(not(a),b,b)", "if(not(a),3,b)"};
    House.due("of price 4", h.x.count(4), 1);
    House.due("of price 5", h.x.count(5), 2);
    h.x.ith(4, 0);
    House.due("price 4", h.term(), due[0]);
    h.x.ith(5, 0);
    House.due("price 5, the first", h.term(), due[1]);
    h.x.ith(5, 1);
    House.due("price 5, the second", h.term(), due[2]);
    House.due("of price 6", h.x.count(6), 2);
    h.x.ith(6, 0);
    House.due("price 6, the first", h.term(), due[3]);
    h.x.ith(6, 1);
    House.due("price 6, the second", h.term(), "if(not(not(a)),b,b)");
    int all = (int) h.x.count(7);
    for (int i = 0; i < all; i++) {
      h.x.ith(7, i);
      House.due("it meets", h.x.answer(16 + 5), 5);
    }
    h.x.ith(7, 0);
    House.due("price 7, the first", h.term(), "if(a,b,if(a,b,b))");
    h.x.ith(7, all - 1);
    House.due("price 7, the last", h.term(), "if(not(not(not(a))),b,b)");
  }

  /** The price of a text by the pieces both:2, any, not:3, true. */
  private static int cheapPrice(String text) {
    int price = 0;
    for (String token : text.split("[(),]+")) {
      price += token.equals("both") ? 2 : token.equals("not") ? 3 : 1;
    }
    return price;
  }

  private static void errors() {
    House h = new House();
    h.ask("find n -> n; use div, 7, 0; row 0 = error; row 7 = 1;");
    House.due("a term that gives ERROR where that is told", h.x.find(3), 3);
    House.due("div(7,a) is behind div(a,a)", h.term(), "div(a,a)");
    House.due("ERROR as an answer", h.x.answer(0), -1);
    House.due("and no ERROR elsewhere", h.x.answer(3), 1);
    h.ask("find n -> n; use if, same, 0, div; row 0 = 0; law x:n -> f(x) = if(same(x,0),0,div(x,x));");
    House.due("a branch that is not taken has no ERROR", h.x.find(9), 8);
    House.due("so it is found", h.term(), "if(same(a,0),a,div(a,a))");
  }

  private static void lawsForAll() {
    House h = new House();
    h.act("act z n -> n = if(same(a,0),1,a)");
    h.act("act y n -> n = if(same(a,15),1,a)");
    h.ask("find n -> n; use z; law x:n -> f(add(x,1)) = if(same(x,15),1,add(x,1));");
    House.due("a law at all values", h.x.find(2), 2);
    h.ask("find n -> n; use z; row 0 = 1; law x:n -> f(x) = x;");
    House.due("it fails at the first value", h.x.find(2), 0);
    h.ask("find n -> n; use y; row 15 = 1; law x:n -> f(x) = x;");
    House.due("it fails at the last value", h.x.find(2), 0);
    h.ask("find n n -> n; use sub, add; row 1 0 = 1; law x:n y:n -> f(x,y) = f(y,x);");
    House.due("of two names", h.x.find(3), 3);
    House.due("add, not sub", h.term(), "add(a,b)");
    h.ask("find n t -> n; use if, add, 1; row 3 true = 4; law x:n y:t -> f(x,y) = if(y,add(x,1),x);");
    House.due("of a number and a truth", h.x.find(6), 6);
    House.due("if", h.term(), "if(b,add(a,1),a)");
    h.ask("find n -> n; use add, 1; row 0 = 1; law x:n -> 1 = 2;");
    House.due("a law that never holds", h.x.find(3), 0);
    h.ask("find n -> n; use add, 1; row 0 = 1; law x:n -> div(x,0) = rem(f(x),0);");
    House.due("ERROR is the same as ERROR", h.x.find(3), 1);
    h.ask("find n -> n; use add, 1; row 0 = 1; law x:n -> f(div(x,0)) = 3;");
    House.due("f of ERROR is ERROR", h.x.find(3), 0);
  }

  private static void words() {
    House h = new House();
    h.ask("find s -> s; use cat, head, rev; row \"abc\" = \"ca\"; row \"xy\" = \"yx\"; row \"q\" = \"qq\";");
    House.due("price", h.x.find(6), 6);
    House.due("first and last", h.term(), "cat(head(rev(a)),head(a))");
    House.due("letters as digits", h.x.answer(0), 3 * 27 + 1);
    House.due("one letter twice", h.x.answer(2), 17 * 27 + 17);
    h.ask("find s t -> s; use pick, \"\"; row \"a\" true = \"a\"; row \"a\" false = \"\";");
    House.due("pick", h.x.find(4), 4);
    House.due("its text", h.term(), "pick(b,a,\"\")");
    House.due("a truth as a value of a point", h.x.point(0, 1), 1);
    House.due("false", h.x.point(1, 1), 0);
    House.due("no letters", h.x.answer(1), 0);
    h.ask("find s -> n; use len, code; row \"ab\" = 2;");
    House.due("len", h.x.find(2), 2);
    House.due("its text", h.term(), "len(a)");
  }

  private static void asking() {
    House h = new House();
    h.ask("find n -> n; use xor, 5, 9:3; law x:n -> f(f(x)) = x;");
    House.due("one function", h.x.different(2), 1);
    House.due("no question of one", h.x.question(2), 0);
    House.due("two functions", h.x.different(3), 2);
    House.due("point 0, two answers", h.x.question(3), 2);
    House.due("four functions", h.x.different(7), 4);
    House.due("point 0, four answers", h.x.question(7), 4);
    h.ask("find n -> n; use min, 7, 12; row 3 = 3;");
    House.due("a, min(a,7), min(a,12)", h.x.different(3), 3);
    House.due("they part most at 13", h.x.question(3), 13003);
    h.ask("find s -> s; use rev;");
    House.due("without points all are one", h.x.different(5), 1);
    House.due("that differ nowhere", h.x.question(5), 0);
    House.due("and the first meets", h.x.find(5), 1);
    House.due("no point", h.x.point(0, 0), -2);
    h.ask("find n -> n; use div, 1, 0;");
    House.due("a, 1, 0 and ERROR at 2", h.x.question(3), 2004);
  }

  private static void rooms() {
    House h = new House();
    h.ask("find n -> n; use add, mul, xor, 1; row 1 = 3;");
    int p = 1;
    while (p < 12 && h.x.find(p) != FinderHouse.ROOM) {
      p++;
    }
    House.due("the first price with more than 120 functions", p, 9);
    for (int q = p; q <= 12; q++) {
      House.due("find", h.x.find(q), FinderHouse.ROOM);
      House.due("count", h.x.count(q), FinderHouse.ROOM);
      House.due("ith", h.x.ith(q, 0), FinderHouse.ROOM);
      House.due("ith of none such", h.x.ith(q, -1), FinderHouse.ROOM);
      House.due("different", h.x.different(q), FinderHouse.ROOM);
      House.due("question", h.x.question(q), FinderHouse.ROOM);
    }
    House.due("lesser prices stay", h.x.find(p - 1), 5);
    exactRoom();
  }

  /** Words of one to four of three letters are 120 functions; a number makes one more. */
  private static void exactRoom() {
    House h = new House();
    h.ask("find s -> s; use cat, \"b\", \"c\"; row \"a\" = \"cbac\";");
    House.due("120 functions are not too many", h.x.find(7), 7);
    House.due("the word", h.term(), "cat(\"c\",cat(\"b\",cat(a,\"c\")))");
    House.due("its answer", h.x.answer(0), ((3 * 27 + 2) * 27 + 1) * 27 + 3);
    House.due("by five trees", h.x.count(7), 5);
    House.due("nothing is new at price 8", h.x.different(8), 1);
    House.due("363 are too many", h.x.find(9), FinderHouse.ROOM);
    h.ask("find s -> s; use cat, \"b\", \"c\", 1; row \"a\" = \"cbac\";");
    House.due("those of all kinds are counted", h.x.find(7), FinderHouse.ROOM);
    House.due("at price 6 there are 40", h.x.find(6), 0);
  }

  private static void refusals() {
    House h = new House();
    House.due("find 0 without an ask", h.x.find(0), -1);
    House.due("find 13", h.x.find(13), -1);
    House.due("find without an ask", h.x.find(12), -2);
    House.due("count 0", h.x.count(0), -1);
    House.due("count without an ask", h.x.count(1), -2);
    House.due("ith 13", h.x.ith(13, 0), -1);
    House.due("ith without an ask", h.x.ith(1, -5), -2);
    House.due("different 0", h.x.different(0), -1);
    House.due("different without an ask", h.x.different(3), -2);
    House.due("question -1", h.x.question(-1), -1);
    House.due("question without an ask", h.x.question(3), -2);
    h.ask("find n t -> n; use 1;");
    House.due("point", h.x.point(31, 0), 15);
    House.due("point", h.x.point(31, 1), 1);
    House.due("no such point", h.x.point(32, 0), -2);
    House.due("no such point", h.x.point(-1, 0), -2);
    House.due("no such value", h.x.point(0, 2), -2);
    House.due("no such value", h.x.point(0, -1), -2);
    House.due("ith of none such", h.x.ith(1, Long.MAX_VALUE), -1);
  }
}
