import java.util.ArrayList;
import java.util.List;

/** TERMS of an ask at their bounds: POINTS, FIND to THE QUESTION, THE TERM; promises 8 to 12 and 17 to 19. */
public final class SearchEdgeTest {
  public static void main(String[] args) {
    pointsOfAllValues();
    pointsOfRows();
    pointsOutOfRange();
    pricesFromOneToTwelve();
    countOfJustOnePrice();
    firstAndLast();
    threeOperandsUpToTwelve();
    roomForFunctions();
    roomOfAllKinds();
    noPoints();
    rowsThatAreError();
    lawsOfBothErrors();
    lawsForTheLastValue();
    lawsOfThreeOperands();
    lawsEachOfItsKinds();
    meetingInTheLastRow();
    rowsOfThreeValues();
    kindsMakeFunctions();
    ownActsOfWords();
    functionsThatMeet();
    theQuestion();
    theFirstOfAlikeQuestions();
    theLastPoint();
    textOfTheTerm();
    answersStay();
    whatFindsNothing();
    actsAfterTheAsk();
    ordersOfRefusals();
    House.finish();
  }

  private static void pointsOfAllValues() {
    House h = new House();
    House.due("t", h.ask("find t -> n; use 1;"), 2);
    House.due("false before true", h.x.point(0, 0) * 10 + h.x.point(1, 0), 1);
    House.due("n", h.ask("find n -> n; use 1;"), 16);
    House.due("from 0 on", h.x.point(0, 0) * 100 + h.x.point(15, 0), 15);
    House.due("n n", h.ask("find n n -> n; use 1;"), 256);
    House.due("the last one goes on first", h.x.point(1, 0) * 100 + h.x.point(1, 1), 1);
    House.due("then the one before", h.x.point(16, 0) * 100 + h.x.point(16, 1), 100);
    House.due("the last", h.x.point(255, 0) * 100 + h.x.point(255, 1), 1515);
    House.due("t n t", h.ask("find t n t -> n; use 1;"), 64);
    for (int i = 0; i < 64; i++) {
      House.due("point " + i, h.x.point(i, 0) * 1000 + h.x.point(i, 1) * 10 + h.x.point(i, 2), i / 32 * 1000 + i / 2 % 16 * 10 + i % 2);
    }
    House.due("t t t", h.ask("find t t t -> n; use 1;"), 8);
    House.due("point 6", h.x.point(6, 0) * 100 + h.x.point(6, 1) * 10 + h.x.point(6, 2), 110);
  }

  /** More than 256, or a word: the rows, in their order, alike ones each for itself. */
  private static void pointsOfRows() {
    House h = new House();
    House.due("256 are all", h.ask("find n n -> n; use 1; row 1 2 = 3;"), 256);
    House.due("512 are not", h.ask("find n n t -> n; use 1; row 9 8 true = 3; row 7 6 false = 3;"), 2);
    House.due("the first row", h.x.point(0, 0) * 100 + h.x.point(0, 1) * 10 + h.x.point(0, 2), 981);
    House.due("the second row", h.x.point(1, 0) * 100 + h.x.point(1, 1) * 10 + h.x.point(1, 2), 760);
    House.due("no third", h.x.point(2, 0), -2);
    House.due("t n n", h.ask("find t n n -> n; use 1; row true 8 3 = 3;"), 1);
    House.due("n n n", h.ask("find n n n -> n; use 1;"), 0);
    House.due("a word", h.ask("find s -> n; use 1; row \"z\" = 1; row \"\" = 1; row \"z\" = 1; row \"zzzzzz\" = 1;"), 4);
    House.due("its letters", h.x.point(0, 0), 26);
    House.due("none", h.x.point(1, 0), 0);
    House.due("the same again", h.x.point(2, 0), 26);
    House.due("six", h.x.point(3, 0), 387420488);
    House.due("a truth beside a word", h.ask("find t s -> n; use 1; row true \"b\" = 1;"), 1);
    House.due("true", h.x.point(0, 0) * 10 + h.x.point(0, 1), 12);
    House.due("the last kind s alone", h.ask("find n -> s; use 1; row 3 = \"\";"), 16);
    for (String kinds : new String[] {"s", "s s", "s s s", "n s", "s t s", "s s n", "t s s"}) {
      String row = kinds.replace("s", "\"b\"").replace("n", "3").replace("t", "true");
      House.due(kinds + " without rows", h.ask("find " + kinds + " -> n; use 1;"), 0);
      House.due("no point", h.x.point(0, 0), -2);
      House.due(kinds + " with a row", h.ask("find " + kinds + " -> n; use 1; row " + row + " = 1;"), 1);
      House.due("its first value", h.x.point(0, 0), row.startsWith("\"") ? 2 : row.startsWith("3") ? 3 : 1);
      House.due("its last value", h.x.point(0, kinds.length() / 2), kinds.endsWith("n") ? 3 : 2);
      House.due("no second point", h.x.point(1, 0), -2);
    }
  }

  private static void pointsOutOfRange() {
    House h = new House();
    House.due("without an ask", h.x.point(0, 0), -2);
    h.ask("find n t -> n; use 1;");
    int[][] none = {{-1, 0}, {32, 0}, {0, -1}, {0, 2}, {31, 2}, {Integer.MAX_VALUE, 0}, {Integer.MIN_VALUE, 0}, {0, Integer.MAX_VALUE}, {0, Integer.MIN_VALUE}};
    for (int[] each : none) {
      House.due("point(" + each[0] + ", " + each[1] + ")", h.x.point(each[0], each[1]), -2);
    }
    House.due("the last value of the last point", h.x.point(31, 1), 1);
    House.due("answer without THE TERM", h.x.answer(0), -2);
    h.x.find(1);
    for (int i : new int[] {-1, 32, Integer.MAX_VALUE, Integer.MIN_VALUE}) {
      House.due("answer(" + i + ")", h.x.answer(i), -2);
    }
    House.due("answer(31)", h.x.answer(31), 15);
    for (int i : new int[] {-1, 1, Integer.MAX_VALUE, Integer.MIN_VALUE}) {
      House.due("byteOf(" + i + ")", h.x.byteOf(i), -1);
    }
    House.due("byteOf(0)", h.x.byteOf(0), 'a');
  }

  private static void pricesFromOneToTwelve() {
    House h = new House();
    h.ask("find t -> t; use not:9, both; law x:t -> f(x) = false;");
    for (int p : new int[] {0, 13, -1, Integer.MIN_VALUE, Integer.MAX_VALUE}) {
      House.due("find(" + p + ")", h.x.find(p), -1);
      House.due("count(" + p + ")", h.x.count(p), -1);
      House.due("ith(" + p + ", 0)", h.x.ith(p, 0), -1);
      House.due("different(" + p + ")", h.x.different(p), -1);
      House.due("question(" + p + ")", h.x.question(p), -1);
      House.due("mend(" + p + ")", h.mend("a", p), -1);
    }
    House.due("find(1)", h.x.find(1), 0);
    House.due("find(11)", h.x.find(11), 0);
    House.due("count(11)", h.x.count(11), 0);
    House.due("different(11)", h.x.different(11), 0);
    House.due("mend(11)", h.mend("a", 11), 100);
    House.due("mend(12)", h.mend("a", 12), 12);
    House.due("its text", h.term(), "both(a,not(a))");
    House.due("find(12)", h.x.find(12), 12);
    House.due("its text", h.term(), "both(a,not(a))");
    House.due("count(12)", h.x.count(12), 2);
    House.due("the second", h.x.ith(12, 1), 14);
    House.due("its text", h.term(), "both(not(a),a)");
    House.due("different(12)", h.x.different(12), 1);
    h.ask("find t -> t; use not:9;");
    House.due("a parameter for 1", h.x.find(1), 1);
    House.due("count(1)", h.x.count(1), 1);
    House.due("different(1)", h.x.different(1), 1);
  }

  private static void countOfJustOnePrice() {
    House h = new House();
    h.ask("find n -> n; use 3, 4:2, 5:9; row 0 = 3;");
    House.due("price 1", h.x.count(1), 1);
    House.due("price 2", h.x.count(2), 0);
    h.ask("find n -> n; use 3:2, 4, xor; row 0 = 0; row 1 = 1;");
    for (int p = 1; p <= 5; p++) {
      long meet = 0;
      // terms with the function of a: a; then xors of an odd number of a, an even number of 3, an even number of 4, in all orders
      for (int as = 1; as <= 5; as += 2) {
        for (int threes = 0; threes <= 4; threes += 2) {
          for (int fours = 0; fours <= 4; fours += 2) {
            int leaves = as + threes + fours;
            if (as + 2 * threes + fours + leaves - 1 == p) {
              meet += trees(leaves) * orders(as, threes, fours);
            }
          }
        }
      }
      House.due("price " + p, h.x.count(p), meet);
    }
    House.due("of price 5: xor of three a, of one a and two 4", h.x.count(5), 2 + 2 * 3);
    House.due("of price 7: with two 3", h.x.count(7), 2 * 3);
  }

  private static long trees(int leaves) {
    long[] many = {0, 1, 1, 2, 5, 14, 42, 132, 429, 1430, 4862};
    return many[leaves];
  }

  private static long orders(int x, int y, int z) {
    return factorial(x + y + z) / factorial(x) / factorial(y) / factorial(z);
  }

  private static long factorial(int n) {
    return n < 2 ? 1 : n * factorial(n - 1);
  }

  /** THE i-TH, from 0 on, up to the last one. */
  private static void firstAndLast() {
    House h = new House();
    h.ask("find t t -> t; use both;");
    House.due("of price 5", h.x.count(5), 16);
    House.due("the first", h.x.ith(5, 0), 17);
    House.due("its text", h.term(), "both(a,both(a,a))");
    House.due("the last", h.x.ith(5, 15), 17);
    House.due("its text", h.term(), "both(both(b,b),b)");
    for (long i : new long[] {16, -1, Long.MAX_VALUE, Long.MIN_VALUE, 1L << 32, (1L << 32) + 3}) {
      House.due("ith(5, " + i + ")", h.x.ith(5, i), -1);
      House.due("THE TERM stays", h.x.byteOf(5), 'b');
    }
    House.due("of price 4 there are none", h.x.count(4), 0);
    House.due("so there is no first", h.x.ith(4, 0), -1);
    House.due("of price 1", h.x.ith(1, 1), 1);
    House.due("its text", h.term(), "b");
    House.due("of price 1", h.x.ith(1, 2), -1);
    h.ask("find t -> t; use both, any, true, false;");
    long many = 42L * 32 * 729;
    House.due("all of price 11", h.x.count(11), many);
    String last = "any(".repeat(5) + "false" + ",false)".repeat(5);
    House.due("the last one", h.x.ith(11, many - 1), last.length());
    House.due("its text", h.term(), last);
    House.due("none behind it", h.x.ith(11, many), -1);
  }

  /** All terms of if and not up to the greatest price, in ORDER. */
  private static void threeOperandsUpToTwelve() {
    List<List<String>> truths = new ArrayList<>();
    List<List<String>> numbers = new ArrayList<>();
    for (int p = 0; p <= 12; p++) {
      truths.add(p == 0 ? List.of() : List.of("not(".repeat(p - 1) + "a" + ")".repeat(p - 1)));
      numbers.add(new ArrayList<>());
      if (p == 1) {
        numbers.get(p).add("b");
      }
      for (int x = 1; x < p; x++) {
        for (int y = 1; y < p; y++) {
          int z = p - 1 - x - y;
          for (String second : z > 0 ? numbers.get(y) : List.<String>of()) {
            for (String third : numbers.get(z)) {
              numbers.get(p).add("if(" + truths.get(x).get(0) + "," + second + "," + third + ")");
            }
          }
        }
      }
    }
    for (int p = 1; p <= 12; p++) {
      House h = new House();
      h.ask("find t n -> n; use if, not; row true 3 = 3;");
      List<String> due = numbers.get(p);
      House.due("of price " + p, h.x.count(p), due.size());
      for (int i : new int[] {0, due.size() / 3, due.size() / 2, due.size() - 1}) {
        if (i >= 0 && i < due.size()) {
          House.due("price " + p + ", number " + i, h.x.ith(p, i), due.get(i).length());
          House.due("price " + p + ", number " + i, h.term(), due.get(i));
        }
      }
      House.due("behind the last", h.x.ith(p, due.size()), -1);
    }
  }

  /** 120 FUNCTIONS are not too many, 121 are. */
  private static void roomForFunctions() {
    String words = "find s -> s; use cat, \"b\", \"c\"; row \"a\" = \"b\";";
    House h = new House();
    h.ask(words);
    House.due("find, 120", h.x.find(7), 1);
    House.due("count, 120", h.x.count(7), 0);
    House.due("ith, 120", h.x.ith(7, 0), -1);
    House.due("different, 120", h.x.different(7), 1);
    House.due("question, 120", h.x.question(7), 0);
    House.due("mend, 120", h.mend("\"b\"", 7), 0);
    House.due("cheaper, 120", h.cheaper("cat(a,cat(a,cat(a,a)))"), 7);
    String more = words.replace("\"c\";", "\"c\", \"d\":7;");
    h.ask(more);
    House.due("find, 120 up to 6", h.x.find(6), 1);
    House.due("find, 121", h.x.find(7), -3);
    House.due("count, 121", h.x.count(7), -3);
    House.due("ith, 121", h.x.ith(7, 0), -3);
    House.due("ith, 121, and no such one", h.x.ith(7, -1), -3);
    House.due("different, 121", h.x.different(7), -3);
    House.due("question, 121", h.x.question(7), -3);
    House.due("mend, 121", h.mend("\"b\"", 7), -3);
    House.due("the tape is used up", h.x.told(7), 0);
    House.due("cheaper, 121", h.cheaper("cat(a,cat(a,cat(a,a)))"), -3);
    House.due("the tape is used up", h.x.told(7), 0);
    House.due("for a lesser price", h.cheaper("cat(a,cat(a,a))"), 5);
    House.due("find, 8", h.x.find(8), -3);
    House.due("find, 12", h.x.find(12), -3);
    for (int p = 7; p <= 12; p++) {
      House.due("behind that, find " + p, h.x.find(p), -3);
      House.due("behind that, count " + p, h.x.count(p), -3);
      House.due("behind that, different " + p, h.x.different(p), -3);
    }
    House twelve = new House();
    twelve.ask(more);
    House.due("12 at once", twelve.x.find(12), -3);
    for (int p = 12; p >= 7; p--) {
      House.due("then " + p, twelve.x.find(p), -3);
    }
    House.due("then 6", twelve.x.find(6), 1);
    House.due("count, 6, behind a ROOM", h.x.count(6), 0);
    House.due("find, 6, behind a ROOM", h.x.find(6), 1);
    House.due("different, 6, behind a ROOM", h.x.different(6), 1);
    House.due("ith, 1, behind a ROOM", h.x.ith(1, 0), 3);
    House.due("mend, 6, behind a ROOM", h.mend("\"a\"", 6), 1);
  }

  /** FUNCTIONS of other kinds count; a kind makes them different, though their answers are the same. */
  private static void roomOfAllKinds() {
    for (String piece : new String[] {"1", "true", "2", "false"}) {
      House h = new House();
      h.ask("find s -> s; use cat, \"b\", \"c\", " + piece + "; row \"a\" = \"b\";");
      House.due("121 with " + piece, h.x.find(7), -3);
      House.due("up to 6", h.x.find(6), 1);
    }
    House h = new House();
    h.ask("find s -> s; use cat, \"b\", \"c\", \"a\", \"bc\":3, \"ccc\":5; row \"a\" = \"b\";");
    House.due("120 with pieces that have functions of others", h.x.find(7), 1);
  }

  /** Without POINTS all terms of a kind have one FUNCTION, and all meet. */
  private static void noPoints() {
    House h = new House();
    House.due("no rows", h.ask("find s n -> n; use add, len, 1, true;"), 0);
    House.due("find", h.x.find(12), 1);
    House.due("the first of that kind", h.term(), "b");
    House.due("no answers", h.x.answer(0), -2);
    House.due("one function", h.x.different(12), 1);
    House.due("no question", h.x.question(12), 0);
    House.due("all of price 2", h.x.count(2), 1);
    House.due("len(a)", h.x.ith(2, 0), 6);
    House.due("its text", h.term(), "len(a)");
    House.due("all of price 3", h.x.count(3), 4);
    House.due("cheaper", h.cheaper("add(1,len(a))"), 1);
    House.due("its text", h.term(), "b");
    House.due("cheaper of a truth", h.cheaper("true"), 1);
    House.due("its text", h.term(), "true");
    House.due("a sketch", h.sketch("add(?,?)"), 0);
    House.due("mend", h.mend("add(1,2)", 1), 0);
  }

  private static void rowsThatAreError() {
    House h = new House();
    h.ask("find n -> n; use div, 1; row 0 = error;");
    House.due("div(a,a)", h.x.find(3), 3);
    House.due("its text", h.term(), "div(a,a)");
    House.due("ERROR", h.x.answer(0), -1);
    House.due("1", h.x.answer(1), 1);
    h.ask("find n -> n; use div, 1; row 1 = error;");
    House.due("none", h.x.find(3), 0);
    h.ask("find n -> n; use div, 1; row 0 = error; row 0 = 0;");
    House.due("none is both", h.x.find(5), 0);
    h.ask("find s -> s; use head; row \"\" = error; row \"ab\" = \"a\";");
    House.due("of words", h.x.find(2), 2);
  }

  private static void lawsOfBothErrors() {
    House h = new House();
    h.ask("find n -> n; use div, 1; law x:n -> f(x) = div(1,x);");
    House.due("both ERROR at 0", h.x.find(3), 3);
    House.due("its text", h.term(), "div(1,a)");
    h.ask("find n -> n; use div, 1; row 1 = 1; law x:n -> f(x) = if(same(x,0),15,div(1,x));");
    House.due("ERROR and 15", h.x.find(3), 0);
    h.ask("find n -> n; use div, 0, 1; law x:n -> div(1,0) = f(x);");
    House.due("ERROR everywhere", h.x.find(3), 3);
    House.due("its text", h.term(), "div(a,0)");
  }

  /** A law holds for all values: it may fail at the last row of its names alone. */
  private static void lawsForTheLastValue() {
    House h = new House();
    h.act("act last n n -> n = if(both(same(a,15),same(b,15)),0,a)");
    h.act("act first n n -> n = if(both(same(a,0),same(b,0)),1,a)");
    h.ask("find n n -> n; use last:2, first:2; law x:n y:n -> f(x,y) = last(x,y);");
    House.due("not a", h.x.find(4), 4);
    House.due("its text", h.term(), "last(a,b)");
    h.ask("find n n -> n; use last:2, first:2; law x:n y:n -> f(x,y) = first(x,y);");
    House.due("not a", h.x.find(4), 4);
    House.due("its text", h.term(), "first(a,b)");
    h.ask("find n n -> n; use last:2, first:2; law x:n y:n -> f(x,y) = x; law x:n -> f(15,15) = 0;");
    House.due("both laws", h.x.find(4), 0);
    h.ask("find n t -> n; use if, 0:2; law x:n y:t -> f(x,y) = if(y,x,0);");
    House.due("a number and a truth", h.x.find(5), 5);
    h.ask("find t n -> n; use if, 0:2; law y:t x:n -> f(y,x) = if(y,x,0);");
    House.due("a truth and a number", h.x.find(5), 5);
    h.ask("find t t t -> t; use both; law x:t -> f(true,x,true) = x; law x:t -> f(x,true,true) = x; law x:t -> f(true,true,x) = x;");
    House.due("three operands", h.x.find(5), 5);
    House.due("its text", h.term(), "both(a,both(b,c))");
  }

  /** f of three operands, each with as many values as its kind has; one that is ERROR makes it ERROR. */
  private static void lawsOfThreeOperands() {
    House h = new House();
    h.ask("find t n t -> n; use if, 0; law x:t y:n -> f(x,y,true) = if(x,y,0); law x:t y:n -> f(x,y,false) = 0;");
    House.due("t n t", h.x.find(7), 7);
    House.due("its text", h.term(), "if(a,if(c,b,0),0)");
    h.ask("find n t t -> n; use if, 0; law x:n y:t -> f(x,y,true) = if(y,x,0); law x:n y:t -> f(x,y,false) = 0;");
    House.due("n t t", h.x.find(7), 7);
    House.due("its text", h.term(), "if(b,if(c,a,0),0)");
    h.ask("find t t n -> n; use if, 0; law x:t y:n -> f(x,true,y) = if(x,y,0); law x:t y:n -> f(x,false,y) = 0;");
    House.due("t t n", h.x.find(7), 7);
    House.due("its text", h.term(), "if(a,if(b,c,0),0)");
    h.ask("find t n t -> t; use both; law x:t y:n -> f(x,y,true) = x; law x:t y:n -> f(x,y,false) = false;");
    House.due("to a truth", h.x.find(3), 3);
    House.due("its text", h.term(), "both(a,c)");
    h.ask("find t t n -> n; use 0; law x:t -> f(x,x,div(1,0)) = div(1,0);");
    House.due("the third is ERROR", h.x.find(1), 1);
    h.ask("find t n t -> n; use 0; law x:t -> f(x,div(1,0),x) = div(1,0);");
    House.due("the second is ERROR", h.x.find(1), 1);
    h.ask("find n t t -> n; use 0; law x:t -> f(div(1,0),x,x) = div(1,0);");
    House.due("the first is ERROR", h.x.find(1), 1);
    h.ask("find t t n -> n; use 0; law x:t -> f(x,x,div(1,0)) = 0;");
    House.due("ERROR is no number, though all terms were 0", h.x.find(1), 0);
  }

  /** Each of four laws has the kinds of its own names, whatever the others have. */
  private static void lawsEachOfItsKinds() {
    String[] others = {"law p:t q:t -> 1 = 1;", "law p:n q:n -> 1 = 1;", "law p:t -> 1 = 1;", "law p:n q:t -> 1 = 1;"};
    String[] wanted = {"law x:n -> f(x) = add(x,1);", "law y:t x:n -> f(x) = add(x,1);", "law x:n y:t -> f(x) = add(x,1);", "law x:n y:n -> f(y) = add(y,1);"};
    for (String other : others) {
      House h = new House();
      h.act("act cut n -> n = if(less(a,2),add(a,1),0)");
      for (String want : wanted) {
        for (int at = 0; at < 4 && h.x.left() > 30; at++) {
          String laws = other.repeat(at) + want + other.repeat(3 - at);
          House.due(laws, h.ask("find n -> n; use cut, add:2, 1; " + laws), 16);
          House.due("not cut(a), as law " + at, h.x.find(4), 4);
        }
      }
    }
    House h = new House();
    h.ask("find n -> n; use add, 1; law x:t -> f(if(x,1,0)) = if(x,2,1); law x:n -> f(x) = f(x); law x:t y:n -> y = y; law y:n x:t -> x = x;");
    House.due("a law of a truth looks at two values", h.x.find(3), 3);
    House.due("its text", h.term(), "add(a,1)");
  }

  /** A row's values are those of its own POINT, in asks of all values with three parameters, too. */
  private static void rowsOfThreeValues() {
    House h = new House();
    h.ask("find n t t -> n; use if, 0; row 5 false true = 5; row 7 true false = 0; row 9 false true = 9; row 3 true false = 0; row 2 true true = 2;"
        + " row 8 false false = 0;");
    House.due("n t t", h.x.find(4), 4);
    House.due("its text", h.term(), "if(c,a,0)");
    House.due("its answer at 5 false true", h.x.answer(5 * 4 + 1), 5);
    h.ask("find t n t -> n; use if, 0; row true 5 false = 5; row false 7 true = 0; row true 9 true = 9; row false 3 false = 0; row true 15 false = 15;");
    House.due("t n t", h.x.find(4), 4);
    House.due("its text", h.term(), "if(a,b,0)");
    h.ask("find t t n -> n; use if, 0; row true false 5 = 0; row false true 7 = 7; row true true 9 = 9; row false false 3 = 0;");
    House.due("t t n", h.x.find(4), 4);
    House.due("its text", h.term(), "if(b,c,0)");
    h.ask("find n n n -> n; use add; row 1 2 9 = 10; row 2 1 7 = 9; row 9 15 15 = 8;");
    House.due("n n n", h.x.find(3), 3);
    House.due("its text", h.term(), "add(a,c)");
  }

  /** A FUNCTION is its kind, too: what has the same numbers as answers is not the same, for any number of POINTS. */
  private static void kindsMakeFunctions() {
    String[] kinds = {"t", "t t", "t t t", "n", "n t", "n t t", "n n"};
    for (String each : kinds) {
      dueKinds("find " + each + " -> n; use 0, false, \"\", 1, true, \"a\";", true);
    }
    for (int rows = 0; rows <= 12; rows++) {
      dueKinds("find s -> n; use 0, false, \"\", 1, true, \"a\";" + " row \"b\" = 1;".repeat(rows), rows > 0);
    }
  }

  private static void dueKinds(String ask, boolean hasPoints) {
    House h = new House();
    h.ask(ask);
    for (String text : new String[] {"true", "\"a\"", "1", "\"\"", "false", "0"}) {
      String first = text.startsWith("\"") ? "a" : Character.isDigit(text.charAt(0)) ? "0" : "false";
      House.due(ask + " cheaper " + text, h.cheaper(text), 1);
      House.due(ask + " cheaper " + text, h.term(), hasPoints ? text : first);
    }
  }

  private static void ownActsOfWords() {
    House h = new House();
    h.act("act twice s -> s = cat(a,a)");
    h.act("act some s n -> s = take(twice(a),b)");
    h.act("act size s -> n = len(twice(a))");
    h.ask("find s n -> s; use twice, some:2, 3; row \"ab\" 9 = \"abab\"; row \"\" 9 = \"\"; row \"abcd\" 9 = error;");
    House.due("of one word", h.x.find(2), 2);
    House.due("its text", h.term(), "twice(a)");
    House.due("its answers", h.x.answer(0) * 10 + h.x.answer(1) * 2 + h.x.answer(2), (((27 + 2) * 27 + 1) * 27 + 2) * 10 - 1);
    h.ask("find s n -> s; use twice, some:2, 3; row \"ab\" 1 = \"aba\"; row \"x\" 9 = \"xx\";");
    House.due("of a word and a number", h.x.find(4), 4);
    House.due("its text", h.term(), "some(a,3)");
    h.ask("find s -> n; use size; row \"ab\" = 4; row \"abcd\" = error;");
    House.due("of a word to a number", h.x.find(2), 2);
    House.due("its text", h.term(), "size(a)");
    House.due("only one of that price", h.x.count(2), 1);
    House.due("cheaper", h.cheaper("size(a)"), 2);
  }

  private static void meetingInTheLastRow() {
    StringBuilder rows = new StringBuilder("find n -> n; use add, 1;");
    for (int i = 0; i < 11; i++) {
      rows.append(" row ").append(i).append(" = ").append(i).append(';');
    }
    House h = new House();
    h.ask(rows + " row 15 = 15;");
    House.due("twelve rows are met", h.x.find(3), 1);
    h.ask(rows + " row 15 = 0;");
    House.due("the last is not", h.x.find(3), 0);
    h.ask(rows.toString().replace("row 0 = 0", "row 0 = 1") + " row 15 = 15;");
    House.due("the first is not", h.x.find(3), 0);
    String law = "law x:n -> f(x) = f(x);";
    h.ask("find n -> n; use add, 1;" + law + law + law + "law x:n -> f(x) = add(x,1);");
    House.due("the fourth law", h.x.find(3), 3);
    House.due("its text", h.term(), "add(a,1)");
  }

  private static void functionsThatMeet() {
    House h = new House();
    h.ask("find n -> n; use xor, 1, 2, true; law x:n -> f(f(x)) = x;");
    House.due("up to 1: a", h.x.different(1), 1);
    House.due("up to 2", h.x.different(2), 1);
    House.due("up to 3: a xor 1, a xor 2", h.x.different(3), 3);
    House.due("up to 5: a xor 3", h.x.different(5), 4);
    House.due("up to 12", h.x.different(12), 4);
    h.ask("find n -> n; use xor, 1; row 0 = 9;");
    House.due("none", h.x.different(12), 0);
    House.due("no question", h.x.question(12), 0);
  }

  private static void theQuestion() {
    House h = new House();
    h.ask("find n -> n; use min, 3, 9:3; row 0 = 0;");
    House.due("one", h.x.question(2), 0);
    House.due("a and min(a,3) part at 4", h.x.question(3), 4002);
    House.due("min(a,9), too: at 10 three", h.x.question(5), 10003);
    h.ask("find n -> n; use div, 1, 3; row 1 = 1;");
    House.due("a, 1, div(a,a), div(1,a): ERROR is one", h.x.different(3), 4);
    House.due("at 0: 0, 1, ERROR, ERROR; at 2: 2, 1, 1, 0", h.x.question(3), 3);
    h.ask("find t -> t; use not, true, false;");
    House.due("two answers at most", h.x.question(2), 2);
  }

  /** Of points with as many the first. */
  private static void theFirstOfAlikeQuestions() {
    House h = new House();
    h.ask("find n -> n; use max, 7; row 15 = 15;");
    House.due("a and max(a,7): 0 to 6 part them", h.x.question(3), 2);
    h.ask("find n -> n; use min, 14; row 0 = 0;");
    House.due("at 15 alone", h.x.question(3), 15002);
    h.ask("find n n -> n; use min; row 3 3 = 3;");
    House.due("a, b and min(a,b): at point 1", h.x.question(3), 1002);
  }

  private static void theLastPoint() {
    House h = new House();
    h.act("act last n n -> n = if(both(same(a,15),same(b,15)),0,a)");
    h.ask("find n n -> n; use last; row 1 2 = 1;");
    House.due("a alone", h.x.question(1), 0);
    House.due("last(a,a) differs from a where a is 15", h.x.different(3) > 1 ? 1 : 0, 1);
    h.ask("find n n -> n; use last:2; row 1 2 = 1; row 15 0 = 15; law x:n -> f(x,0) = x;");
    House.due("a and last(a,b)", h.x.different(4), 2);
    House.due("point 255, two answers", h.x.question(4), 255002);
  }

  private static void textOfTheTerm() {
    House h = new House();
    h.ask("find s -> s; use 1; row \"\" = \"zz\";");
    House.due("it meets", h.mend(" pick( like( a ,\n\"\" ) , cat( \"zz\" , take( a , 09 ) ) , take(a,00) ) ", 1), 0);
    House.due("no blanks, no 0 in front", h.term(), "pick(like(a,\"\"),cat(\"zz\",take(a,9)),take(a,0))");
    h.ask("find t -> t; use 1; row true = true;");
    House.due("it meets", h.mend(" any( true , both ( false,a ))", 1), 0);
    House.due("truths", h.term(), "any(true,both(false,a))");
    h.ask("find n n n -> n; use 1; row 1 2 3 = 14;");
    House.due("it meets", h.mend("add( 10,add(a,c ))", 1), 0);
    House.due("two digits", h.term(), "add(10,add(a,c))");
  }

  /** answer() is of the ask that THE TERM was found for, point() of the ask that there is. */
  private static void answersStay() {
    House h = new House();
    h.ask("find n n -> n; use add, 1; row 1 1 = 2; row 2 3 = 5;");
    House.due("add(a,b)", h.x.find(3), 3);
    h.ask("find t -> t; use not;");
    House.due("the answers of the old ask", h.x.answer(255), 14);
    House.due("the points of the new one", h.x.point(1, 0), 1);
    House.due("has only two", h.x.point(2, 0), -2);
    h.ask("find s -> s; use rev; row \"ab\" = \"ba\";");
    House.due("still", h.x.answer(16 * 15), 15);
    House.due("rev", h.x.find(2), 2);
    House.due("the new answers", h.x.answer(0), 2 * 27 + 1);
    House.due("one", h.x.answer(1), -2);
    h.ask("find n -> n; use foo;");
    House.due("a refused ask changes nothing", h.x.answer(0), 55);
  }

  private static void whatFindsNothing() {
    House h = new House();
    h.ask("find n -> n; use add, 1; row 0 = 1;");
    h.x.find(12);
    House.due("the first", h.term(), "1");
    h.ask("find n -> n; use and; row 0 = 9;");
    House.due("find", h.x.find(12), 0);
    House.due("ith", h.x.ith(3, 0), -1);
    House.due("count", h.x.count(3), 0);
    House.due("question", h.x.question(3), 0);
    House.due("sketch", h.sketch("and(a,?)"), 4096);
    House.due("mend", h.mend("and(a,a)", 3), 100);
    House.due("cheaper of no piece", h.cheaper("add(a,a)"), -2);
    House.due("THE TERM stays", h.term(), "1");
    House.due("and its answers", h.x.answer(0), 1);
    House.due("nothing was put in", h.x.mended(), -1);
  }

  /** An ask that there is stays as it was when an act comes. */
  private static void actsAfterTheAsk() {
    House h = new House();
    h.act("act up n -> n = add(a,1)");
    h.ask("find n -> n; use up; row 1 = 3;");
    House.due("before", h.x.find(3), 3);
    h.act("act down n -> n = sub(a,1)");
    House.due("pieces", h.x.told(9), 1);
    House.due("behind", h.x.find(3), 3);
    House.due("its text", h.term(), "up(up(a))");
    House.due("of price 3", h.x.count(3), 1);
    House.due("it is no piece", h.cheaper("down(a)"), -2);
    House.due("but may stand in a told term", h.mend("down(up(up(up(a))))", 1), 0);
  }

  private static void ordersOfRefusals() {
    House h = new House();
    House.due("NONE before STATE: find", h.x.find(0), -1);
    House.due("NONE before STATE: count", h.x.count(13), -1);
    House.due("NONE before STATE: ith", h.x.ith(0, 0), -1);
    House.due("NONE before STATE: different", h.x.different(13), -1);
    House.due("NONE before STATE: question", h.x.question(0), -1);
    House.due("STATE: find", h.x.find(1), -2);
    House.due("STATE: count", h.x.count(12), -2);
    House.due("STATE before NONE (i)", h.x.ith(1, -1), -2);
    House.due("STATE: different", h.x.different(1), -2);
    House.due("STATE: question", h.x.question(12), -2);
    h.ask("find n -> n; use add, mul, xor, 1, 2, 3, 4, 5;");
    House.due("ROOM", h.x.find(12), -3);
    House.due("NONE before ROOM: find", h.x.find(13), -1);
    House.due("NONE before ROOM: count", h.x.count(0), -1);
    House.due("NONE before ROOM: ith", h.x.ith(13, 0), -1);
    House.due("NONE before ROOM: different", h.x.different(0), -1);
    House.due("NONE before ROOM: question", h.x.question(13), -1);
    House.due("ROOM before NONE (i)", h.x.ith(12, -1), -3);
    House.due("ROOM before NONE (i)", h.x.ith(12, Long.MAX_VALUE), -3);
  }
}
