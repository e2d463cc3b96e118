/** CHEAPER, SKETCHES, MEND and their WORK at their bounds; promises 13 to 16. */
public final class ToldEdgeTest {
  public static void main(String[] args) {
    cheaperUpToTwelve();
    cheaperOfPieces();
    cheaperIsTheFirst();
    cheaperRefusals();
    oneToThreeNumbers();
    firstRowOfNumbers();
    sketchesOfEachKind();
    sketchesWithValues();
    sketchRefusals();
    sketchFaults();
    mendAsItIs();
    mendTheLeast();
    mendPlaces();
    mendErrors();
    mendByLaws();
    mendBehindOthers();
    mendInOwnActs();
    mendRefusals();
    mendedStays();
    workOfSketches();
    workOfMends();
    workOfNothing();
    workOfOne();
    workComesLast();
    House.finish();
  }

  private static void cheaperUpToTwelve() {
    House h = new House();
    h.ask("find t -> t; use not, both:9, true:9;");
    House.due("price 12", h.cheaper("not(".repeat(11) + "a" + ")".repeat(11)), 2);
    House.due("its text", h.term(), "not(a)");
    House.due("price 13", h.cheaper("not(".repeat(12) + "a" + ")".repeat(12)), -2);
    House.due("price 11", h.cheaper("both(a,a)"), 1);
    House.due("its text", h.term(), "a");
    House.due("price 12", h.cheaper("both(a,not(a))"), 10);
    House.due("its text", h.term(), "not(true)");
    House.due("price 13", h.cheaper("both(not(a),not(a))"), -2);
    House.due("price 9", h.cheaper("true"), 9);
    House.due("price 12", h.cheaper("not(not(not(true)))"), 10);
    House.due("its text", h.term(), "not(true)");
    House.due("price 1", h.cheaper("a"), 1);
    House.due("THE TERM", h.term(), "a");
    House.due("price 13 again", h.cheaper("not(not(not(not(true))))"), -2);
    House.due("THE TERM stays", h.term(), "a");
  }

  private static void cheaperOfPieces() {
    House h = new House();
    h.act("act up n -> n = add(a,1)");
    h.act("act dn n -> n = sub(a,1)");
    h.ask("find n s -> n; use add, 1, true, \"x\", len, up, if;");
    String[] fine = {"a", "b", "1", "01", "true", "\"x\"", "add(a,1)", "len(b)", "len(\"x\")", "up(a)", "if(true,a,1)"};
    for (String text : fine) {
      House.due(text, h.cheaper(text) > 0 ? 1 : 0, 1);
    }
    String[] none = {"0", "2", "15", "false", "\"\"", "\"xx\"", "sub(a,1)", "add(a,2)", "len(\"y\")", "dn(a)", "if(false,a,1)", "up(dn(a))", "rev(b)"};
    for (String text : none) {
      House.due(text, h.cheaper(text), -2);
      House.due("the tape is used up", h.x.told(7), 0);
    }
  }

  private static void cheaperIsTheFirst() {
    House h = new House();
    h.ask("find n n -> n; use add, sub, 0:3;");
    House.due("sub(add(a,b),b)", h.cheaper("sub(add(a,b),b)"), 1);
    House.due("is a", h.term(), "a");
    House.due("sub(add(a,b),a)", h.cheaper("sub(add(a,b),a)"), 1);
    House.due("is b", h.term(), "b");
    House.due("0 is as dear as sub(a,a)", h.cheaper("0"), 3);
    House.due("pieces as they are told", h.term(), "sub(a,a)");
    House.due("add(b,a)", h.cheaper("add(b,a)"), 3);
    House.due("the operands' ORDER", h.term(), "add(a,b)");
    House.due("its answers", h.x.answer(16 * 15 + 15), 14);
    House.due("what meets does not count", h.ask("find n n -> n; use add, sub, 0:3; row 1 1 = 9;"), 256);
    House.due("still", h.cheaper("sub(add(a,b),b)"), 1);
  }

  private static void cheaperRefusals() {
    House h = new House();
    House.due("without an ask", h.cheaper("1"), -2);
    h.fault("without an ask, a", h.cheaper("a"), 2, 0);
    h.fault("FAULT before STATE", h.cheaper("add(1,"), 1, 6);
    h.ask("find n -> n; use add, mul, xor, 1, 2, 3; row 0 = 0;");
    String dear = "add(a,add(a,add(a,add(a,add(a,a)))))";
    House.due("ROOM for its price", h.cheaper(dear), -3);
    House.due("STATE before ROOM: no piece", h.cheaper(dear.replace("a))", "5))")), -2);
    House.due("STATE before ROOM: above 12", h.cheaper("add(a," + dear + ")"), -2);
    h.fault("FAULT before ROOM", h.cheaper(dear.replace("a)))))", "foo)))))")), 2, 30);
    House.due("not for a lesser price", h.cheaper("add(a,1)"), 3);
    House.due("the tape is used up", h.x.told(7), 0);
  }

  private static void oneToThreeNumbers() {
    House h = new House();
    h.ask("find n -> n; use 1; row 0 = 15;");
    House.due("none", h.sketch("15"), -2);
    House.due("none, within", h.sketch("add(a,15)"), -2);
    House.due("one: the greatest", h.sketch("?"), 15);
    House.due("its text", h.term(), "15");
    House.due("two: the greatest", h.sketch("and(?,?)"), 255);
    House.due("its text", h.term(), "and(15,15)");
    House.due("three: the greatest", h.sketch("and(?,and(?,?))"), 4095);
    House.due("its text", h.term(), "and(15,and(15,15))");
    h.fault("four", h.sketch("and(and(?,?),and(?,?))"), 5, 19);
    h.fault("five", h.sketch("and(?,and(and(?,?),and(?,?)))"), 5, 23);
    House.due("THE TERM stays", h.term(), "and(15,and(15,15))");
    h.ask("find n -> n; use 1; row 0 = 0;");
    House.due("one: the least", h.sketch("?"), 0);
    House.due("its text", h.term(), "0");
    House.due("two: the least", h.sketch("and(?,?)"), 0);
    House.due("three: the least", h.sketch("and(?,and(?,?))"), 0);
    h.ask("find n -> n; use 1; row 0 = error;");
    House.due("one: none", h.sketch("?"), 4096);
    House.due("two: none", h.sketch("and(?,?)"), 4096);
    House.due("three: none", h.sketch("and(?,and(?,?))"), 4096);
    House.due("THE TERM stays", h.term(), "and(0,and(0,0))");
    House.due("ERROR by a number", h.sketch("div(1,?)"), 0);
  }

  private static void firstRowOfNumbers() {
    House h = new House();
    h.ask("find n -> n; use 1; row 0 = 5;");
    House.due("the last one goes on first", h.sketch("add(?,?)"), 5);
    House.due("the first is the highest", h.sketch("sub(?,?)"), 11);
    House.due("0 11", h.term(), "sub(0,11)");
    House.due("three", h.sketch("add(mul(?,4),add(mul(?,2),?))"), 5);
    House.due("0 0 5", h.term(), "add(mul(0,4),add(mul(0,2),5))");
    House.due("the middle one", h.sketch("add(mul(?,0),add(mul(?,5),mul(?,0)))"), 16);
    House.due("0 1 0", h.term(), "add(mul(0,0),add(mul(1,5),mul(0,0)))");
    House.due("the first one", h.sketch("add(mul(?,5),add(mul(?,0),mul(?,0)))"), 256);
    House.due("places from the left", h.sketch("if(less(?,1),?,?)"), 0 * 256 + 5 * 16);
    House.due("its text", h.term(), "if(less(0,1),5,0)");
  }

  private static void sketchesOfEachKind() {
    House h = new House();
    h.ask("find n -> t; use 1; row 5 = true; row 6 = false;");
    House.due("a truth", h.sketch("less(a,?)"), 6);
    House.due("answers", h.x.answer(5) * 10 + h.x.answer(6), 10);
    h.ask("find s -> s; use 1; row \"abcdef\" = \"cd\"; row \"uvwxyz\" = \"wx\";");
    House.due("a word", h.sketch("take(drop(a,?),?)"), 2 * 16 + 2);
    House.due("its text", h.term(), "take(drop(a,2),2)");
    House.due("an answer", h.x.answer(1), 23 * 27 + 24);
    h.ask("find n n -> n; use 1; law x:n y:n -> f(x,y) = add(mul(x,3),y); ");
    House.due("laws", h.sketch("add(mul(a,?),b)"), 3);
    h.ask("find n n n -> n; use 1; row 1 2 3 = 6; row 15 15 15 = 13;");
    House.due("rows of three", h.sketch("add(add(a,b),add(c,?))"), 0);
    h.ask("find t t t -> n; use 1; law x:t -> f(x,x,true) = if(x,9,4);");
    House.due("three parameters", h.sketch("if(both(a,both(b,c)),?,?)"), 9 * 16 + 4);
  }

  /** Values in a sketch stay as they are told, before a ? and behind it. */
  private static void sketchesWithValues() {
    House h = new House();
    h.ask("find n -> n; use 1; row 0 = 5;");
    House.due("a word behind", h.sketch("add(?,len(\"abc\"))"), 2);
    House.due("its text", h.term(), "add(2,len(\"abc\"))");
    House.due("a word before", h.sketch("add(len(\"ab\"),?)"), 3);
    House.due("its text", h.term(), "add(len(\"ab\"),3)");
    House.due("words without letters", h.sketch("add(len(\"\"),add(?,len(\"\")))"), 5);
    House.due("its text", h.term(), "add(len(\"\"),add(5,len(\"\")))");
    House.due("truths", h.sketch("if(false,0,if(true,?,0))"), 5);
    House.due("its text", h.term(), "if(false,0,if(true,5,0))");
    House.due("numbers", h.sketch("add(0,add(?,4))"), 1);
    House.due("its text", h.term(), "add(0,add(1,4))");
    House.due("parameters", h.sketch("add(a,?)"), 5);
    House.due("its text", h.term(), "add(a,5)");
  }

  private static void sketchRefusals() {
    House h = new House();
    House.due("without an ask", h.sketch("?"), -2);
    House.due("without an ask, no ?", h.sketch("1"), -2);
    House.due("without an ask each kind", h.sketch("less(?,1)"), -2);
    h.fault("without an ask, a", h.sketch("add(a,?)"), 2, 4);
    h.fault("FAULT before STATE", h.sketch("?)"), 1, 1);
    h.ask("find n -> n; use 1;");
    House.due("no ?", h.sketch("a"), -2);
    h.fault("FAULT before no ?", h.sketch("b"), 2, 0);
    House.due("the tape is used up", h.x.told(7), 0);
  }

  private static void sketchFaults() {
    House h = new House();
    h.ask("find n -> n; use 1;");
    h.fault("another kind", h.sketch("  same(?,1)"), 3, 2);
    h.fault("another kind without a ?", h.sketch(" true"), 3, 1);
    h.fault("a word", h.sketch("sign(?)"), 3, 0);
    h.fault("? is a number", h.sketch("if(?,1,2)"), 3, 3);
    h.fault("? is a number", h.sketch("len(?)"), 3, 4);
    h.fault("a fourth ? behind an unknown name", h.sketch("add(foo,add(add(?,?),add(?,?)))"), 2, 4);
    h.fault("a fourth ? before an unknown name", h.sketch("add(add(add(?,?),add(?,?)),foo)"), 5, 23);
    h.fault("a fourth ? that is no number", h.sketch("add(add(?,?),add(?,len(?)))"), 3, 23);
    h.fault("a fourth ? and fault 1", h.sketch("add(add(?,?),add(?,?)"), 1, 21);
  }

  private static void mendAsItIs() {
    House h = new House();
    h.ask("find n -> n; use add, 1; row 3 = 4;");
    House.due("it meets", h.mend("add(1,a)", 1), 0);
    House.due("it is THE TERM", h.term(), "add(1,a)");
    House.due("its answers", h.x.answer(15), 0);
    House.due("nothing was put in", h.x.mended(), -1);
    House.due("a term of other acts", h.mend("if(true,add(a,1),div(1,0))", 12), 0);
    House.due("its text", h.term(), "if(true,add(a,1),div(1,0))");
    House.due("it does not at a lesser price", h.mend("add(a,2)", 1), 1);
    House.due("place 2", h.x.mended(), 2);
    House.due("a value", h.mend("4", 1), 0);
    House.due("mended() stays", h.x.mended(), 2);
  }

  /** The least price; then the place; then ORDER. */
  private static void mendTheLeast() {
    House h = new House();
    h.ask("find n n -> n; use add, sub, 1:2, 2:2; row 5 3 = 9; row 7 1 = 9; row 2 2 = 5;");
    House.due("a b 1: a price of 2 in a later place", h.mend("add(add(a,b),9)", 3), 2);
    House.due("the place", h.x.mended(), 4);
    House.due("its text", h.term(), "add(add(a,b),1)");
    House.due("not for 1", h.mend("add(add(a,b),9)", 1), 100);
    h.ask("find n -> n; use 2; row 3 = 7; row 5 = 9;");
    House.due("it meets by a carry", h.mend("add(add(a,9),add(2,9))", 1), 0);
    House.due("it meets", h.mend("add(add(a,2),add(9,9))", 1), 0);
    House.due("of one price the first place", h.mend("add(add(a,9),add(9,9))", 1), 1);
    House.due("its place", h.x.mended(), 3);
    House.due("its text", h.term(), "add(add(a,2),add(9,9))");
    h.ask("find n -> n; use 4, 6; row 3 = 4;");
    House.due("in ORDER", h.mend("9", 1), 1);
    House.due("4", h.term(), "4");
    h.ask("find n n -> n; use 1; row 4 4 = 4;");
    House.due("a and b would do", h.mend("9", 1), 1);
    House.due("a is first", h.term(), "a");
    House.due("both places would do", h.mend("sub(9,0)", 1), 1);
    House.due("the whole first", h.x.mended(), 0);
    House.due("its text", h.term(), "a");
    h.ask("find n n -> n; use 1; row 4 4 = 5; row 6 6 = 7;");
    House.due("places within", h.mend("add(add(0,0),1)", 1), 1);
    House.due("the place of its first operand", h.x.mended(), 1);
    House.due("its text", h.term(), "add(a,1)");
    House.due("deeper", h.mend("add(1,add(0,0))", 1), 1);
    House.due("2 before 3", h.x.mended(), 2);
    House.due("deepest", h.mend("max(1,add(xor(0,0),1))", 1), 1);
    House.due("place 3", h.x.mended(), 3);
    House.due("its text", h.term(), "max(1,add(a,1))");
  }

  /** Terms are numbered each before its operands, and only those of the place's kind are put in. */
  private static void mendPlaces() {
    House h = new House();
    h.act("act own n t -> n = if(b,a,0)");
    h.ask("find n t s -> n; use not, len, \"zz\", true, 7; row 3 true \"abc\" = 3; row 5 false \"\" = 0;");
    House.due("a truth", h.mend("if(not(b),a,len(c))", 1), 1);
    House.due("place 1", h.x.mended(), 1);
    House.due("its text", h.term(), "if(b,a,len(c))");
    h.ask("find n t s -> n; use not, len, \"zz\", true, 7; row 3 true \"abc\" = 2; row 5 false \"\" = 2; row 5 true \"q\" = 2;");
    House.due("a word", h.mend("max(0,len(rev(c)))", 1), 1);
    House.due("place 3", h.x.mended(), 3);
    House.due("its text", h.term(), "max(0,len(\"zz\"))");
    h.ask("find n t s -> n; use not, len, \"zz\", true, 7; row 3 true \"abc\" = 3; row 5 false \"\" = 0; row 9 false \"\" = 0;");
    House.due("in an own act", h.mend("own(a,not(b))", 1), 1);
    House.due("place 2", h.x.mended(), 2);
    House.due("its text", h.term(), "own(a,b)");
    House.due("the third operand", h.mend("if(b,3,7)", 1), 100);
    House.due("price 2: len(c)", h.mend("if(b,3,7)", 2), 2);
    House.due("the place", h.x.mended(), 0);
    House.due("its text", h.term(), "len(c)");
    h.ask("find n t s -> n; use not, len, \"zz\", true, 0; row 3 true \"abc\" = 3; row 5 false \"\" = 0; row 9 false \"ab\" = 0;");
    House.due("the third operand", h.mend("if(b,a,7)", 1), 1);
    House.due("place 3", h.x.mended(), 3);
    House.due("its text", h.term(), "if(b,a,0)");
  }

  private static void mendErrors() {
    House h = new House();
    h.ask("find n -> n; use 0, 2; row 4 = error; row 6 = error;");
    House.due("an ERROR is put in by a value", h.mend("div(a,1)", 1), 1);
    House.due("its text", h.term(), "div(a,0)");
    House.due("its answer", h.x.answer(4), -1);
    h.ask("find n -> n; use 0, 2; row 4 = 2; row 6 = 3;");
    House.due("an ERROR goes", h.mend("div(a,0)", 1), 1);
    House.due("its text", h.term(), "div(a,2)");
    h.ask("find n -> n; use div, 0; row 4 = error; row 5 = error;");
    House.due("a term that is ERROR", h.mend("add(a,1)", 3), 3);
    House.due("its text", h.term(), "div(a,0)");
    h.ask("find n -> n; use 1; row 4 = 4; row 0 = 0;");
    House.due("what is not worked out may be ERROR", h.mend("if(same(a,a),1,div(1,0))", 1), 1);
    House.due("the whole", h.x.mended(), 0);
    h.ask("find n -> n; use 1; law x:n -> f(x) = add(x,1);");
    House.due("a law", h.mend("add(a,add(0,div(1,0)))", 1), 1);
    House.due("its text", h.term(), "add(a,1)");
    House.due("place 2", h.x.mended(), 2);
  }

  /** By laws alone: what was looked at before does not count. */
  private static void mendByLaws() {
    String ask = "find n -> n; use 1, 2; law x:n -> f(x) = add(x,1);";
    House h = new House();
    h.ask(ask);
    House.due("it meets", h.mend("add(1,a)", 1), 0);
    House.due("another does not", h.mend("add(a,2)", 1), 1);
    House.due("its text", h.term(), "add(a,1)");
    House.due("one that meets again", h.mend("sub(a,15)", 1), 0);
    House.due("its text", h.term(), "sub(a,15)");
    House other = new House();
    other.ask(ask);
    House.due("it does not meet", other.mend("xor(a,3)", 1), 100);
    House.due("nor by find", other.x.find(1), 0);
    House.due("it meets", other.mend("add(a,add(0,1))", 1), 0);
    House.due("nor by a sketch", other.sketch("xor(a,?)"), 4096);
    House.due("it meets", other.mend("add(add(0,1),a)", 1), 0);
    House.due("by what is put in", other.mend("add(a,add(0,2))", 2), 1);
    House.due("its place", other.x.mended(), 2);
    House.due("its text", other.term(), "add(a,1)");
  }

  /** Acts before the place and behind it stay as they are, whatever SIZE is put in. */
  private static void mendBehindOthers() {
    House h = new House();
    h.ask("find n n -> n; use add; row 3 5 = 5; row 2 7 = 2; row 1 1 = 3;");
    House.due("behind an act, a longer one", h.mend("add(mul(a,b),9)", 3), 3);
    House.due("its place", h.x.mended(), 4);
    House.due("its text", h.term(), "add(mul(a,b),add(a,a))");
    House.due("its answer", h.x.answer(3 * 16 + 5), 5);
    House.due("behind a deeper one", h.mend("add(mul(a,mul(1,b)),9)", 3), 3);
    House.due("its place", h.x.mended(), 6);
    House.due("its text", h.term(), "add(mul(a,mul(1,b)),add(a,a))");
    House.due("between two", h.mend("sub(add(mul(a,b),9),mul(b,0))", 3), 3);
    House.due("its place", h.x.mended(), 5);
    House.due("its text", h.term(), "sub(add(mul(a,b),add(a,a)),mul(b,0))");
    House.due("before one", h.mend("add(9,mul(a,b))", 3), 3);
    House.due("its place", h.x.mended(), 1);
    House.due("its text", h.term(), "add(add(a,a),mul(a,b))");
    House.due("a shorter one", h.mend("sub(add(mul(a,b),mul(a,2)),mul(b,3))", 3), 100);
    h.ask("find n n -> n; use 2; row 3 5 = 5; row 2 7 = 2; row 1 1 = 3;");
    House.due("a shorter one", h.mend("add(mul(a,b),mul(a,mul(3,b)))", 1), 1);
    House.due("its place", h.x.mended(), 6);
    House.due("its text", h.term(), "add(mul(a,b),mul(a,2))");
    House.due("between two", h.mend("sub(add(mul(a,b),mul(mul(b,b),a)),mul(b,0))", 1), 1);
    House.due("its place", h.x.mended(), 6);
    House.due("its text", h.term(), "sub(add(mul(a,b),mul(2,a)),mul(b,0))");
  }

  /** The place may stand in operands of own acts, also of words. */
  private static void mendInOwnActs() {
    House h = new House();
    h.act("act twice s -> s = cat(a,a)");
    h.act("act some s n -> s = take(twice(a),b)");
    h.ask("find s s -> s; use 1, 3; row \"ab\" \"cd\" = \"baba\"; row \"x\" \"y\" = \"xx\";");
    House.due("within an own act", h.mend("rev(twice(b))", 1), 1);
    House.due("its place", h.x.mended(), 2);
    House.due("its text", h.term(), "rev(twice(a))");
    House.due("its answer", h.x.answer(0), ((2 * 27 + 1) * 27 + 2) * 27 + 1);
    h.ask("find s s -> s; use 1, 3; row \"ab\" \"cd\" = \"aba\"; row \"x\" \"y\" = \"xx\";");
    House.due("a number of an own act", h.mend("some(a,add(1,1))", 1), 1);
    House.due("its place", h.x.mended(), 2);
    House.due("its text", h.term(), "some(a,3)");
    House.due("a word of an own act", h.mend("some(rev(b),3)", 1), 1);
    House.due("its place", h.x.mended(), 1);
    House.due("its text", h.term(), "some(a,3)");
    House.due("its answer", h.x.answer(1), 24 * 27 + 24);
  }

  private static void mendRefusals() {
    House h = new House();
    House.due("NONE before FAULT", h.mend("foo", 0), -1);
    House.due("the tape is used up", h.x.told(7), 0);
    House.due("no place", h.x.place(), -1);
    House.due("NONE before STATE", h.mend("1", 13), -1);
    h.fault("FAULT before STATE", h.mend("a", 12), 2, 0);
    House.due("STATE", h.mend("1", 12), -2);
    House.due("STATE for each kind", h.mend("true", 1), -2);
    h.ask("find n -> n; use add, mul, xor, 1, 2, 3; row 0 = 0;");
    House.due("NONE before ROOM", h.mend("a", 13), -1);
    h.fault("FAULT before ROOM", h.mend(" true", 12), 3, 1);
    House.due("ROOM, though it meets", h.mend("a", 12), -3);
    House.due("the tape is used up", h.x.told(7), 0);
    House.due("not for a lesser price", h.mend("a", 1), 0);
    h.fault("a ?", h.mend("?", 1), 1, 0);
  }

  private static void mendedStays() {
    House h = new House();
    House.due("before any", h.x.mended(), -1);
    h.ask("find n -> n; use 1; row 3 = 1;");
    House.due("none", h.mend("add(a,a)", 1), 1);
    House.due("the whole", h.x.mended(), 0);
    h.ask("find n -> n; use 2; row 3 = 5; row 4 = 6;");
    House.due("put in", h.mend("add(a,9)", 1), 1);
    House.due("place 2", h.x.mended(), 2);
    House.due("none", h.mend("mul(a,9)", 1), 100);
    House.due("that leaves it", h.x.mended(), 2);
    House.due("as it is", h.mend("add(a,2)", 1), 0);
    House.due("that leaves it", h.x.mended(), 2);
    House.due("refused", h.mend("add(a,2)", 0), -1);
    House.due("that leaves it", h.x.mended(), 2);
    h.sketch("add(a,?)");
    h.x.find(1);
    h.ask("find n -> n; use 2;");
    House.due("others leave it", h.x.mended(), 2);
    Blocks.goDown(h);
    House.due("also when DOWN", h.x.mended(), 2);
  }

  private static String tree(String leaf, int acts) {
    if (acts == 0) {
      return leaf;
    }
    int left = (acts - 1) / 2;
    return "add(" + tree(leaf, left) + "," + tree(leaf, acts - 1 - left) + ")";
  }

  /** A sketch of a SIZE, an odd one, with three ?. */
  private static String sized(int size) {
    return "add(?,add(?,add(?," + tree("a", (size - 7) / 2) + ")))";
  }

  /** A house that has done WORK of 1000000000 less 512, with an ask of 16 POINTS. */
  private static House almostDone() {
    House h = new House();
    h.ask("find n n -> n; use 1;");
    int[] sizes = {81, 81, 81, 81, 81, 81, 81, 81, 81, 81, 81, 31, 31};
    long work = 0;
    for (int size : sizes) {
      House.due("three ? of 256 points, " + size, h.sketch(sized(size)), 0);
      work += 4096L * 256 * size;
    }
    h.ask("find n -> n; use 1:2, 2:3;");
    for (int i = 0; i < 2; i++) {
      House.due("three ? of 16 points", h.sketch("add(?,add(?,?))"), 0);
      work += 4096L * 16 * 5;
    }
    for (int i = 0; i < 4; i++) {
      House.due("two ? of 16 points", h.sketch("add(?,?)"), 0);
      work += 256L * 16 * 3;
    }
    House.due("one ? of 16 points", h.sketch("sub(7,xor(add(a,?),2))"), 0);
    work += 16L * 16 * 7;
    House.due("one ? of 16 points", h.sketch("?"), 0);
    work += 16L * 16;
    House.due("what is left", 1000000000L - work, 512);
    return h;
  }

  /** WORK of just 1000000000 is not refused; a sketch that is refused does not count. */
  private static void workOfSketches() {
    House h = almostDone();
    House.due("768 more", h.sketch("add(a,?)"), -3);
    House.due("the tape is used up", h.x.told(7), 0);
    House.due("THE TERM stays", h.term(), "0");
    House.due("4096 more", h.sketch("add(?,?)"), -3);
    House.due("256 more", h.sketch("?"), 0);
    House.due("768 more", h.sketch("add(a,?)"), -3);
    House.due("256 more, that is all", h.sketch("?"), 0);
    House.due("256 more", h.sketch("?"), -3);
    h.ask("find s -> n; use 1; row \"\" = 0;");
    House.due("16 more, the least that there is", h.sketch("?"), -3);
    House.due("2 more, by mend", h.mend("0", 1), -3);
    House two = almostDone();
    two.ask("find s -> n; use 1; row \"\" = 0; row \"a\" = 0;");
    House.due("two rows, sixteen numbers, 17 terms: 544", two.sketch(oneHole(17)), -3);
    House.due("two rows, sixteen numbers, 16 terms: 512", two.sketch(oneHole(16)), 0);
    House.due("no more", two.mend("0", 1), -3);
  }

  /** A sketch of a SIZE with one ?, that meets with 0. */
  private static String oneHole(int size) {
    String text = size % 2 == 1 ? "?" : "if(true,?,0)";
    for (int many = size % 2 == 1 ? 1 : 4; many < size; many += 2) {
      text = "mul(" + text + ",0)";
    }
    return text;
  }

  private static void workOfMends() {
    House h = almostDone();
    House.due("two functions, 16 points, 5 terms: 800", h.mend("add(a,add(a,1))", 2), -3);
    House.due("the tape is used up", h.x.told(7), 0);
    House.due("one function, 16 points, 6 terms: 576", h.mend("if(true,a,len(sign(a)))", 1), -3);
    House.due("one function, 16 points, 5 terms: 400", h.mend("add(a,add(a,1))", 1), 0);
    House.due("one function, 16 points, 3 terms: 144", h.mend("add(a,1)", 1), -3);
    House.due("one function, 16 points, 1 term: 16", h.mend("a", 1), 0);
    House.due("two functions, 16 points, 1 term: 32", h.mend("a", 2), 0);
    House.due("three functions, 16 points, 1 term: 48", h.mend("a", 3), 0);
    House.due("16 are left", h.mend("a", 2), -3);
    House.due("16 are left", h.mend("a", 1), 0);
    House.due("none is left", h.mend("a", 1), -3);
    House three = almostDone();
    House.due("two functions, 16 points, 4 terms: 512", three.mend("if(true,a,1)", 2), 0);
    House.due("that is all: 16 more", three.mend("a", 1), -3);
    House four = almostDone();
    House.due("one function, 16 points, 4 terms: 256", four.mend("if(true,a,1)", 1), 0);
    House.due("one function, 16 points, 4 terms: 256", four.mend("if(true,a,1)", 1), 0);
    House.due("that is all", four.mend("a", 1), -3);
    House five = almostDone();
    House.due("three functions up to 3: 768", five.mend("if(true,a,1)", 3), -3);
    five.ask("find n -> n; use 1:2, 2:3, true;");
    House.due("functions of all kinds: 3 times 16 times 16", five.mend("if(true,a,1)", 2), -3);
    House.due("up to 1: 2 times 16 times 16", five.mend("if(true,a,1)", 1), 0);
  }

  private static void workOfNothing() {
    House h = almostDone();
    House.due("256", h.sketch("?"), 0);
    House.due("256", h.sketch("?"), 0);
    h.ask("find s -> n; use 1;");
    House.due("without points a sketch has no WORK", h.sketch("add(?,add(?,?))"), 0);
    House.due("nor has a mend", h.mend("add(1,2)", 12), 0);
    House.due("find has none", h.x.find(12), 1);
    h.ask("find n n -> n; use 1; row 1 1 = 1;");
    House.due("find has none", h.x.find(2), 1);
    House.due("nor cheaper", h.cheaper("1"), 1);
  }

  /** A term of words of a SIZE, that gives "" for "". */
  private static String wordOf(int size) {
    if (size == 1) {
      return "a";
    }
    int left = (size - 1) / 2;
    return size % 2 == 0 ? "rev(" + wordOf(size - 1) + ")" : "cat(" + wordOf(left) + "," + wordOf(size - 1 - left) + ")";
  }

  /** The last piece of WORK that there is room for is a single one: 999999999 and 1, then 1000000000 and 1. */
  private static void workOfOne() {
    House h = almostDone();
    h.ask("find s -> s; use 1:2; row \"\" = \"\";");
    House.due("one function, one point, 23 terms: 529", h.mend(wordOf(23), 1), -3);
    House.due("one function, one point, 22 terms: 484", h.mend(wordOf(22), 1), 0);
    House.due("5 terms: 25", h.mend(wordOf(5), 1), 0);
    House.due("1 term: 1", h.mend("a", 1), 0);
    House.due("1 term: 1", h.mend("a", 1), 0);
    House.due("1 is left, 2 terms: 4", h.mend("rev(a)", 1), -3);
    House.due("1 is left, two functions: 2", h.mend("a", 2), -3);
    House.due("1 is left: 1", h.mend("a", 1), 0);
    House.due("none is left: 1", h.mend("a", 1), -3);
  }

  /** ROOM for WORK is last of all. */
  private static void workComesLast() {
    House h = almostDone();
    h.sketch("?");
    h.sketch("?");
    House.due("ROOM", h.sketch("?"), -3);
    House.due("STATE", h.sketch("a"), -2);
    h.fault("a FAULT", h.sketch("true"), 3, 0);
    House.due("NONE", h.mend("a", 13), -1);
    h.fault("a FAULT", h.mend("b", 1), 2, 0);
    House.due("ROOM", h.mend("a", 1), -3);
  }
}
