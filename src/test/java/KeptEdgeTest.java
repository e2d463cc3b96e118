/** KEPT TERMS and PATTERNS at their bounds; promises 22 to 25. */
public final class KeptEdgeTest {
  public static void main(String[] args) {
    twelveKept();
    sizeOfThirty();
    weightOfForty();
    withinTwelve();
    keepOrder();
    keptBytes();
    kindsOfTheKept();
    oneAndTwoParameters();
    noParameterAndThree();
    parametersAlone();
    sameTwoOperands();
    valuesThatAreTheSame();
    placesOfOneTerm();
    savingOfOne();
    weightOfPatterns();
    alikeByBytes();
    neighbouringPlaces();
    placesThatAreNotFirst();
    twelveAndThirty();
    deepTermsStay();
    kindsOfPatterns();
    againstTheModel();
    againAndAgain();
    namesToLearn();
    learnOrder();
    ownBytes();
    House.finish();
  }

  private static String tree(String act, String leaf, int acts) {
    if (acts == 0) {
      return leaf;
    }
    int left = (acts - 1) / 2;
    return act + "(" + tree(act, leaf, left) + "," + tree(act, leaf, acts - 1 - left) + ")";
  }

  private static String nested(String open, String leaf, int depth) {
    return open.repeat(depth) + leaf + ")".repeat(depth);
  }

  /** Makes a text of kind n THE TERM. */
  private static void tell(House h, String text) {
    House.due("told: " + text, h.mend(text, 1), 0);
  }

  private static int keep(House h, String text) {
    tell(h, text);
    return h.x.keep();
  }

  private static House numbers(String... terms) {
    House h = new House();
    h.ask("find n n n -> n; use 1;");
    for (int k = 0; k < terms.length; k++) {
      House.due("kept: " + terms[k], keep(h, terms[k]), k);
    }
    return h;
  }

  private static void twelveKept() {
    House h = numbers();
    tell(h, "add(a,1)");
    for (int i = 0; i < 12; i++) {
      House.due("its number, from 0 on", h.x.keep(), i);
      House.due("how many", h.x.told(1), i + 1);
      House.due("a record", h.x.told(4), i + 1);
    }
    House.due("the 13th", h.x.keep(), -3);
    House.due("twelve", h.x.told(1), 12);
    House.due("twelve records", h.x.told(4), 12);
    House.due("the last one", h.x.kept(11, -1), 8);
    House.due("there is no 13th", h.x.kept(12, -1), -1);
  }

  private static void sizeOfThirty() {
    House h = numbers();
    String fifteen = tree("add", "a", 7);
    House.due("29", keep(h, "add(" + fifteen + "," + tree("add", "a", 6) + ")"), 0);
    House.due("30", keep(h, "if(true," + fifteen + "," + tree("add", "a", 6) + ")"), 1);
    House.due("31", keep(h, "add(" + fifteen + "," + fifteen + ")"), -2);
    House.due("32", keep(h, "if(true," + fifteen + "," + fifteen + ")"), -2);
    House.due("two are kept", h.x.told(1), 2);
  }

  private static void weightOfForty() {
    House h = new House();
    h.act("act most n -> n = " + tree("add", "a", 39));
    h.act("act over n -> n = " + tree("add", "a", 40));
    h.act("act one n -> n = a");
    h.ask("find n -> n; use most, over, one;");
    House.due("most(a)", h.cheaper("most(a)") > 0 ? 1 : 0, 1);
    House.due("most(a) weighs 40", h.mend("most(a)", 1), 0);
    House.due("it is kept", h.x.keep(), 0);
    House.due("the first of price 2", h.x.ith(2, 1), 7);
    House.due("over(a)", h.term(), "over(a)");
    House.due("weighs 41", h.x.keep(), -2);
    House.due("the first of price 3", h.x.ith(3, 6), 12);
    House.due("one(most(a))", h.term(), "one(most(a))");
    House.due("weighs 41", h.x.keep(), -2);
    House.due("one is kept", h.x.told(1), 1);
    House.due("one(a)", h.x.ith(2, 2), 6);
    House.due("weighs 1", h.x.keep(), 1);
  }

  private static void withinTwelve() {
    House h = new House();
    h.act("act neg n -> n = sub(0,a)");
    h.ask("find n n -> n; use neg, 1:9; row 3 5 = 2; row 9 2 = 9; row 1 1 = 0;");
    House.due("within thirteen", h.mend(nested("xor(0,", "add(a,b)", 11), 2), 2);
    House.due("its text", h.term(), nested("xor(0,", "add(neg(a),b)", 11));
    House.due("is not kept", h.x.keep(), -2);
    House.due("within twelve", h.mend(nested("xor(0,", "add(a,b)", 10), 2), 2);
    House.due("is kept", h.x.keep(), 0);
  }

  /** STATE before ROOM. */
  private static void keepOrder() {
    House h = numbers();
    House.due("no TERM", h.x.keep(), -2);
    tell(h, "a");
    for (int i = 0; i < 12; i++) {
      h.x.keep();
    }
    House.due("ROOM", h.x.keep(), -3);
    tell(h, tree("add", "a", 15));
    House.due("a SIZE of 31 before ROOM", h.x.keep(), -2);
  }

  private static void keptBytes() {
    House h = numbers("add(a,15)", "b");
    for (int k : new int[] {-1, 2, Integer.MAX_VALUE, Integer.MIN_VALUE}) {
      House.due("kept(" + k + ", -1)", h.x.kept(k, -1), -1);
      House.due("kept(" + k + ", 0)", h.x.kept(k, 0), -1);
    }
    House.due("how many bytes", h.x.kept(0, -1), 9);
    House.due("how many bytes", h.x.kept(1, -1), 1);
    House.due("the first", h.x.kept(0, 0), 'a');
    House.due("the last", h.x.kept(0, 8), ')');
    House.due("the only one", h.x.kept(1, 0), 'b');
    for (int i : new int[] {-2, -3, -4, 9, Integer.MAX_VALUE, Integer.MIN_VALUE}) {
      House.due("kept(0, " + i + ")", h.x.kept(0, i), -1);
    }
    House.due("kept(1, 1)", h.x.kept(1, 1), -1);
  }

  /** A kept term has the kinds of the ask that it was found for, not of the one that there is. */
  private static void kindsOfTheKept() {
    House h = new House();
    h.ask("find s t n -> s; use 1; row \"a\" true 3 = \"a\";");
    House.due("told", h.mend("pick(b,a,sign(c))", 1), 0);
    h.ask("find n -> n; use 1;");
    House.due("kept", h.x.keep(), 0);
    House.due("its bytes", h.x.told(5), 3 + 1 + 3 + 17);
    h.x.sync();
    int[] due = {2, 0, 21, 3, 's', 't', 'n', 'p'};
    for (int i = 0; i < due.length; i++) {
      House.due("its record, byte " + i, h.x.octet(1, 3 + i), due[i]);
    }
    Blocks.goDown(h);
    House.due("it is kept again", h.x.start(), 1);
    House.due("its text", h.kept(0), "pick(b,a,sign(c))");
  }

  private static void learnt(String what, House h, String name, int saving, String own, String... kept) {
    House.due(what + ", what is saved", h.learn(name), saving);
    House.due(what + ", the act", h.own(h.x.told(0) - 1), own);
    for (int k = 0; k < kept.length; k++) {
      House.due(what + ", kept " + k, h.kept(k), kept[k]);
    }
  }

  private static void oneAndTwoParameters() {
    learnt("one", numbers("add(mul(a,2),1)", "add(mul(b,2),1)", "add(mul(c,2),1)"), "x", 15 - 6 - 5, "add(mul(a,2),1)", "x(a)", "x(b)", "x(c)");
    learnt("two", numbers("add(mul(a,2),sub(b,1))", "add(mul(b,2),sub(c,1))", "add(mul(1,2),sub(a,1))"), "x", 21 - 9 - 7,
        "add(mul(a,2),sub(b,1))", "x(a,b)", "x(b,c)", "x(1,a)");
    learnt("two, one of them twice", numbers("if(less(a,b),a,7)", "if(less(b,c),b,7)", "if(less(c,a),c,7)"), "x", 18 - 9 - 6,
        "if(less(a,b),a,7)", "x(a,b)", "x(b,c)", "x(c,a)");
    learnt("numbered from the left", numbers("if(less(1,b),a,b)", "if(less(1,c),b,c)", "if(less(1,7),a,7)", "if(less(1,8),9,8)"), "x", 24 - 12 - 6,
        "if(less(1,a),b,a)", "x(b,a)", "x(c,b)", "x(7,a)", "x(8,9)");
  }

  private static void noParameterAndThree() {
    House none = numbers("add(mul(3,2),1)", "add(mul(3,2),1)", "add(mul(3,2),1)");
    House.due("none", none.learn("x"), -2);
    House three = numbers("add(mul(a,b),mul(c,1))", "add(mul(b,c),mul(a,1))", "add(mul(c,a),mul(b,1))");
    House.due("three", three.learn("x"), -2);
    House.due("it stays", three.kept(0), "add(mul(a,b),mul(c,1))");
    House both = numbers("add(mul(a,b),mul(a,1))", "add(mul(b,c),mul(b,1))", "add(mul(c,a),mul(c,1))");
    learnt("two of three are the same", both, "x", 21 - 9 - 7, "add(mul(a,b),mul(a,1))", "x(a,b)", "x(b,c)", "x(c,a)");
  }

  private static void parametersAlone() {
    House all = numbers("add(a,b)", "add(b,c)", "add(c,a)", "add(a,c)");
    House.due("an act of different parameters", all.learn("x"), -2);
    House one = numbers("len(sign(a))", "len(sign(b))");
    House.due("acts of one: two within each other are no act of parameters alone", one.learn("x"), -2);
    learnt("the same parameter twice", numbers("add(a,a)", "add(b,b)", "add(7,7)", "add(c,c)"), "x", 12 - 8 - 3, "add(a,a)", "x(a)", "x(b)", "x(7)", "x(c)");
    learnt("a value and one", numbers("add(a,9)", "add(b,9)", "add(7,9)", "add(c,9)"), "x", 12 - 8 - 3, "add(a,9)", "x(a)", "x(b)", "x(7)", "x(c)");
    learnt("three operands, two different", numbers("if(true,a,a)", "if(true,b,b)", "if(true,c,c)"), "x", 12 - 6 - 4, "if(true,a,a)", "x(a)", "x(b)", "x(c)");
  }

  /** Two of the same two operands are the same parameter; of others they are not. */
  private static void sameTwoOperands() {
    learnt("the same at both", numbers("add(mul(a,b),mul(a,b))", "add(xor(b,1),xor(b,1))", "add(c,c)"), "x", 7 + 7 + 3 - (4 + 4 + 2) - 3,
        "add(a,a)", "x(mul(a,b))", "x(xor(b,1))", "x(c)");
    learnt("not the same at the second", numbers("sub(add(a,8),add(a,9))", "sub(add(a,8),add(b,9))"), "x", 14 - 6 - 7, "sub(add(a,8),add(b,9))", "x(a,a)", "x(a,b)");
    learnt("not the same at the first", numbers("sub(add(a,8),add(b,9))", "sub(add(a,8),add(a,9))"), "x", 14 - 6 - 7, "sub(add(a,8),add(b,9))", "x(a,b)", "x(a,a)");
    House other = numbers("add(mul(a,1),a)", "add(mul(b,1),c)", "add(mul(c,1),7)");
    learnt("the same at one place alone", other, "x", 15 - 9 - 5, "add(mul(a,1),b)", "x(a,a)", "x(b,c)", "x(c,7)");
  }

  private static void valuesThatAreTheSame() {
    learnt("numbers", numbers("max(add(a,15),3)", "max(add(b,15),3)", "max(add(c,15),3)"), "x", 15 - 6 - 5, "max(add(a,15),3)", "x(a)");
    learnt("words", numbers("len(cat(sign(a),\"ab\"))", "len(cat(sign(b),\"ab\"))", "len(cat(sign(1),\"ab\"))"), "x", 15 - 6 - 5, "len(cat(sign(a),\"ab\"))", "x(a)");
    House words = numbers("len(cat(sign(a),\"ab\"))", "len(cat(sign(b),\"b\"))", "len(cat(sign(1),\"\"))");
    learnt("words that differ", words, "x", 15 - 9 - 5, "len(cat(sign(a),b))", "x(a,\"ab\")", "x(b,\"b\")", "x(1,\"\")");
    House.due("its second kind", words.x.own(0, -3), 's');
    learnt("truths", numbers("if(both(less(a,1),true),a,1)", "if(both(less(b,1),true),b,1)"), "x", 16 - 4 - 8, "if(both(less(a,1),true),a,1)", "x(a)", "x(b)");
    House truths = numbers("if(any(less(a,1),true),2,1)", "if(any(less(a,1),false),2,1)", "if(any(less(a,1),same(b,1)),2,1)");
    learnt("truths that differ", truths, "x", 8 + 8 + 10 - (3 + 3 + 5) - 8, "if(any(less(a,1),b),2,1)", "x(a,true)", "x(a,false)", "x(a,same(b,1))");
    House.due("its kinds", truths.x.own(0, -2) * 1000 + truths.x.own(0, -3), 'n' * 1000 + 't');
    learnt("a number is no parameter", numbers("xor(7,sub(add(mul(a,8),9),1))", "xor(7,sub(add(mul(a,8),9),b))"), "x", 18 - 6 - 9, "xor(7,sub(add(mul(a,8),9),b))",
        "x(a,1)", "x(a,b)");
    learnt("a parameter is no number", numbers("xor(7,sub(add(mul(a,8),9),b))", "xor(7,sub(add(mul(a,8),9),1))"), "x", 18 - 6 - 9, "xor(7,sub(add(mul(a,8),9),b))",
        "x(a,b)", "x(a,1)");
    learnt("parameters of two kept terms become one", numbers("add(mul(a,2),1)", "add(mul(a,2),1)", "add(mul(a,2),1)"), "x", 15 - 6 - 5, "add(mul(a,2),1)", "x(a)", "x(a)");
  }

  private static void placesOfOneTerm() {
    learnt("one within another", numbers("add(1,add(1,add(1,add(1,a))))"), "x", 9 - 5 - 3, "add(1,a)", "x(x(x(x(a))))");
    learnt("beside another", numbers("xor(max(a,9),xor(max(b,9),xor(max(c,9),max(1,9))))"), "x", 15 - 11 - 3, "max(a,9)", "xor(x(a),xor(x(b),xor(x(c),x(1))))");
    House place = numbers("add(mul(a,2),1)");
    House.due("a place and itself are not two", place.learn("x"), -2);
  }

  /** A SAVING of 1 is one, of 0 is none. */
  private static void savingOfOne() {
    House zero = numbers("add(a,9)", "add(b,9)", "add(c,9)");
    House.due("9 - 6 - 3", zero.learn("x"), -2);
    House.due("it stays", zero.kept(0) + zero.kept(1) + zero.kept(2), "add(a,9)add(b,9)add(c,9)");
    House.due("no own act", zero.x.told(0), 0);
    House.due("no record", zero.x.told(4), 3);
    keep(zero, "add(7,9)");
    learnt("12 - 8 - 3", zero, "x", 1, "add(a,9)", "x(a)", "x(b)", "x(c)", "x(7)");
    House.due("a record", zero.x.told(4), 5);
    House.due("its bytes", zero.x.told(5), 4 * (3 + 1 + 3 + 8) + 3 + 1);
    House two = numbers("add(mul(a,9),1)", "add(mul(b,9),1)");
    learnt("10 - 4 - 5", two, "abcdefgh", 1, "add(mul(a,9),1)", "abcdefgh(a)", "abcdefgh(b)");
  }

  /** A PATTERN with a WEIGHT of 41 is none, one of 40 is: kept terms become heavier when acts are learnt. */
  private static void weightOfPatterns() {
    House h = new House();
    Patterns model = new Patterns();
    h.act("act h n -> n = " + tree("add", "a", 31));
    model.tellWeight("h", 32);
    h.ask("find n n -> n; use 1;");
    String[] terms = {
      "xor(1,xor(2,xor(4,xor(8,add(h(mul(a,3)),mul(b,3))))))", "xor(1,xor(2,xor(4,xor(8,add(h(mul(b,3)),mul(a,3))))))",
      "and(mul(1,3),or(mul(2,3),min(mul(4,3),max(mul(5,3),sub(mul(6,3),div(mul(7,3),mul(8,3)))))))",
      "if(less(mul(1,3),mul(2,3)),mul(4,3),rem(mul(5,3),mul(6,3)))"
    };
    for (int k = 0; k < terms.length; k++) {
      House.due("kept", keep(h, terms[k]), k);
      model.keep(terms[k]);
    }
    House.due("mul(a,3) saves most", h.learn("p"), 16 - 3);
    House.due("the model says so, too", model.learn("p"), 13);
    House.due("the act", h.own(1), "mul(a,3)");
    House.due("the whole would weigh 41 now", h.learn("q"), 2 * 9 - 12);
    House.due("the model says so, too", model.learn("q"), 6);
    House.due("the act weighs 40", h.own(2), "xor(2,xor(4,xor(8,add(h(p(a)),p(b)))))");
    House.due("kept", h.kept(0), "xor(1,q(a,b))");
    House.due("kept", h.kept(1), "xor(1,q(b,a))");
    h.fault("it weighs 41 where it stands", h.value("q(1,2)"), 5, 0);
  }

  /** Of those that save as much the first by bytes. */
  private static void alikeByBytes() {
    learnt("a letter", numbers("sub(mul(a,2),9)", "sub(mul(b,2),9)", "rem(mul(a,2),9)", "rem(mul(b,2),9)", "max(a,b)"), "x", 1,
        "mul(a,2)", "sub(x(a),9)", "sub(x(b),9)", "rem(x(a),9)");
    learnt("numbers by bytes, not by what they are", numbers("add(xor(a,10),9)", "add(xor(b,10),9)", "add(xor(a,9),9)", "add(xor(b,9),9)"), "x",
        20 - 12 - 5, "add(xor(a,b),9)", "x(a,10)", "x(b,10)", "x(a,9)");
    House h = numbers("sub(min(a,10),0)", "sub(min(b,10),0)", "or(min(a,9),0)", "or(min(b,9),0)");
    learnt("o before s", h, "x", 1, "or(min(a,9),0)", "sub(min(a,10),0)", "sub(min(b,10),0)", "x(a)");
    learnt("then the other", h, "y", 1, "sub(min(a,10),0)", "y(a)", "y(b)", "x(a)");
    House digits = numbers("rem(min(a,10),0)", "rem(min(b,10),0)", "sub(1,rem(min(a,9),0))", "sub(1,rem(min(b,9),0))");
    Patterns model = new Patterns();
    for (int k = 0; k < 4; k++) {
      model.keep(digits.kept(k));
    }
    int saving = model.learn("x");
    learnt("as the model says", digits, "x", saving, model.best, model.kept(0), model.kept(1), model.kept(2), model.kept(3));
  }

  /** A place and its first operand, its second one, its third one. */
  private static void neighbouringPlaces() {
    String big = "mul(7,mul(3,5))";
    learnt("the first operand", numbers("add(add(a," + big + ")," + big + ")"), "x", 13 - 3 - 7, "add(a," + big + ")", "x(x(a))");
    learnt("the second operand", numbers("add(" + big + ",add(" + big + ",a))"), "x", 13 - 3 - 7, "add(" + big + ",a)", "x(x(a))");
    learnt("the third operand", numbers("if(true," + big + ",if(true," + big + ",a))"), "x", 15 - 3 - 8, "if(true," + big + ",a)", "x(x(a))");
    learnt("beside one another", numbers("sub(add(a," + big + "),add(b," + big + "))"), "x", 15 - 5 - 7, "add(a," + big + ")", "sub(x(a),x(b))");
  }

  /** Places that are not numbered alike in their terms: what their operands are is looked at where these stand. */
  private static void placesThatAreNotFirst() {
    learnt("the second parameter twice", numbers("sub(add(a,b),b)", "max(1,sub(add(1,2),2))", "max(a,max(7,sub(add(2,c),c)))", "min(sub(add(b,7),7),3)"), "x",
        5 + 7 + 9 + 7 - (3 + 5 + 7 + 5) - 5, "sub(add(a,b),b)", "x(a,b)", "max(1,x(1,2))", "max(a,max(7,x(2,c)))", "min(x(b,7),3)");
    learnt("the first parameter twice", numbers("max(9,sub(add(a,b),a))", "sub(add(1,2),1)", "max(a,max(7,sub(add(2,c),2)))", "sub(add(mul(a,b),7),mul(a,b))"), "x",
        7 + 5 + 9 + 9 - (5 + 3 + 7 + 5) - 5, "sub(add(a,b),a)", "max(9,x(a,b))", "x(1,2)", "max(a,max(7,x(2,c)))", "x(mul(a,b),7)");
    House h = numbers("max(mul(a,b),sub(add(c,a),c))", "sub(add(b,mul(a,b)),b)", "min(0,min(1,sub(add(7,8),7)))", "sub(add(9,1),9)");
    Patterns model = new Patterns();
    for (int k = 0; k < 4; k++) {
      model.keep(h.kept(k));
    }
    learnt("as the model says", h, "x", model.learn("x"), "sub(add(a,b),a)", model.kept(0), model.kept(1), model.kept(2), model.kept(3));
  }

  /** Twelve kept terms of SIZE 30 each. */
  private static void twelveAndThirty() {
    House h = numbers();
    Patterns model = new Patterns();
    for (int k = 0; k < 12; k++) {
      String leaf = "abc".substring(k % 3, k % 3 + 1);
      String text = "if(true," + tree("add", leaf, 7) + "," + tree(k % 2 == 0 ? "mul" : "max", leaf, 6) + ")";
      House.due("kept", keep(h, text), k);
      model.keep(text);
    }
    House.due("what is saved", h.learn("x"), model.learn("x"));
    House.due("the act", h.own(0), model.best);
    for (int k : new int[] {0, 1, 5, 10, 11}) {
      House.due("kept " + k, h.kept(k), model.kept(k));
    }
    House.due("twelve", h.x.told(1), 12);
    House.due("no 13th", h.x.kept(12, -1), -1);
  }

  /** A term within twelve others stays where it is when others are learnt. */
  private static void deepTermsStay() {
    House h = numbers("xor(1,xor(2,xor(4,xor(8,xor(9,xor(3,xor(5,xor(6,xor(7,xor(10,xor(11,max(a,b))))))))))))", "add(mul(a,9),1)", "add(mul(b,9),1)", "add(mul(c,9),1)");
    String kept = h.kept(0);
    learnt("others", h, "x", 15 - 6 - 5, "add(mul(a,9),1)", kept, "x(a)", "x(b)", "x(c)");
    House inner = numbers("xor(1,xor(2,xor(4,xor(8,xor(9,xor(3,xor(5,xor(6,xor(7,xor(10,add(mul(a,9),1)))))))))))", "add(mul(b,9),1)", "add(mul(c,9),1)");
    learnt("in the deepest place", inner, "x", 15 - 6 - 5, "add(mul(a,9),1)", "xor(1,xor(2,xor(4,xor(8,xor(9,xor(3,xor(5,xor(6,xor(7,xor(10,x(a)))))))))))", "x(b)", "x(c)");
    House.due("within twelve", numbers(nested("sub(0,", "7", 12)).kept(0), nested("sub(0,", "7", 12));
  }

  /** An own act that is learnt has the kind of its first act, and its parameter the kind of the operand that it stands for. */
  private static void kindsOfPatterns() {
    String[][] all = {
      {"n", "add(#,9)"}, {"n", "sub(#,9)"}, {"n", "mul(#,9)"}, {"n", "div(#,9)"}, {"n", "rem(#,9)"}, {"n", "min(#,9)"}, {"n", "max(#,9)"}, {"n", "and(#,9)"},
      {"n", "or(#,9)"}, {"n", "xor(#,9)"}, {"t", "less(#,9)"}, {"t", "same(#,9)"}, {"t", "not(less(#,9))"}, {"t", "both(less(#,9),true)"},
      {"t", "any(less(#,9),true)"}, {"n", "if(true,#,9)"}, {"s", "pick(true,sign(#),\"x\")"}, {"s", "cat(sign(#),\"x\")"}, {"n", "len(sign(#))"},
      {"s", "take(sign(#),9)"}, {"s", "drop(sign(#),9)"}, {"s", "rev(sign(#))"}, {"s", "head(sign(#))"}, {"t", "like(sign(#),\"x\")"},
      {"n", "code(sign(#))"}, {"s", "sign(add(#,9))"}
    };
    for (String[] each : all) {
      House h = new House();
      h.ask("find n n n -> " + each[0] + "; use 1;");
      for (int k = 0; k < 4; k++) {
        House.due("kept", keep(h, each[1].replace("#", "abc7".substring(k, k + 1))), k);
      }
      House.due(each[1], h.learn("x") > 0 ? 1 : 0, 1);
      House.due(each[1], h.own(0), each[1].replace("#", "a"));
      House.due(each[1] + ", its own kind", h.x.own(0, -4), each[0].charAt(0));
      House.due(each[1] + ", its first kind", h.x.own(0, -2), 'n');
      House.due(each[1] + ", no second one", h.x.own(0, -3), 0);
      String truth = each[0].equals("n") ? "same(x(1),1)" : each[0].equals("t") ? "not(x(1))" : "like(x(1),\"\")";
      House.due(each[1] + ", where it stands", h.value(truth) >= -1 ? 1 : 0, 1);
    }
  }

  private long seed = 42;

  private int next(int below) {
    seed = seed * 6364136223846793005L + 1442695040888963407L;
    return (int) ((seed >>> 33) % below);
  }

  private String random(int depth, boolean number) {
    if (depth == 0 || next(5) == 0) {
      return number ? new String[] {"a", "b", "1", "2", "10"}[next(5)] : "true";
    }
    if (!number) {
      return next(2) == 0 ? "less(" + random(depth - 1, true) + "," + random(depth - 1, true) + ")" : "not(" + random(depth - 1, false) + ")";
    }
    int which = next(6);
    if (which == 5) {
      return "if(" + random(depth - 1, false) + "," + random(depth - 1, true) + "," + random(depth - 1, true) + ")";
    }
    return (which < 3 ? "add(" : "mul(") + random(depth - 1, true) + "," + random(depth - 1, true) + ")";
  }

  private static void againstTheModel() {
    KeptEdgeTest random = new KeptEdgeTest();
    for (int run = 0; run < 60; run++) {
      House h = new House();
      h.ask("find n n -> n; use 1;");
      Patterns model = new Patterns();
      for (int k = 0; k < 3 + run % 3; k++) {
        String text = random.random(3, true);
        if (text.length() <= 60 && keep(h, text) >= 0) {
          model.keep(text);
        }
      }
      for (int i = 0; i < 3 && h.x.left() > 60; i++) {
        String name = "xyz".substring(i, i + 1);
        int saving = model.learn(name);
        House.due("run " + run + ", learn " + i, h.learn(name), saving);
        if (saving > 0) {
          House.due("run " + run + ", own " + i, h.own(h.x.told(0) - 1), model.best);
        }
      }
      for (int k = 0; k < model.size() && h.x.left() > 70; k++) {
        House.due("run " + run + ", kept " + k, h.kept(k), model.kept(k));
      }
    }
  }

  /** Own acts that were learnt are acts of the next patterns; terms that are kept then may have them. */
  private static void againAndAgain() {
    House h = numbers("add(1,add(1,add(1,add(1,add(1,add(1,add(1,add(1,a))))))))");
    Patterns model = new Patterns();
    model.keep(h.kept(0));
    for (int i = 0; i < 4; i++) {
      String name = "wxyz".substring(i, i + 1);
      int saving = model.learn(name);
      House.due("learn " + i, h.learn(name), saving);
      if (saving > 0) {
        House.due("own " + i, h.own(i), model.best);
        House.due("its answer", h.x.told(0), i + 1);
      }
      House.due("kept " + i, h.kept(0), model.kept(0));
    }
  }

  private static void namesToLearn() {
    String[] none = {"", "abcdefghi", "a b", " x", "x ", "A", "xA", "x1", "1", "x\n", "`", "{", "x{", "(", "\"x\"", "x\u00e9", "?", "x`", "`x", "{x", "xyzxyzx`"};
    House h = numbers("add(mul(a,9),1)", "add(mul(b,9),1)", "add(mul(c,9),1)");
    for (String name : none) {
      House.due("no name: " + name, h.learn(name), -1);
      House.due("the tape is used up", h.x.told(7), 0);
    }
    String[] known = "add sub mul div rem min max and or xor less same not both any if pick cat len take drop rev head like code sign f a b c true false error".split(" ");
    for (String name : known) {
      House.due("a name that is known: " + name, h.learn(name), -1);
    }
    House.due("no own act", h.x.told(0), 0);
    House.due("eight letters", h.learn("zzzzzzzz"), 4);
    House.due("it is known now", h.learn("zzzzzzzz"), -1);
    House.due("it is an act", h.value("zzzzzzzz(1)"), 10);
    h.fault("for act() too", h.act("act zzzzzzzz n -> n = a"), 2, 4);
    for (String name : new String[] {"d", "z", "find", "act", "adds"}) {
      House each = numbers("add(mul(a,9),1)", "add(mul(b,9),1)");
      House.due("a name: " + name, each.learn(name), 1);
      House.due("kept", each.kept(0), name + "(a)");
    }
  }

  /** NONE, STATE, ROOM in this order. */
  private static void learnOrder() {
    House h = new House();
    House.due("NONE before STATE", h.learn("add"), -1);
    House.due("STATE: nothing is kept", h.learn("x"), -2);
    h.ask("find n n n -> n; use 1;");
    keep(h, "add(mul(a,9),1)");
    House.due("STATE: one is kept", h.learn("x"), -2);
    for (int i = 0; i < 9; i++) {
      h.act("act o" + (char) ('a' + i) + " n -> n = 1");
    }
    keep(h, "add(mul(b,9),1)");
    House.due("the tenth own act", h.learn("x"), 1);
    House.due("ten", h.x.told(0), 10);
    House.due("STATE before ROOM", h.learn("y"), -2);
    keep(h, "sub(mul(b,9),1)");
    keep(h, "sub(mul(a,9),1)");
    House.due("ROOM: ten own acts", h.learn("y"), -3);
    House.due("NONE before ROOM", h.learn("x"), -1);
    House.due("it stays", h.kept(2), "sub(mul(b,9),1)");
    House.due("ten", h.x.told(0), 10);
    House.due("records", h.x.told(4), 9 + 4 + 1);
  }

  private static void ownBytes() {
    House h = new House();
    for (int k : new int[] {-1, 0, 1}) {
      House.due("own(" + k + ", -1) without any", h.x.own(k, -1), -1);
      House.due("own(" + k + ", -2) without any", h.x.own(k, -2), -1);
    }
    h.act("act one t -> s = pick(a,\"x\",\"\")");
    h.act("act two s n -> t = same(len(a),b)");
    int[][] due = {{0, -1, 14}, {0, -2, 't'}, {0, -3, 0}, {0, -4, 's'}, {0, 0, 'p'}, {0, 13, ')'}, {0, 14, -1}, {0, -5, -1},
      {1, -1, 14}, {1, -2, 's'}, {1, -3, 'n'}, {1, -4, 't'}, {1, 0, 's'}, {1, 13, ')'}, {1, 14, -1}, {1, -5, -1},
      {2, -1, -1}, {2, -2, -1}, {2, 0, -1}, {-1, -1, -1}, {-1, -4, -1}, {0, Integer.MIN_VALUE, -1}, {0, Integer.MAX_VALUE, -1},
      {Integer.MAX_VALUE, -1, -1}, {Integer.MIN_VALUE, -1, -1}};
    for (int[] each : due) {
      House.due("own(" + each[0] + ", " + each[1] + ")", h.x.own(each[0], each[1]), each[2]);
    }
    House.due("its text", h.own(0), "pick(a,\"x\",\"\")");
    House.due("its text", h.own(1), "same(len(a),b)");
    for (int i = 2; i < 10; i++) {
      h.act("act o" + (char) ('a' + i) + " n -> n = " + i);
    }
    House.due("the tenth", h.own(9), "9");
    House.due("no 11th", h.x.own(10, -1), -1);
  }
}
