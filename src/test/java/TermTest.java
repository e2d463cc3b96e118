/** Promises 13 to 16, 20 and 21: cheaper, sketch, mend, mended, value, worked. */
public final class TermTest {
  public static void main(String[] args) {
    acts();
    errors();
    workedActs();
    valueFaults();
    cheaper();
    sketches();
    sketchRefusals();
    mending();
    mendRefusals();
    workIsLimited();
    mendWorkIsLimited();
    House.finish();
  }

  private static void acts() {
    House h = new House();
    String[] texts = {
      "add(9,9)", "sub(3,5)", "mul(5,7)", "div(14,4)", "rem(14,4)", "min(3,9)", "max(3,9)", "and(12,10)", "or(12,10)",
      "xor(12,10)", "less(3,4)", "less(4,4)", "same(4,4)", "same(4,5)", "not(true)", "not(false)", "both(true,false)",
      "both(true,true)", "any(true,false)", "any(false,false)", "if(true,1,2)", "if(false,1,2)",
      "pick(true,\"a\",\"b\")", "pick(false,\"a\",\"b\")", "cat(\"ab\",\"c\")", "cat(\"\",\"\")", "len(\"abcdef\")", "len(\"\")",
      "take(\"abc\",2)", "take(\"abc\",0)", "take(\"abc\",9)", "drop(\"abc\",2)", "drop(\"abc\",0)", "drop(\"abc\",3)", "drop(\"abc\",15)",
      "rev(\"abc\")", "rev(\"\")", "head(\"xyz\")", "like(\"ab\",\"ab\")", "like(\"ab\",\"abc\")", "code(\"a\")", "code(\"bz\")",
      "code(\"z\")", "code(\"q\")", "sign(0)", "sign(15)", "true", "false", "07", "15", "\"zzzzzz\"", "\"\""
    };
    int[] due = {
      2, 14, 3, 3, 2, 3, 9, 8, 14,
      6, 1, 0, 1, 0, 0, 1, 0,
      1, 1, 0, 1, 2,
      1, 2, (1 * 27 + 2) * 27 + 3, 0, 6, 0,
      29, 0, (1 * 27 + 2) * 27 + 3, 3, (1 * 27 + 2) * 27 + 3, 0, 0,
      (3 * 27 + 2) * 27 + 1, 0, 24, 1, 0, 0, 1,
      9, 0, 1, 16, 1, 0, 7, 15, ((((26 * 27 + 26) * 27 + 26) * 27 + 26) * 27 + 26) * 27 + 26, 0
    };
    House.due("as many", texts.length, due.length);
    for (int i = 0; i < texts.length; i++) {
      House.due(texts[i], h.value(texts[i]), due[i]);
    }
  }

  private static void errors() {
    House h = new House();
    String[] errors = {
      "div(1,0)", "rem(1,0)", "cat(\"abcd\",\"efg\")", "head(\"\")", "code(\"\")", "add(1,div(1,0))", "mul(div(1,0),0)",
      "if(less(1,div(1,0)),1,2)", "if(true,div(1,0),2)", "if(false,1,div(1,0))", "pick(like(head(\"\"),\"\"),\"a\",\"b\")",
      "both(false,less(1,div(1,0)))", "any(true,less(1,div(1,0)))", "take(head(\"\"),0)"
    };
    for (String text : errors) {
      House.due(text, h.value(text), -1);
    }
    House.due("the other branch of if", h.value("if(true,3,div(1,0))"), 3);
    House.due("the other branch of pick", h.value("pick(false,head(\"\"),\"b\")"), 2);
    h.act("act first n n -> n = a");
    House.due("an own act works out all operands", h.value("first(1,div(1,0))"), -1);
    h.act("act safe n n -> n = if(same(b,0),a,div(a,b))");
    House.due("what it leaves out", h.value("safe(7,0)"), 7);
    House.due("what it does not", h.value("safe(7,2)"), 3);
    h.act("act said s -> s = pick(like(a,\"\"),\"no\",head(a))");
    House.due("an own act of words", h.value("said(\"\")"), 14 * 27 + 15);
    House.due("of others", h.value("said(\"xy\")"), 24);
  }

  private static void workedActs() {
    House h = new House();
    String[] texts = {"7", "add(1,2)", "add(1,div(1,0))", "add(div(1,0),add(1,2))", "if(true,1,add(1,2))", "if(false,1,add(1,2))",
      "if(less(1,div(1,0)),add(1,2),3)", "pick(not(true),\"a\",rev(rev(\"b\")))"};
    int[] due = {0, 1, 2, 3, 1, 2, 3, 4};
    for (int i = 0; i < texts.length; i++) {
      h.value(texts[i]);
      House.due("worked out in " + texts[i], h.x.worked(), due[i]);
    }
    h.act("act up n -> n = add(a,add(1,2))");
    h.value("up(3)");
    House.due("an own act and what is in it", h.x.worked(), 3);
    h.value("up(div(1,0))");
    House.due("not what is in it behind an ERROR", h.x.worked(), 2);
    h.act("act twice s -> s = cat(a,rev(a))");
    h.value("twice(rev(\"ab\"))");
    House.due("a parameter is worked out once", h.x.worked(), 4);
    h.act("act both n s -> n = if(less(a,3),len(twice(b)),0)".replace("both", "deep"));
    h.value("deep(up(1),\"a\")");
    House.due("an own act in another, left out", h.x.worked(), 3 + 1 + 2);
    h.value("deep(1,\"a\")");
    House.due("an own act in another", h.x.worked(), 1 + 2 + 1 + 3);
    h.value("foo(1)");
    House.due("what is refused changes nothing", h.x.worked(), 7);
  }

  private static void valueFaults() {
    House h = new House();
    h.ask("find n -> n; use 1;");
    h.fault("a parameter", h.value("add(a,1)"), 2, 4);
    h.fault("an act without (", h.value("add"), 2, 0);
    h.fault("f", h.value("f(1)"), 2, 0);
    h.fault("error", h.value("error"), 2, 0);
    h.fault("a kind", h.value("add(1,true)"), 3, 6);
    h.fault("the kind before the number", h.value("not(add(1))"), 3, 4);
    h.fault("one operand too few", h.value("add(1)"), 4, 0);
    h.fault("one too many", h.value("not(true,true)"), 4, 0);
    h.fault("the least place", h.value("add(len(rev()),foo)"), 1, 12);
    h.fault("the least place", h.value("add(len(rev(1)),foo)"), 3, 12);
    h.fault("no operands", h.value("add()"), 1, 4);
    h.fault("two terms", h.value("1 1"), 1, 2);
    h.fault("a ?", h.value("?"), 1, 0);
    h.fault("a ) more", h.value("add(1,2))"), 1, 8);
    h.fault("an empty tape", h.value(""), 1, 0);
  }

  private static void cheaper() {
    House h = new House();
    h.fault("without an ask there are no parameters", h.cheaper("a"), 2, 0);
    House.due("without an ask", h.cheaper("add(1,2)"), -2);
    h.ask("find n t -> n; use add, if:2, not, 1, 0:9, less; row 1 true = 1;");
    House.due("add(a,0) would be dearer", h.cheaper("add(add(a,1),1)"), 5);
    House.due("it is the first", h.term(), "add(a,add(1,1))");
    House.due("of another kind", h.cheaper("not(not(b))"), 1);
    House.due("is b", h.term(), "b");
    House.due("its answers", h.x.answer(0) + 10 * h.x.answer(1), 10);
    House.due("both branches the same", h.cheaper("if(b,a,a)"), 1);
    House.due("is a", h.term(), "a");
    House.due("never true", h.cheaper("less(a,a)"), 3);
    House.due("is itself", h.term(), "less(a,a)");
    House.due("a value that is no piece", h.cheaper("add(a,2)"), -2);
    House.due("an act that is no piece", h.cheaper("sub(a,1)"), -2);
    House.due("a parameter alone", h.cheaper("b"), 1);
    House.due("is itself", h.term(), "b");
    House.due("above 12", h.cheaper("add(0,add(a,add(1,1)))"), -2);
    House.due("THE TERM stays", h.term(), "b");
    h.fault("a fault", h.cheaper("add(c,1)"), 2, 4);
    h.ask("find t -> t; use not;");
    House.due("a price of 12", h.cheaper("not(".repeat(11) + "a" + ")".repeat(11)), 2);
    House.due("a price of 13", h.cheaper("not(".repeat(12) + "a" + ")".repeat(12)), -2);
    h.ask("find n -> n; use add, mul, xor, 1; row 1 = 3;");
    House.due("for its price", h.cheaper("add(a,add(a,add(a,add(a,1))))"), -3);
    House.due("for a lesser price", h.cheaper("add(xor(a,a),1)"), 1);
    House.due("is 1", h.term(), "1");
    House.due("the tape is used up", h.x.told(7), 0);
  }

  private static void sketches() {
    House h = new House();
    h.ask("find n -> n; use 1; row 1 = 5; row 2 = 8;");
    House.due("3 a + 2", h.sketch("add(mul(?,a),?)"), 3 * 16 + 2);
    House.due("its text", h.term(), "add(mul(3,a),2)");
    House.due("its answers", h.x.answer(15), 15);
    House.due("none meets", h.sketch("add(a,?)"), 4096);
    House.due("THE TERM stays", h.term(), "add(mul(3,a),2)");
    House.due("three numbers", h.sketch("add(xor(?,?),add(mul(3,a),?))"), 2);
    House.due("the last goes on first", h.term(), "add(xor(0,0),add(mul(3,a),2))");
    h.ask("find n -> n; use 1; law x:n -> f(f(x)) = x; law x:n -> f(0) = 9;");
    House.due("laws", h.sketch("sub(?, a)"), 9);
    House.due("blanks are left out", h.term(), "sub(9,a)");
    h.ask("find n -> n; use 1;");
    House.due("nothing to meet", h.sketch("?"), 0);
    House.due("a number alone", h.term(), "0");
    h.ask("find s -> s; use 1; row \"abc\" = \"c\";");
    House.due("numbers in words", h.sketch("drop(a,?)"), 2);
    h.ask("find t -> t; use 1; row true = true; row false = false;");
    House.due("numbers in truths", h.sketch("less(if(a,?,?),?)"), 1 * 16 + 1);
    House.due("its text", h.term(), "less(if(a,0,1),1)");
    h.act("act twin n n -> n = add(mul(a,2),b)");
    h.ask("find n -> n; use 1; row 3 = 11;");
    House.due("own acts", h.sketch("twin(a,?)"), 5);
    House.due("two digits", h.sketch("add(a,add(a,?))"), 5);
  }

  private static void sketchRefusals() {
    House h = new House();
    House.due("no ask", h.sketch("add(?,1)"), -2);
    h.fault("no ask, parameters", h.sketch("add(?,a)"), 2, 6);
    h.ask("find n -> n; use 1;");
    House.due("no ?", h.sketch("add(1,a)"), -2);
    h.fault("another kind", h.sketch(" less(?,1)"), 3, 1);
    h.fault("a ? where no number can be", h.sketch("len(?)"), 3, 4);
    h.fault("a fourth ?", h.sketch("add(add(?,?),add(?,add(?,?)))"), 5, 23);
    h.fault("no term", h.sketch("?(1)"), 1, 1);
    House.due("the tape is used up", h.x.told(7), 0);
  }

  private static void mending() {
    House h = new House();
    h.ask("find n n -> n; use add, sub, 1; row 3 4 = 8; row 0 0 = 1; row 5 1 = 7;");
    House.due("it meets as it is", h.mend("add(a,add(b,1))", 3), 0);
    House.due("and is THE TERM", h.term(), "add(a,add(b,1))");
    House.due("nothing was put in", h.x.mended(), -1);
    House.due("one number is wrong", h.mend("add(a,add(b,2))", 3), 1);
    House.due("the place", h.x.mended(), 4);
    House.due("its text", h.term(), "add(a,add(b,1))");
    House.due("one act is missing", h.mend("add(a,b)", 3), 3);
    House.due("the first place of that price", h.x.mended(), 1);
    House.due("its text", h.term(), "add(add(a,1),b)");
    House.due("its answers", h.x.answer(255), 15);
    House.due("nothing helps", h.mend("mul(a,b)", 3), 100);
    House.due("the place stays", h.x.mended(), 1);
    House.due("the whole is put in", h.mend("mul(a,b)", 5), 5);
    House.due("the place", h.x.mended(), 0);
    House.due("its text", h.term(), "add(a,add(b,1))");
    h.ask("find t n -> n; use 1, 2; row true 3 = 4; row false 3 = 5;");
    House.due("acts that are no pieces may stand", h.mend("if(a,add(b,7),add(b,2))", 1), 1);
    House.due("its text", h.term(), "if(a,add(b,1),add(b,2))");
    House.due("the place", h.x.mended(), 4);
    h.ask("find n -> n; use 1; law x:n -> f(f(x)) = x;");
    House.due("a law", h.mend("add(a,1)", 1), 1);
    House.due("the first place", h.x.mended(), 0);
    House.due("is the term itself", h.term(), "a");
    House.due("a law is met as it is", h.mend("sub(4,a)", 12), 0);
  }

  private static void mendRefusals() {
    House h = new House();
    House.due("p before all", h.mend("foo", 0), -1);
    House.due("the tape is used up", h.x.told(7), 0);
    h.fault("a fault without an ask", h.mend("a", 1), 2, 0);
    House.due("no ask", h.mend("1", 1), -2);
    h.ask("find n -> n; use add, mul, xor, 1; row 1 = 3;");
    House.due("p", h.mend("foo", 13), -1);
    h.fault("another kind", h.mend("  true", 1), 3, 2);
    h.fault("a fault before ROOM", h.mend("foo", 9), 2, 0);
    House.due("too many functions", h.mend("3", 9), -3);
    House.due("though it meets", h.mend("3", 8), 0);
    h.fault("a ?", h.mend("?", 8), 1, 0);
  }

  private static void workIsLimited() {
    House h = new House();
    h.ask("find n n -> n; use 1;");
    String wide = "?";
    for (int i = 0; i < 6; i++) {
      wide = "add(" + wide + ",add(a,add(b,add(1,1))))";
    }
    int size = 1 + 6 * 8;
    String sketch = "add(?,add(?," + wide + "))";
    long work = 4096L * 256 * (size + 4);
    int times = (int) (1000000000L / work);
    for (int i = 0; i < times; i++) {
      House.due("sketch " + i, h.sketch(sketch), 0);
    }
    h.x.find(1);
    House.due("too much work", h.sketch(sketch), -3);
    House.due("what is refused changes nothing", h.term(), "a");
    House.due("the tape is used up", h.x.told(7), 0);
    long left = 1000000000L - times * work;
    House.due("what is refused is not counted", h.sketch("?"), 0);
    left -= 16 * 256;
    long one = 4096L * 256 * 5;
    for (; left >= one; left -= one) {
      House.due("what is left", h.sketch("add(?,add(?,?))"), 0);
    }
    House.due("then no more", h.sketch("add(?,add(?,?))"), -3);
    House.due("but less", h.sketch("add(?,?)"), left >= 256 * 256 * 3 ? 0 : -3);
    House.due("other faults come before", h.sketch("add(?,true)"), -13);
  }

  private static void mendWorkIsLimited() {
    House h = new House();
    h.ask("find n n -> n; use and, or, xor, 1, 2;");
    int p = 5;
    long functions = h.x.different(p);
    String wide = "1";
    for (int i = 0; i < 8; i++) {
      wide = "add(" + wide + ",add(a,add(b,add(1,1))))";
    }
    long size = 1 + 8 * 8;
    long work = functions * 256 * size * size;
    int times = (int) (1000000000L / work);
    House.due("some times", times > 2 && times < 20 ? 1 : 0, 1);
    for (int i = 0; i < times; i++) {
      House.due("mend " + i, h.mend(wide, p), 0);
    }
    House.due("too much work", h.mend(wide, p), -3);
    long left = 1000000000L - times * work;
    House.due("sketches share it", h.sketch("add(?,add(?,?))"), left >= 4096L * 256 * 5 ? 0 : -3);
    House.due("a smaller one", h.mend("a", 1), 0);
  }
}
