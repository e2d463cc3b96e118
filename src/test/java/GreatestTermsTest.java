/** Terms as great as they can be: a WEIGHT of 40 with three operands each is 121 terms; own acts within one another; what is put in. */
public final class GreatestTermsTest {
  public static void main(String[] args) {
    asValues();
    asOwnActs();
    inLaws();
    inLoops();
    asSketches();
    inMend();
    withWhatIsPutIn();
    ownActsWithinOneAnother();
    sketchesOfThese();
    lawsOfTheseSketches();
    House.finish();
  }

  /** A tree of so many ifs with this condition: its leaves are all one but the last one, to which a condition that is false leads. */
  private static String ifs(int many, String condition, String leaf, String last) {
    if (many == 0) {
      return last;
    }
    int left = (many - 1) / 2;
    return "if(" + condition + "," + ifs(left, condition, leaf, leaf) + "," + ifs(many - 1 - left, condition, leaf, last) + ")";
  }

  private static int termsIn(String text) {
    return text.split("[(),]+").length;
  }

  private static void asValues() {
    House h = new House();
    String text = ifs(40, "false", "3", "9");
    House.due("terms", termsIn(text), 121);
    House.due("the last leaf", h.value(text), 9);
    House.due("the first leaf", h.value(text.replace("false", "true")), 3);
    int acts = 0;
    for (int many = 40; many > 0; many = many - 1 - (many - 1) / 2) {
      acts++;
    }
    h.value(text);
    House.due("only those that lead there are worked out", h.x.worked(), acts);
    House.due("of words", h.value("len(" + ifs(39, "false", "\"a\"", "\"abc\"").replace("if", "pick") + ")"), 3);
    h.fault("41", h.value(ifs(41, "false", "3", "9")), 5, 0);
  }

  private static void asOwnActs() {
    House h = new House();
    House.due("an own act", h.act("act great t n -> n = " + ifs(40, "a", "3", "b")), 1);
    String text = ifs(40, "a", "3", "b");
    House.due("its text", h.x.own(0, -1), text.length());
    House.due("its last byte", h.x.own(0, text.length() - 1), ')');
    House.due("its b", h.x.own(0, text.indexOf('b')), 'b');
    h.fault("it weighs 41", h.value("great(true,1)"), 5, 0);
    h.ask("find t n -> n; use great; row false 9 = 9; row true 9 = 3;");
    House.due("as a piece", h.x.find(3), 3);
    House.due("its answers", h.x.answer(7) * 100 + h.x.answer(16 + 7), 703);
    House word = new House();
    House.due("of words", word.act("act great t s -> s = " + ifs(39, "a", "\"x\"", "b").replace("if", "pick")), 1);
    House.due("false", word.value("great(false,\"ab\")"), 29);
    House.due("true", word.value("great(true,\"ab\")"), 24);
  }

  private static void inLaws() {
    House h = new House();
    String side = ifs(40, "y", "3", "x");
    House.due("terms", termsIn(side), 121);
    h.ask("find n t -> n; use if, 3; law x:n y:t -> f(x,y) = " + side + ";");
    House.due("the second side", h.x.find(4), 4);
    House.due("its text", h.term(), "if(b,3,a)");
    h.ask("find n t -> n; use if, 3; law x:n y:t -> " + side + " = f(x,y);");
    House.due("the first side", h.x.find(4), 4);
    h.ask("find n -> n; use 7; law x:n -> " + ifs(39, "false", "3", "f(x)") + " = 7;");
    House.due("f at the end of it", h.x.find(1), 1);
    House.due("its text", h.term(), "7");
    h.ask("find n -> n; use 7; law x:n -> 7 = " + ifs(39, "false", "3", "f(x)") + ";");
    House.due("f at the end of it", h.x.find(1), 1);
  }

  private static void inLoops() {
    String up = ifs(39, "false", "3", "add(a,1)");
    String condition = "less(" + ifs(39, "false", "3", "a") + ",9)";
    House h = new House();
    House.due("from, do and give", h.loop("loop n from " + ifs(40, "false", "3", "a") + " while less(a,9) do " + up + " give " + ifs(40, "false", "3", "a")), 16);
    House.due("it ends", h.x.runs(0, 0), 1);
    House.due("its meetings", h.x.runs(0, 1), 10);
    House.due("its answer", h.x.runs(0, 2), 9);
    House.due("while", h.loop("loop n from a while " + condition + " do add(a,1) give a"), 16);
    House.due("its answer", h.x.runs(3, 2), 9);
    House.due("keeps", h.keeps(condition), 9);
    House.due("keeps", h.keeps("less(" + ifs(39, "true", "3", "a") + ",9)"), -1);
    String three = ifs(40, "false", "3", "c");
    House.due("three variables", h.loop("loop n from a,0," + ifs(40, "false", "3", "a") + " while less(b,2) do a,add(b,1)," + three + " give " + three), 48);
    House.due("its answer", h.x.runs(11, 2), 11);
    House.due("the second of do", h.loop("loop n from a,a while less(b,9) do a," + ifs(39, "false", "3", "add(b,1)") + " give " + ifs(40, "false", "3", "b")) > 16 ? 1 : 0, 1);
    House.due("its answer", h.x.runs(7, 2), 9);
  }

  private static void asSketches() {
    House h = new House();
    h.ask("find n -> n; use 1; row 4 = 9;");
    String sketch = ifs(40, "false", "3", "?");
    House.due("terms", termsIn(sketch), 121);
    House.due("its number", h.sketch(sketch), 9);
    House.due("its bytes", h.x.byteOf(sketch.indexOf('?')), '9');
    House.due("its last byte", h.x.byteOf(sketch.length() - 1), ')');
    House.due("behind it", h.x.byteOf(sketch.length()), -1);
    House.due("its answer", h.x.answer(15), 9);
  }

  private static void inMend() {
    House h = new House();
    h.ask("find n -> n; use 9; row 4 = 8; row 2 = 8;");
    String told = "xor(1," + ifs(39, "false", "3", "5") + ")";
    int place = termsIn(told) - 1;
    House.due("by the first place that does", h.mend(told, 1), 1);
    House.due("the place of the whole tree", h.x.mended(), 2);
    House.due("its text", h.term(), "xor(1,9)");
    String alone = ifs(40, "false", "3", "5");
    h.ask("find n t -> n; use true, 3; row 4 true = 3; row 2 true = 3; law x:n -> f(x,true) = 3; law x:n -> f(x,false) = 5;");
    House.due("a truth in the first condition", h.mend(alone, 1), 1);
    House.due("its place", h.x.mended(), 1);
    h.ask("find n t -> n; use 6; law x:n -> f(x,true) = 3; law x:n -> f(x,false) = 6;");
    String last = "if(b," + ifs(39, "b", "3", "4") + ",5)";
    House.due("terms", termsIn(last), 121);
    House.due("the last leaf alone", h.mend(last, 1), 1);
    House.due("its place", h.x.mended(), 120);
    House.due("its bytes", h.x.byteOf(last.indexOf('5')), '6');
    House.due("its last byte", h.x.byteOf(last.length() - 1), ')');
    House.due("places", place, 2 + 39 * 3);
  }

  /** What is put in has eleven terms, behind a sibling and before 112 other terms. */
  private static void withWhatIsPutIn() {
    House h = new House();
    h.ask("find n -> n; use add; row 1 = 8; row 2 = 14; row 3 = 4;");
    String rest = ifs(37, "false", "3", "5");
    String told = "if(true,add(1,add(1,0))," + rest + ")";
    House.due("terms", termsIn(told), 119);
    House.due("6 a, and 2", h.mend(told, 11), 11);
    House.due("its place", h.x.mended(), 6);
    String put = "add(a,add(a,add(a,add(a,add(a,a)))))";
    String due = "if(true,add(1,add(1," + put + "))," + rest + ")";
    for (int i = 0; i < due.length(); i += i < 80 ? 1 : 7) {
      House.due("byte " + i, h.x.byteOf(i), due.charAt(i));
    }
    House.due("behind it", h.x.byteOf(due.length()), -1);
    House.due("its answer", h.x.answer(15), (6 * 15 + 2) % 16);
    House.due("it is too great to be kept", h.x.keep(), -2);
  }

  /** Ten own acts, each in the next. */
  private static House tenDeep() {
    House h = new House();
    h.act("act oa s -> s = cat(a,\"x\")");
    for (int i = 1; i < 10; i++) {
      House.due("own act", h.act("act o" + (char) ('a' + i) + " s -> s = o" + (char) ('a' + i - 1) + "(a)"), i + 1);
    }
    return h;
  }

  private static void ownActsWithinOneAnother() {
    House h = tenDeep();
    House.due("ten within one another", h.value("oj(\"ab\")"), (27 + 2) * 27 + 24);
    House.due("ten and cat", h.x.worked(), 11);
    House.due("ERROR from the innermost", h.value("oj(\"abcdef\")"), -1);
    House.due("ten and cat", h.x.worked(), 11);
    House.due("ERROR before the outermost", h.value("oj(head(\"\"))"), -1);
    House.due("oj and head", h.x.worked(), 2);
    House.due("three of them", h.value("len(oj(oj(oj(\"ab\"))))"), 5);
    House.due("three of eleven and len", h.x.worked(), 34);
    h.fault("four weigh 44", h.value("oj(oj(oj(oj(\"ab\"))))"), 5, 0);
    h.ask("find s -> s; use oj; row \"ab\" = \"abxx\"; row \"abcde\" = error;");
    House.due("as a piece", h.x.find(3), 3);
    House.due("its text", h.term(), "oj(oj(a))");
    House.due("in mend", h.mend("oj(rev(a))", 2), 2);
    House.due("its place", h.x.mended(), 1);
    House.due("its text", h.term(), "oj(oj(a))");
  }

  /** A law, in it f, in it ten own acts. */
  private static void sketchesOfThese() {
    House h = tenDeep();
    h.ask("find n -> n; use 1; law x:n -> f(x) = 7;");
    House.due("f has ten own acts within one another", h.sketch("add(?,len(oj(sign(a))))"), 5);
    House.due("its text", h.term(), "add(5,len(oj(sign(a))))");
    h.ask("find n -> n; use 1; law x:n -> len(oj(sign(f(x)))) = sub(f(x),1); law x:n -> f(x) = 3;");
    House.due("ten own acts round f", h.sketch("add(?,len(oj(sign(a))))"), 1);
    House.due("mend", h.mend("add(a,len(oj(sign(a))))", 1), 1);
    House.due("its place", h.x.mended(), 1);
    House.due("its text", h.term(), "add(1,len(oj(sign(a))))");
    House.due("as it is", h.mend("add(1,len(oj(sign(a))))", 1), 0);
  }

  /** Both a law's side and f of 121 terms or almost. */
  private static void lawsOfTheseSketches() {
    House h = new House();
    h.ask("find n -> n; use 1; law x:n -> " + ifs(39, "false", "3", "f(x)") + " = 7;");
    House.due("a sketch of 121 terms in a law of 119", h.sketch(ifs(40, "false", "3", "?")), 7);
    h.ask("find n -> n; use 1; law x:n -> 7 = " + ifs(39, "false", "3", "f(x)") + ";");
    House.due("in the second side", h.sketch(ifs(40, "false", "3", "?")), 7);
    House deep = tenDeep();
    deep.ask("find n -> n; use 1; law x:n -> " + ifs(39, "false", "3", "f(x)") + " = 7;");
    House.due("with ten own acts within one another", deep.sketch("if(false,0," + ifs(25, "false", "3", "add(?,len(oj(sign(a))))") + ")"), 5);
  }
}
