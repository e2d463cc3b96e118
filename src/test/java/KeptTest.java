/** Promises 22 to 25: keep, kept, learn, own. */
public final class KeptTest {
  public static void main(String[] args) {
    keeping();
    whatCannotBeKept();
    learning();
    patterns();
    ties();
    learningAgain();
    learnRefusals();
    owning();
    House.finish();
  }

  /** Makes a text THE TERM, and keeps it. */
  private static int keep(House h, String kinds, String last, String text) {
    h.ask("find " + kinds + " -> " + last + "; use 1;");
    House.due("told: " + text, h.mend(text, 1), 0);
    return h.x.keep();
  }

  private static void keeping() {
    House h = new House();
    House.due("no TERM", h.x.keep(), -2);
    House.due("no kept term", h.x.kept(0, -1), -1);
    House.due("the first", keep(h, "n t", "n", "if( b , 07, a)"), 0);
    House.due("its bytes", h.x.kept(0, -1), 9);
    House.due("its text", h.kept(0), "if(b,7,a)");
    House.due("a byte", h.x.kept(0, 8), ')');
    House.due("behind it", h.x.kept(0, 9), -1);
    House.due("before it", h.x.kept(0, -2), -1);
    House.due("no such term", h.x.kept(1, 0), -1);
    House.due("no such term", h.x.kept(-1, 0), -1);
    House.due("a record", h.x.told(4), 1);
    House.due("its bytes: how many, two kinds, the text", h.x.told(5), 3 + 1 + 2 + 9);
    House.due("the same again", h.x.keep(), 1);
    for (int i = 2; i < 12; i++) {
      House.due("kept", h.x.keep(), i);
    }
    House.due("twelve at most", h.x.keep(), -3);
    House.due("twelve", h.x.told(1), 12);
    House.due("records", h.x.told(4), 12);
  }

  private static void whatCannotBeKept() {
    House h = new House();
    House.due("30 terms", keep(h, "n n", "t", "not(same(" + chain(6) + "," + chain(7) + "))"), 0);
    House.due("31 terms", keep(h, "n n", "t", "same(" + chain(7) + "," + chain(7) + ")"), -2);
    h.act("act big n -> n = " + "add(a,".repeat(12) + "a" + ")".repeat(12));
    House.due("a weight of 39", keep(h, "n", "n", "big(big(big(a)))"), 1);
    House.due("a weight of 40", keep(h, "n", "n", "add(a,big(big(big(a))))"), 2);
    h.ask("find n -> n; use big;");
    h.x.ith(5, 0);
    House.due("the term", h.term(), "big(big(big(big(a))))");
    House.due("a weight of 52", h.x.keep(), -2);
    House.due("what is refused changes nothing", h.x.told(1), 3);
    h.act("act neg n -> n = sub(0,a)");
    h.ask("find n n -> n; use neg, 1:9; row 3 5 = 2; row 9 2 = 9; row 1 1 = 0;");
    House.due("neg(a) deep within", h.mend("xor(0,".repeat(11) + "add(a,b)" + ")".repeat(11), 2), 2);
    House.due("the place", h.x.mended(), 23);
    House.due("its text", h.term(), "xor(0,".repeat(11) + "add(neg(a),b)" + ")".repeat(11));
    House.due("one stands within thirteen others", h.x.keep(), -2);
    House.due("less deep", h.mend("xor(0,".repeat(10) + "add(a,b)" + ")".repeat(10), 2), 2);
    House.due("within twelve", h.x.keep(), 3);
  }

  /** A sum of so many acts. */
  private static String chain(int acts) {
    return "add(a,".repeat(acts) + "b" + ")".repeat(acts);
  }

  private static void learning() {
    House h = new House();
    keep(h, "n n", "n", "add(mul(a,2),1)");
    keep(h, "n n", "n", "sub(add(mul(b,2),1),a)");
    keep(h, "n n", "n", "add(mul(sub(a,b),2),1)");
    House.due("what is saved", h.learn("odd"), 5 + 7 + 7 - (2 + 4 + 4) - 5);
    House.due("the act", h.own(0), "add(mul(a,2),1)");
    House.due("in its place", h.kept(0), "odd(a)");
    House.due("in its place", h.kept(1), "sub(odd(b),a)");
    House.due("in its place", h.kept(2), "odd(sub(a,b))");
    House.due("own acts", h.x.told(0), 1);
    House.due("a record", h.x.told(4), 4);
    House.due("it can be used", h.value("odd(5)"), 11);
    House.due("no other is there", h.learn("even"), -2);
    House.due("what is refused changes nothing", h.x.told(0), 1);
    House.due("nor has a record", h.x.told(4), 4);
    House.due("the tape is used up", h.x.told(7), 0);
  }

  private static void patterns() {
    House h = new House();
    keep(h, "n n", "n", "add(add(a,b),add(a,b))");
    keep(h, "n n", "n", "add(mul(a,mul(b,b)),mul(a,mul(b,b)))");
    House.due("the same operands are one parameter", h.learn("twice"), 7 + 11 - (4 + 6) - 3);
    House.due("the act", h.own(0), "add(a,a)");
    House.due("it goes on in them once", h.kept(0), "twice(add(a,b))");
    House.due("it goes on in them once", h.kept(1), "twice(mul(a,mul(b,b)))");
    House nest = new House();
    keep(nest, "n", "n", "add(1,add(1,add(1,add(1,a))))");
    House.due("places in one term, one within another", nest.learn("up"), 9 - 5 - 3);
    House.due("a longer one saves as much, but is behind it by bytes", nest.own(0), "add(1,a)");
    House.due("it goes on in its operands", nest.kept(0), "up(up(up(up(a))))");
    House words = new House();
    keep(words, "s n", "s", "cat(take(a,b),\"xy\")");
    keep(words, "s n", "s", "cat(take(rev(a),2),\"xy\")");
    keep(words, "n s", "s", "cat(take(b,a),\"xy\")");
    House.due("of words and numbers", words.learn("tail"), 5 + 6 + 5 - (3 + 4 + 3) - 5);
    House.due("its kinds", words.x.own(0, -2) * 1000 + words.x.own(0, -3), 's' * 1000 + 'n');
    House.due("its own", words.x.own(0, -4), 's');
    House.due("its text", words.own(0), "cat(take(a,b),\"xy\")");
    House.due("kept", words.kept(1), "tail(rev(a),2)");
    House truths = new House();
    keep(truths, "n n", "t", "less(add(a,3),add(b,3))");
    keep(truths, "n n", "t", "less(add(1,3),add(a,3))");
    keep(truths, "n n", "t", "not(less(add(b,3),add(2,3)))");
    House.due("numbers to a truth", truths.learn("lt"), 7 + 7 + 8 - (3 + 3 + 4) - 7);
    House.due("its text", truths.own(0), "less(add(a,3),add(b,3))");
    House.due("its own kind", truths.x.own(0, -4), 't');
    House.due("its kinds", truths.x.own(0, -2) + truths.x.own(0, -3), 'n' + 'n');
    House.due("kept", truths.kept(2), "not(lt(b,2))");
    House second = new House();
    keep(second, "n n", "n", "sub(add(a,b),b)");
    keep(second, "n n", "n", "sub(add(1,2),2)");
    keep(second, "n n", "n", "sub(add(2,a),a)");
    keep(second, "n n", "n", "sub(add(b,7),7)");
    House.due("the second parameter twice", second.learn("sb"), 20 - 12 - 5);
    House.due("its text", second.own(0), "sub(add(a,b),b)");
    House.due("kept", second.kept(3), "sb(b,7)");
    House deep = new House();
    keep(deep, "t", "t", "not(".repeat(12) + "a" + ")".repeat(12));
    House.due("a deep one", deep.learn("no"), 13 - 5 - 4);
    House.due("its text", deep.own(0), "not(not(not(a)))");
    House.due("kept", deep.kept(0), "no(no(no(no(a))))");
    House three = new House();
    keep(three, "n n n", "n", "add(mul(a,b),mul(b,c))");
    keep(three, "n n n", "n", "add(mul(b,c),mul(c,a))");
    keep(three, "n n n", "n", "add(mul(1,2),mul(2,3))");
    House.due("three parameters are too many", three.learn("abc"), -2);
  }

  private static void ties() {
    House h = new House();
    for (int i = 0; i < 4; i++) {
      keep(h, "n", "n", "sub(mul(a,2),9)");
      keep(h, "n", "n", "add(mul(a,3),9)");
    }
    House.due("what is saved", h.learn("x"), 4 * 3 - 5);
    House.due("of two alike the first by bytes", h.own(0), "add(mul(a,3),9)");
    House.due("then the other", h.learn("y"), 4 * 3 - 5);
    House.due("its text", h.own(1), "sub(mul(a,2),9)");
    House.due("kept", h.kept(0), "y(a)");
    House.due("kept", h.kept(1), "x(a)");
    House first = new House();
    for (int i = 0; i < 4; i++) {
      keep(first, "n", "n", "rem(add(a,2),9)");
      keep(first, "n", "n", "mul(add(a,3),9)");
    }
    first.learn("x");
    House.due("the first byte counts first", first.own(0), "mul(add(a,3),9)");
    House longer = new House();
    keep(longer, "n", "n", "add(1,add(1,add(1,add(1,a))))");
    longer.learn("x");
    House.due("the shorter one if another goes on", longer.own(0), "add(1,a)");
  }

  /** Own acts that were learnt are acts in the next patterns. */
  private static void learningAgain() {
    House h = new House();
    for (String end : new String[] {"a", "b", "sub(a,b)", "7"}) {
      keep(h, "n n", "n", "mul(add(and(" + end + ",6),1),add(and(3,6),1))");
    }
    House.due("what is saved first", h.learn("even") > 0 ? 1 : 0, 1);
    House.due("the act", h.own(0), "mul(add(and(a,6),1),add(and(3,6),1))");
    House.due("kept", h.kept(2), "even(sub(a,b))");
    House two = new House();
    keep(two, "n n", "n", "add(1,add(1,add(1,add(1,a))))");
    House.due("saved by the first", two.learn("p"), 9 - 5 - 3);
    House.due("kept", two.kept(0), "p(p(p(p(a))))");
    House.due("the next saves nothing yet", two.learn("q"), -2);
    keep(two, "n n", "n", "sub(p(p(a)),p(p(b)))");
    keep(two, "n n", "n", "sub(p(p(a)),p(p(b)))");
    House.due("saved by the next", two.learn("q"), 5 + 7 + 7 - (3 + 5 + 5) - 3);
    House.due("the next", two.own(1), "p(p(a))");
    House.due("kept", two.kept(0), "q(q(a))");
    House.due("kept", two.kept(1), "sub(q(a),q(b))");
    House.due("kept", two.kept(2), "sub(q(a),q(b))");
    House.due("its answer", two.value("q(3)"), 5);
  }

  private static void learnRefusals() {
    House h = new House();
    for (String name : new String[] {"", "abcdefghi", "a b", "A", "x1", "add", "sign", "f", "a", "b", "c", "true", "false", "error"}) {
      House.due("the name " + name, h.learn(name), -1);
    }
    House.due("nothing is kept", h.learn("abcdefgh"), -2);
    h.act("act mine n -> n = a");
    House.due("an own act's name", h.learn("mine"), -1);
    for (int i = 1; i < 10; i++) {
      h.act("act x" + (char) ('a' + i) + " n -> n = a");
    }
    House.due("nothing is kept", h.learn("more"), -2);
    keep(h, "n", "n", "add(1,add(1,add(1,add(1,a))))");
    House.due("ten own acts", h.learn("more"), -3);
    House.due("it stays as it was", h.kept(0), "add(1,add(1,add(1,add(1,a))))");
  }

  private static void owning() {
    House h = new House();
    House.due("none", h.x.own(0, -1), -1);
    h.act("act one s -> n = len( rev(a) )");
    h.act("act two t n -> n = if(a,b,011)".replace("011", "11"));
    House.due("its bytes", h.x.own(0, -1), 11);
    House.due("its text without blanks", h.own(0), "len(rev(a))");
    House.due("its first kind", h.x.own(0, -2), 's');
    House.due("no second one", h.x.own(0, -3), 0);
    House.due("its own", h.x.own(0, -4), 'n');
    House.due("its first kind", h.x.own(1, -2), 't');
    House.due("its second one", h.x.own(1, -3), 'n');
    House.due("its text", h.own(1), "if(a,b,11)");
    House.due("behind it", h.x.own(1, 10), -1);
    House.due("no such thing", h.x.own(1, -5), -1);
    House.due("no such act", h.x.own(2, -1), -1);
    House.due("no such act", h.x.own(-1, -1), -1);
  }
}
