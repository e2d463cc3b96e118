/** Promises 6 and 7: ask and act, with all FAULTS and their places. */
public final class AskTest {
  public static void main(String[] args) {
    points();
    tokens();
    grammar();
    namesAndKinds();
    numbersOfThings();
    laws();
    weights();
    depth();
    acts();
    whatFails();
    House.finish();
  }

  private static void points() {
    House h = new House();
    House.due("n", h.ask("find n -> n; use 1;"), 16);
    House.due("t", h.ask("find t -> n; use 1;"), 2);
    House.due("n n", h.ask("find n n -> t; use 1;"), 256);
    House.due("n t t", h.ask("find n t t -> n; use 1;"), 64);
    House.due("the last one goes on first", h.x.point(5, 0) * 100 + h.x.point(5, 1) * 10 + h.x.point(5, 2), 101);
    House.due("t t t", h.ask("find t t t -> t; use 1;"), 8);
    House.due("more than 256 without rows", h.ask("find n n t -> n; use 1;"), 0);
    House.due("more than 256 with rows", h.ask("find n n n -> n; use 1; row 1 2 3 = 4; row 1 2 3 = 4;"), 2);
    House.due("a word, alike rows each for itself",
        h.ask("find s -> n; use 1; row \"ab\" = 1; row \"\" = 0; row \"ab\" = 1;"), 3);
    House.due("a word as a number", h.x.point(2, 0), 29);
    House.due("no letters", h.x.point(1, 0), 0);
    House.due("blanks where one likes",
        h.ask("\n find  n->t;use\n\nadd:01,sub , 15:9,\"\",true;row 1=true;law x:n->x=x;\n "), 16);
    House.due("its pieces", h.x.told(9), 5);
    House.due("a price with a 0 in front", h.ask("find n -> n; use add:09;"), 16);
  }

  private static void tokens() {
    House h = new House();
    h.fault("nothing", h.ask(""), 1, 0);
    h.fault("blanks alone", h.ask("   "), 1, 3);
    h.fault("a long name", h.ask("find n -> n; use abcdefghi;"), 1, 17);
    h.fault("eight letters are a name", h.ask("find n -> n; use abcdefgh;"), 2, 17);
    h.fault("a number of three digits", h.ask("find n -> n; use 001;"), 1, 17);
    h.fault("a number above 15", h.ask("find n -> n; use 1, 16;"), 1, 20);
    h.fault("a word of seven letters", h.ask("find n -> n; use \"abcdefg\";"), 1, 17);
    h.fault("a word with another byte", h.ask("find n -> n; use \"ab c\";"), 1, 17);
    h.fault("a word that does not end", h.ask("find n -> n; use \"abc"), 1, 17);
    h.fault("a - alone", h.ask("find n - > n; use 1;"), 1, 7);
    h.fault("another byte", h.ask("find n -> n; use A;"), 1, 17);
    h.fault("a byte above 127", h.ask("find n -> n; use \u00e9;"), 1, 17);
    h.fault("a tabulator is no blank", h.ask("find\tn -> n; use 1;"), 1, 4);
    h.fault("a token as long as can be", h.ask("findn -> n; use 1;"), 1, 0);
    h.fault("the first of two", h.ask("find n -> n; use 1 A; row 16"), 1, 19);
    House.due("no blank is wanted behind a number", h.ask("find n->n;use 1,2;row 1=2;"), 16);
  }

  private static void grammar() {
    House h = new House();
    h.fault("no kinds", h.ask("find -> n; use 1;"), 1, 5);
    h.fault("another kind", h.ask("find x -> n; use 1;"), 1, 5);
    h.fault("four kinds", h.ask("find n n n n -> n; use 1;"), 1, 11);
    h.fault("a word for ->", h.ask("find n \"ab\" n; use 1;"), 1, 7);
    h.fault("a number for a kind", h.ask("find 1 -> n; use 1;"), 1, 5);
    h.fault("a -> for a value", h.ask("find n -> n; use ->;"), 1, 17);
    h.fault("two last kinds", h.ask("find n -> n n; use 1;"), 1, 12);
    h.fault("more must come", h.ask("find n -> n; use 1"), 1, 18);
    h.fault("more must come behind blanks", h.ask("find n -> n; use 1  "), 1, 20);
    h.fault("no pieces", h.ask("find n -> n; use;"), 1, 16);
    h.fault("a comma at the end", h.ask("find n -> n; use 1,;"), 1, 19);
    h.fault("a price 0", h.ask("find n -> n; use 1:0;"), 1, 19);
    h.fault("a price 10", h.ask("find n -> n; use 1:10;"), 1, 19);
    h.fault("no price", h.ask("find n -> n; use 1:;"), 1, 19);
    h.fault("a row of nothing", h.ask("find n -> n; use 1; row = 1;"), 1, 24);
    h.fault("error as a value", h.ask("find n -> n; use 1; row error = 1;"), 1, 24);
    h.fault("a name as an answer", h.ask("find n -> n; use 1; row 1 = a;"), 1, 28);
    h.fault("two answers", h.ask("find n -> n; use 1; row 1 = 1 1;"), 1, 30);
    h.fault("three names of a law", h.ask("find n -> n; use 1; law x:n y:n z:n -> x = x;"), 1, 32);
    h.fault("a law without names", h.ask("find n -> n; use 1; law -> 1 = 1;"), 1, 24);
    h.fault("a ? in a law", h.ask("find n -> n; use 1; law x:n -> f(?) = 1;"), 1, 33);
    h.fault("a true before a (", h.ask("find n -> n; use 1; law x:n -> true(1) = true;"), 1, 35);
    h.fault("a word behind the end", h.ask("find n -> n; use 1; more"), 1, 20);
    h.fault("fault 1 comes before others", h.ask("find n -> n; use foo, foo; row true = 1; row"), 1, 44);
  }

  private static void namesAndKinds() {
    House h = new House();
    h.fault("a piece that is no act", h.ask("find n -> n; use foo;"), 2, 17);
    h.fault("a parameter as a piece", h.ask("find n -> n; use a;"), 2, 17);
    h.fault("f as a piece", h.ask("find n -> n; use f;"), 2, 17);
    h.fault("error as a piece", h.ask("find n -> n; use error;"), 2, 17);
    House.due("true as a piece", h.ask("find n -> n; use true;"), 16);
    h.fault("an act twice", h.ask("find n -> n; use add, add:2;"), 3, 22);
    h.fault("a number twice", h.ask("find n -> n; use 5, 05;"), 3, 20);
    h.fault("a truth twice", h.ask("find n -> n; use true, true;"), 3, 23);
    h.fault("a word twice", h.ask("find n -> n; use \"\", \"a\", \"\";"), 3, 26);
    House.due("1 and true are two", h.ask("find n -> n; use 1, true;"), 16);
    h.fault("a row's kind", h.ask("find n t -> n; use 1; row 1 2 = 3;"), 3, 28);
    h.fault("an answer's kind", h.ask("find n -> t; use 1; row 1 = 3;"), 3, 28);
    House.due("error as an answer", h.ask("find n -> t; use 1; row 1 = error;"), 16);
    h.fault("the least place", h.ask("find n -> n; use 1; row true = true;"), 3, 24);
    h.fault("the number before the kinds", h.ask("find n -> n; use 1; row true 1 = true;"), 4, 20);
  }

  private static void numbersOfThings() {
    House h = new House();
    String twelve = "find n -> n; use 0,1,2,3,4,5,6,7,8,9,10,11";
    House.due("twelve pieces", h.ask(twelve + ";"), 16);
    h.fault("thirteen", h.ask(twelve + ",12;"), 5, 43);
    h.fault("thirteen, known", h.ask(twelve + ",11;"), 3, 43);
    h.fault("thirteen, unknown", h.ask(twelve + ",foo;"), 2, 43);
    StringBuilder rows = new StringBuilder("find n -> n; use 1;");
    for (int i = 0; i < 12; i++) {
      rows.append("row 1=1;");
    }
    House.due("twelve rows", h.ask(rows.toString()), 16);
    h.fault("thirteen rows", h.ask(rows + "row 1=1;"), 5, 19 + 12 * 8);
    h.fault("thirteen rows, the last of two values", h.ask(rows + "row 1 1=1;"), 4, 19 + 12 * 8);
    StringBuilder laws = new StringBuilder("find n -> n; use 1;");
    for (int i = 0; i < 4; i++) {
      laws.append("law x:n->x=x;");
    }
    House.due("four laws", h.ask(laws.toString()), 16);
    h.fault("five laws", h.ask(laws + "law x:n->x=x;"), 5, 19 + 4 * 13);
    h.fault("no values", h.ask("find n n -> n; use 1; row 1 = 1;"), 4, 22);
  }

  private static void laws() {
    House h = new House();
    House.due("a law may name an act", h.ask("find n -> n; use add; law add:n -> f(add) = add(add,0);"), 16);
    House.due("find with it", h.x.find(1), 1);
    h.fault("a name that is not told", h.ask("find n -> n; use 1; law x:n -> f(a) = x;"), 2, 33);
    h.fault("f without (", h.ask("find n -> n; use 1; law x:n -> f = x;"), 2, 31);
    h.fault("a name with (", h.ask("find n -> n; use 1; law x:n -> x(1) = x;"), 2, 31);
    h.fault("a name told twice", h.ask("find n -> n; use 1; law x:n x:t -> x = x;"), 2, 28);
    h.fault("true as a name", h.ask("find n -> n; use 1; law true:n -> 1 = 1;"), 2, 24);
    h.fault("false as a name", h.ask("find n -> n; use 1; law x:n false:n -> 1 = 1;"), 2, 28);
    h.fault("error as a name", h.ask("find n -> n; use 1; law error:n -> 1 = 1;"), 2, 24);
    h.fault("f as a name of kind s", h.ask("find n -> n; use 1; law f:s -> 1 = 1;"), 2, 24);
    h.fault("a name of kind s", h.ask("find n -> n; use 1; law x:n y:s -> 1 = 1;"), 6, 28);
    h.fault("an ask with a word", h.ask("find s -> n; use 1; law x:n -> 1 = 1;"), 6, 20);
    h.fault("an ask for a word", h.ask("find n -> s; use 1; law x:n -> 1 = 1;"), 6, 20);
    h.fault("an ask of 512 rows", h.ask("find n n t -> n; use 1; law x:n -> 1 = 1;"), 6, 24);
    h.fault("the sides' kinds", h.ask("find n -> n; use 1; law x:n -> f(x) = less(x,1);"), 3, 38);
    h.fault("f's operand", h.ask("find n -> n; use 1; law x:t -> f(x) = 1;"), 3, 33);
    h.fault("f's operands", h.ask("find n n -> n; use 1; law x:n -> f(x) = 1;"), 4, 33);
    House.due("sides may be words", h.ask("find n -> n; use add, 1; law x:n -> sign(f(x)) = sign(x);"), 16);
    House.due("f in f", h.ask("find t -> t; use not; law x:t -> f(f(x)) = x; law x:t -> f(x) = not(x);"), 2);
    House.due("not", h.x.find(3), 2);
    House.due("is found", h.term(), "not(a)");
  }

  private static void weights() {
    House h = new House();
    House.due("an act of weight 40", h.act("act w n -> n = " + heavy("a", 40)), 1);
    h.fault("an act of weight 41", h.act("act v n -> n = " + heavy("a", 41)), 5, 15);
    h.fault("an own act weighs 1 more", h.act("act v n -> n = w(a)"), 5, 15);
    h.fault("in a told term", h.value(" w(1)"), 5, 1);
    House.due("a told term of weight 40", h.value(heavy("0", 40)), 0);
    h.fault("a told term of weight 41", h.value(heavy("0", 41)), 5, 0);
    h.fault("in a law", h.ask("find n -> n; use 1; law x:n -> f(x) = w(x);"), 5, 38);
    h.fault("a law's first side", h.ask("find n -> n; use 1; law x:n -> w(x) = f(f(x));"), 5, 31);
    House.due("each side for itself",
        h.ask("find n -> n; use 1; law x:n -> " + heavy("x", 40) + " = " + heavy("x", 40) + ";"), 16);
    House.due("as a piece it may stand", h.ask("find n -> n; use w;"), 16);
    House.due("and be found", h.x.find(3), 1);
    h.fault("the weight comes before what is within", h.value("add(" + heavy("0", 40) + ",foo(1))"), 5, 0);
    h.fault("a name that is not known weighs 1", h.value(heavy("foo(1)", 28)), 5, 0);
    h.fault("f weighs 1", h.ask("find n -> n; use 1; law x:n -> x = " + heavy("f(x)", 28) + ";"), 5, 35);
  }

  /** A sum of so many acts, and one more of this leaf, none deep. */
  private static String heavy(String leaf, int acts) {
    if (acts == 0) {
      return leaf;
    }
    int left = (acts - 1) / 2;
    return "add(" + heavy(leaf, left) + "," + heavy(leaf, acts - 1 - left) + ")";
  }

  private static void depth() {
    House h = new House();
    House.due("within twelve others", h.value("not(".repeat(12) + "true" + ")".repeat(12)), 1);
    h.fault("within thirteen", h.value("not(".repeat(13) + "true" + ")".repeat(13)), 1, 52);
    h.fault("within thirteen, in a law",
        h.ask("find t -> t; use 1; law x:t -> " + "f(".repeat(13) + "x" + ")".repeat(13) + " = x;"), 1, 57);
  }

  private static void acts() {
    House h = new House();
    House.due("an act", h.act("act inc n -> n = add(a,1)"), 1);
    House.due("of two kinds", h.act(" act two n s->t=same(a,len(b))\n"), 2);
    House.due("in another", h.act("act three n -> n = inc(inc(inc(a)))"), 3);
    House.due("with a name like a word of the grammar", h.act("act row n -> n = a"), 4);
    House.due("three", h.value("three(4)"), 7);
    House.due("two", h.value("two(3,\"abc\")"), 1);
    House.due("row", h.value("row(9)"), 9);
    for (String name : new String[] {"inc", "add", "f", "a", "b", "c", "true", "false", "error"}) {
      h.fault("a name that is known: " + name, h.act("act " + name + " n -> n = a"), 2, 4);
    }
    h.fault("itself is not known", h.act("act me n -> n = me(a)"), 2, 16);
    h.fault("b of one kind", h.act("act me n -> n = b"), 2, 16);
    h.fault("c of two kinds", h.act("act me n n -> n = c"), 2, 18);
    h.fault("its kind", h.act("act me n -> t = a"), 3, 16);
    h.fault("an operand's kind", h.act("act me n -> n = add(a,true)"), 3, 22);
    h.fault("the number of operands", h.act("act me n -> n = add(a)"), 4, 16);
    h.fault("three kinds", h.act("act me n n n -> n = a"), 1, 11);
    h.fault("a number as a name", h.act("act 1 n -> n = a"), 1, 4);
    h.fault("more behind it", h.act("act me n -> n = a b"), 1, 18);
    h.fault("more must come", h.act("act me n -> n = "), 1, 16);
    h.fault("a ?", h.act("act me n -> n = ?"), 1, 16);
    for (int i = 4; i < 10; i++) {
      House.due("act " + i, h.act("act x" + (char) ('a' + i) + " n -> n = a"), i + 1);
    }
    h.fault("the eleventh", h.act("   act me n -> n = a"), 5, 0);
    h.fault("the eleventh with another fault", h.act("act me n -> n = foo"), 5, 0);
    h.fault("the eleventh with fault 1", h.act("act me n -> n = "), 1, 16);
    House.due("own acts", h.x.told(0), 10);
  }

  private static void whatFails() {
    House h = new House();
    h.ask("find n -> n; use add, 1; row 1 = 2;");
    h.fault("a fault", h.ask("find n -> n; use foo;"), 2, 17);
    House.due("the tape is used up", h.x.told(7), 0);
    House.due("the ask that there was stays", h.x.find(3), 3);
    House.due("its term", h.term(), "add(a,a)");
    h.act("act inc n -> n = add(a,1)");
    House.due("an act changes no ask", h.x.told(9), 2);
    House.due("nor what is found", h.x.count(3), 4);
    House.due("a record", h.x.told(4), 1);
    h.act("act inc n -> n = a");
    House.due("what is refused has none", h.x.told(4), 1);
  }
}
