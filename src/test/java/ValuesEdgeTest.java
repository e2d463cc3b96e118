/** VALUES and ACTS at their bounds, with promises 20 and 21: value, worked. */
public final class ValuesEdgeTest {
  private static final String[] NUMBERS = {"add", "sub", "mul", "div", "rem", "min", "max", "and", "or", "xor", "less", "same"};

  public static void main(String[] args) {
    allNumbers();
    wrapAround();
    divisionByNothing();
    truths();
    onlyOneBranch();
    wordsOfSixLetters();
    takeAndDrop();
    turning();
    firstLetters();
    codesAndSigns();
    likeWords();
    errorAtEachOperand();
    ownActs();
    answersAsNumbers();
    workedEach();
    workedWithErrors();
    workedOfIfAndPick();
    workedOfOwnActs();
    workedOfEachOperand();
    workedOfTheLatest();
    kindsOfOperands();
    numbersOfOperands();
    ownActsChangeNoOthers();
    House.finish();
  }

  private static int number(int act, int x, int y) {
    switch (act) {
      case 0: return (x + y) % 16;
      case 1: return (x - y + 16) % 16;
      case 2: return x * y % 16;
      case 3: return y == 0 ? -1 : x / y;
      case 4: return y == 0 ? -1 : x % y;
      case 5: return Math.min(x, y);
      case 6: return Math.max(x, y);
      case 7: return x & y;
      case 8: return x | y;
      case 9: return x ^ y;
      case 10: return x < y ? 1 : 0;
      default: return x == y ? 1 : 0;
    }
  }

  /** All acts of two numbers, for all numbers. */
  private static void allNumbers() {
    for (int act = 0; act < NUMBERS.length; act++) {
      House h = new House();
      h.ask("find n n -> n; use " + NUMBERS[act] + ";");
      House.due(NUMBERS[act], h.cheaper(NUMBERS[act] + "(a,b)") > 0 ? 1 : 0, 1);
      for (int i = 0; i < 256; i++) {
        House.due(NUMBERS[act] + "(" + i / 16 + "," + i % 16 + ")", h.x.answer(i), number(act, i / 16, i % 16));
      }
      int[][] some = {{0, 0}, {0, 15}, {15, 0}, {15, 15}, {1, 15}, {15, 1}, {7, 8}, {8, 8}, {14, 15}, {3, 5}};
      for (int[] each : some) {
        String text = NUMBERS[act] + "(" + each[0] + "," + each[1] + ")";
        House.due(text + " as a value", h.value(text), number(act, each[0], each[1]));
      }
    }
  }

  private static void due(House h, String text, int want) {
    House.due(text, h.value(text), want);
  }

  /** Modulo 16: the last number, and the one behind it. */
  private static void wrapAround() {
    House h = new House();
    due(h, "add(15,0)", 15);
    due(h, "add(15,1)", 0);
    due(h, "add(7,8)", 15);
    due(h, "add(8,8)", 0);
    due(h, "add(15,15)", 14);
    due(h, "sub(0,0)", 0);
    due(h, "sub(0,1)", 15);
    due(h, "sub(0,15)", 1);
    due(h, "mul(3,5)", 15);
    due(h, "mul(4,4)", 0);
    due(h, "mul(15,15)", 1);
    due(h, "mul(8,2)", 0);
    due(h, "add(add(15,1),15)", 15);
  }

  private static void divisionByNothing() {
    House h = new House();
    due(h, "div(15,1)", 15);
    due(h, "div(15,0)", -1);
    due(h, "div(0,0)", -1);
    due(h, "div(0,1)", 0);
    due(h, "div(14,15)", 0);
    due(h, "div(15,15)", 1);
    due(h, "div(15,8)", 1);
    due(h, "rem(15,1)", 0);
    due(h, "rem(15,0)", -1);
    due(h, "rem(0,0)", -1);
    due(h, "rem(14,15)", 14);
    due(h, "rem(15,15)", 0);
    due(h, "rem(15,8)", 7);
  }

  private static void truths() {
    House h = new House();
    String[] truth = {"false", "true"};
    for (int x = 0; x < 2; x++) {
      due(h, truth[x], x);
      due(h, "not(" + truth[x] + ")", 1 - x);
      due(h, "if(" + truth[x] + ",3,5)", x == 1 ? 3 : 5);
      due(h, "pick(" + truth[x] + ",\"c\",\"e\")", x == 1 ? 3 : 5);
      for (int y = 0; y < 2; y++) {
        due(h, "both(" + truth[x] + "," + truth[y] + ")", x & y);
        due(h, "any(" + truth[x] + "," + truth[y] + ")", x | y);
      }
    }
  }

  private static void onlyOneBranch() {
    House h = new House();
    due(h, "if(true,3,div(1,0))", 3);
    due(h, "if(false,3,div(1,0))", -1);
    due(h, "if(false,div(1,0),4)", 4);
    due(h, "if(true,div(1,0),4)", -1);
    due(h, "if(same(1,div(1,0)),3,3)", -1);
    due(h, "pick(true,\"c\",head(\"\"))", 3);
    due(h, "pick(false,\"c\",head(\"\"))", -1);
    due(h, "pick(false,head(\"\"),\"d\")", 4);
    due(h, "pick(true,head(\"\"),\"d\")", -1);
    due(h, "pick(less(div(1,0),1),\"c\",\"c\")", -1);
  }

  private static int letters(String word) {
    int code = 0;
    for (char letter : word.toCharArray()) {
      code = code * 27 + letter - 'a' + 1;
    }
    return code;
  }

  /** cat: six letters are a word, seven are none. */
  private static void wordsOfSixLetters() {
    House h = new House();
    String all = "uvwxyz";
    for (int i = 0; i <= 6; i++) {
      String left = all.substring(0, i);
      String right = all.substring(i);
      due(h, "cat(\"" + left + "\",\"" + right + "\")", letters(all));
      if (i > 0) {
        due(h, "cat(\"" + left + "\",\"" + right + "a\")", -1);
      }
    }
    due(h, "cat(\"abcdef\",\"\")", letters("abcdef"));
    due(h, "cat(\"\",\"abcdef\")", letters("abcdef"));
    due(h, "cat(\"abcdef\",\"g\")", -1);
    due(h, "cat(\"a\",\"bcdefg\")", -1);
    due(h, "cat(\"abcdef\",\"abcdef\")", -1);
    due(h, "cat(\"\",\"\")", 0);
    due(h, "cat(\"a\",\"\")", 1);
    due(h, "cat(\"\",\"z\")", 26);
    due(h, "cat(\"abc\",\"xyz\")", letters("abcxyz"));
    due(h, "cat(\"abcd\",\"xyz\")", -1);
    for (int i = 0; i <= 6; i++) {
      due(h, "len(\"" + "zzzzzz".substring(0, i) + "\")", i);
      due(h, "len(\"" + "aaaaaa".substring(0, i) + "\")", i);
    }
  }

  private static void takeAndDrop() {
    for (String word : new String[] {"", "z", "az", "zabzaz"}) {
      House h = new House();
      for (int n = 0; n <= 15; n++) {
        int cut = Math.min(n, word.length());
        due(h, "take(\"" + word + "\"," + n + ")", letters(word.substring(0, cut)));
        due(h, "drop(\"" + word + "\"," + n + ")", letters(word.substring(cut)));
      }
    }
  }

  private static void turning() {
    House h = new House();
    for (String word : new String[] {"", "a", "z", "az", "za", "abc", "zzzzza", "azzzzz", "abcdef"}) {
      due(h, "rev(\"" + word + "\")", letters(new StringBuilder(word).reverse().toString()));
    }
  }

  private static void firstLetters() {
    House h = new House();
    due(h, "head(\"\")", -1);
    due(h, "head(\"z\")", 26);
    due(h, "head(\"a\")", 1);
    due(h, "head(\"az\")", 1);
    due(h, "head(\"zaaaaa\")", 26);
    due(h, "head(drop(\"a\",1))", -1);
  }

  /** The place in the alphabet is modulo 16: p is 15, q is 0 again. */
  private static void codesAndSigns() {
    House h = new House();
    for (int i = 0; i < 26; i++) {
      due(h, "code(\"" + (char) ('a' + i) + "\")", i % 16);
    }
    due(h, "code(\"\")", -1);
    due(h, "code(\"qa\")", 0);
    due(h, "code(\"zzzzzz\")", 9);
    due(h, "code(\"pz\")", 15);
    for (int i = 0; i < 16; i++) {
      due(h, "sign(" + i + ")", i + 1);
      due(h, "code(sign(" + i + "))", i);
    }
  }

  private static void likeWords() {
    House h = new House();
    due(h, "like(\"\",\"\")", 1);
    due(h, "like(\"a\",\"\")", 0);
    due(h, "like(\"\",\"a\")", 0);
    due(h, "like(\"abcdef\",\"abcdef\")", 1);
    due(h, "like(\"abcdef\",\"abcdeg\")", 0);
    due(h, "like(\"abcdef\",\"bbcdef\")", 0);
    due(h, "like(\"a\",\"aa\")", 0);
    due(h, "like(rev(\"ab\"),\"ba\")", 1);
  }

  private static final String[][] OPERANDS = {
    {"add", "nn"}, {"sub", "nn"}, {"mul", "nn"}, {"div", "nn"}, {"rem", "nn"}, {"min", "nn"}, {"max", "nn"}, {"and", "nn"},
    {"or", "nn"}, {"xor", "nn"}, {"less", "nn"}, {"same", "nn"}, {"not", "t"}, {"both", "tt"}, {"any", "tt"}, {"cat", "ss"},
    {"len", "s"}, {"take", "sn"}, {"drop", "sn"}, {"rev", "s"}, {"head", "s"}, {"like", "ss"}, {"code", "s"}, {"sign", "n"},
    {"if", "tnn"}, {"pick", "tss"}
  };

  private static String good(char kind) {
    return kind == 'n' ? "1" : kind == 't' ? "true" : "\"a\"";
  }

  private static String error(char kind) {
    return kind == 'n' ? "div(1,0)" : kind == 't' ? "same(1,rem(1,0))" : "head(\"\")";
  }

  private static String term(String[] act, int at, String put) {
    StringBuilder text = new StringBuilder(act[0]).append('(');
    for (int k = 0; k < act[1].length(); k++) {
      text.append(k > 0 ? "," : "").append(k == at ? put : good(act[1].charAt(k)));
    }
    return text.append(')').toString();
  }

  /** One operand that is ERROR makes the ANSWER ERROR, whichever it is. */
  private static void errorAtEachOperand() {
    for (String[] act : OPERANDS) {
      House h = new House();
      for (int k = 0; k < act[1].length(); k++) {
        boolean leftOut = act[1].length() == 3 && k == 2;
        String text = term(act, k, error(act[1].charAt(k)));
        House.due(text, h.value(text), leftOut ? 1 : -1);
      }
      House.due(term(act, -1, ""), h.value(term(act, -1, "")) >= 0 ? 1 : 0, 1);
    }
  }

  private static void ownActs() {
    House h = new House();
    h.act("act one n n -> n = a");
    h.act("act two n n -> n = b");
    h.act("act three s t -> s = pick(b,a,\"no\")");
    h.act("act four s -> n = 4");
    due(h, "one(3,5)", 3);
    due(h, "two(3,5)", 5);
    due(h, "one(3,div(1,0))", -1);
    due(h, "one(div(1,0),3)", -1);
    due(h, "two(div(1,0),5)", -1);
    due(h, "two(5,div(1,0))", -1);
    due(h, "three(\"ab\",true)", letters("ab"));
    due(h, "three(\"ab\",false)", letters("no"));
    due(h, "three(head(\"\"),false)", -1);
    due(h, "three(\"ab\",same(1,div(1,0)))", -1);
    due(h, "four(\"\")", 4);
    due(h, "four(\"zzzzzz\")", 4);
    due(h, "four(head(\"\"))", -1);
    h.act("act bad n -> n = div(a,0)");
    due(h, "bad(1)", -1);
    due(h, "if(true,7,bad(1))", 7);
    h.act("act deep n -> n = one(two(a,15),bad(a))");
    due(h, "deep(1)", -1);
    h.act("act high n n -> n = add(mul(a,2),b)");
    due(h, "high(15,15)", 13);
    due(h, "high(0,15)", 15);
    due(h, "high(15,0)", 14);
  }

  /** Of n the number, of t 0, 1, of s its letters to the base 27. */
  private static void answersAsNumbers() {
    House h = new House();
    due(h, "0", 0);
    due(h, "00", 0);
    due(h, "9", 9);
    due(h, "09", 9);
    due(h, "10", 10);
    due(h, "15", 15);
    due(h, "false", 0);
    due(h, "true", 1);
    due(h, "\"\"", 0);
    due(h, "\"a\"", 1);
    due(h, "\"z\"", 26);
    due(h, "\"aa\"", 28);
    due(h, "\"az\"", 53);
    due(h, "\"ba\"", 55);
    due(h, "\"zzzzzz\"", 387420488);
    due(h, "\"aaaaaa\"", letters("aaaaaa"));
  }

  private static void worked(House h, String text, int want) {
    House.due(text + " is answered", h.value(text) >= -1 ? 1 : 0, 1);
    House.due(text + ", worked out", h.x.worked(), want);
  }

  private static void workedEach() {
    House h = new House();
    House.due("before any", h.x.worked(), 0);
    worked(h, "7", 0);
    worked(h, "true", 0);
    worked(h, "\"ab\"", 0);
    for (String[] act : OPERANDS) {
      worked(h, term(act, -1, ""), 1);
    }
  }

  /** An act counts when its operands have been worked out, be they ERROR. */
  private static void workedWithErrors() {
    for (String[] act : OPERANDS) {
      House h = new House();
      for (int k = 0; k < act[1].length(); k++) {
        boolean leftOut = act[1].length() == 3 && k == 2;
        boolean two = act[1].charAt(k) == 't';
        worked(h, term(act, k, error(act[1].charAt(k))), leftOut ? 1 : two ? 3 : 2);
      }
    }
    House h = new House();
    worked(h, "add(div(1,0),add(1,2))", 3);
    worked(h, "add(add(1,2),div(1,0))", 3);
    worked(h, "add(div(1,0),div(1,0))", 3);
  }

  private static void workedOfIfAndPick() {
    House h = new House();
    worked(h, "if(true,add(1,1),add(1,add(1,1)))", 2);
    worked(h, "if(false,add(1,1),add(1,add(1,1)))", 3);
    worked(h, "if(not(true),add(1,1),add(1,add(1,1)))", 4);
    worked(h, "if(not(false),add(1,1),add(1,add(1,1)))", 3);
    worked(h, "if(same(1,div(1,0)),add(1,1),add(1,1))", 3);
    worked(h, "if(true,div(1,0),add(1,1))", 2);
    worked(h, "pick(true,rev(\"a\"),rev(rev(\"a\")))", 2);
    worked(h, "pick(false,rev(\"a\"),rev(rev(\"a\")))", 3);
    worked(h, "pick(not(not(true)),\"a\",rev(\"a\"))", 3);
    worked(h, "pick(like(head(\"\"),\"a\"),rev(\"a\"),rev(\"a\"))", 3);
    worked(h, "if(true,if(true,if(true,1,add(1,1)),add(1,1)),add(1,1))", 3);
  }

  private static void workedOfOwnActs() {
    House h = new House();
    h.act("act id n -> n = a");
    h.act("act up n -> n = add(a,add(1,1))");
    h.act("act some n n -> n = if(less(a,b),up(a),b)");
    h.act("act said s -> s = cat(a,rev(a))");
    h.act("act two s n -> n = if(same(b,0),len(said(a)),b)");
    worked(h, "id(1)", 1);
    worked(h, "id(id(id(1)))", 3);
    worked(h, "up(1)", 3);
    worked(h, "up(up(1))", 6);
    worked(h, "up(add(1,1))", 4);
    worked(h, "up(div(1,0))", 2);
    worked(h, "some(1,2)", 1 + 2 + 3);
    worked(h, "some(2,1)", 1 + 2);
    worked(h, "some(div(1,0),up(1))", 1 + 1 + 3);
    worked(h, "some(up(1),div(1,0))", 1 + 3 + 1);
    worked(h, "said(\"ab\")", 3);
    worked(h, "said(said(\"a\"))", 6);
    worked(h, "said(head(\"\"))", 2);
    worked(h, "two(\"a\",0)", 1 + 2 + 1 + 3);
    worked(h, "two(\"a\",3)", 1 + 2);
    worked(h, "two(head(\"\"),0)", 2);
    worked(h, "two(\"abcd\",0)", 1 + 2 + 1 + 3);
    worked(h, "if(true,1,up(1))", 1);
    worked(h, "if(false,1,up(1))", 4);
  }

  /** What is in an own act counts as it is worked out for just these operands, 0 and no letters, too. */
  private static void workedOfEachOperand() {
    House h = new House();
    h.act("act one n -> n = if(same(a,3),add(a,add(1,1)),a)");
    h.act("act two n n -> n = if(same(b,3),add(a,add(1,1)),a)");
    h.act("act word s -> n = if(like(a,\"\"),len(rev(a)),1)");
    h.act("act pair n s -> n = if(like(b,\"\"),a,add(a,1))");
    h.act("act truth t n -> n = if(a,b,add(b,add(1,1)))");
    for (int n = 0; n < 16; n++) {
      worked(h, "one(" + n + ")", n == 3 ? 5 : 3);
    }
    for (int n = 0; n < 6; n++) {
      worked(h, "two(0," + n + ")", n == 3 ? 5 : 3);
      worked(h, "two(" + n + ",3)", 5);
    }
    worked(h, "word(\"\")", 5);
    worked(h, "word(\"a\")", 3);
    worked(h, "pair(0,\"\")", 3);
    worked(h, "pair(0,\"a\")", 4);
    worked(h, "truth(false,0)", 4);
    worked(h, "truth(true,0)", 2);
    worked(h, "truth(false,1)", 4);
    worked(h, "truth(true,1)", 2);
  }

  /** Only a value() that is not refused changes worked(). */
  private static void workedOfTheLatest() {
    House h = new House();
    worked(h, "add(1,add(1,1))", 2);
    h.fault("a fault", h.value("add(1,foo)"), 2, 6);
    House.due("what is refused changes nothing", h.x.worked(), 2);
    h.ask("find n -> n; use add, 1;");
    h.x.find(5);
    h.cheaper("add(a,add(a,1))");
    h.sketch("add(?,add(1,1))");
    h.mend("add(1,add(1,add(1,a)))", 1);
    h.loop("loop n from add(a,add(1,1)) while false do a give a");
    h.keeps("same(a,add(a,add(1,1)))");
    h.act("act up n -> n = add(a,add(1,add(1,1)))");
    House.due("nor do others", h.x.worked(), 2);
    worked(h, "div(1,0)", 1);
    worked(h, "1", 0);
    worked(h, "add(1,add(1,1))", 2);
    Blocks.goDown(h);
    House.due("value() when DOWN", h.x.value(), -5);
    House.due("that is refused, too", h.x.worked(), 2);
  }

  /** A wrong kind at each operand of each act. */
  private static void kindsOfOperands() {
    for (String[] act : OPERANDS) {
      House h = new House();
      for (int k = 0; k < act[1].length(); k++) {
        for (String wrong : new String[] {"1", "true", "\"a\""}) {
          if (!wrong.equals(good(act[1].charAt(k)))) {
            String text = term(act, k, "@");
            h.fault(text + " with " + wrong, h.value(text.replace("@", wrong)), 3, text.indexOf('@'));
          }
        }
      }
    }
  }

  /** One operand too few, and one too many. */
  private static void numbersOfOperands() {
    for (String[] act : OPERANDS) {
      House h = new House();
      String right = term(act, -1, "");
      House.due(right, h.value(right) >= 0 ? 1 : 0, 1);
      h.fault(right + " and one more", h.value("  " + right.replace(")", ",1)")), 4, 2);
      if (act[1].length() > 1) {
        h.fault(right + " and one less", h.value(" " + right.substring(0, right.lastIndexOf(',')) + ")"), 4, 1);
      } else {
        h.fault(right + " without any", h.value(" " + act[0] + "()"), 1, act[0].length() + 2);
      }
      h.fault(act[0] + " alone", h.value(act[0]), 2, 0);
    }
  }

  /** Ten own acts of all kinds: what was known before is as it was. */
  private static void ownActsChangeNoOthers() {
    String[] kinds = {"n n -> n = b", "n n -> n = add(a,b)", "t t -> t = both(a,b)", "s s -> s = b", "n s -> t = same(a,len(b))", "n -> n = a", "t -> t = a",
      "s -> s = a", "s n -> s = take(a,b)", "n n -> n = sub(a,b)"};
    for (String[] act : OPERANDS) {
      House h = new House();
      for (int i = 0; i < kinds.length; i++) {
        House.due("own act " + i, h.act("act o" + (char) ('a' + i) + " " + kinds[i]), i + 1);
      }
      House.due(term(act, -1, ""), h.value(term(act, -1, "")) >= 0 ? 1 : 0, 1);
      for (int k = 0; k < act[1].length(); k++) {
        for (String wrong : new String[] {"1", "true", "\"a\""}) {
          if (!wrong.equals(good(act[1].charAt(k)))) {
            String text = term(act, k, "@");
            h.fault(text + " with " + wrong, h.value(text.replace("@", wrong)), 3, text.indexOf('@'));
          }
        }
      }
    }
    House h = new House();
    for (int i = 0; i < 10; i++) {
      h.act("act o" + (char) ('a' + i) + " n n -> n = add(a,mul(b," + i + "))");
    }
    for (int i = 0; i < 10; i++) {
      for (int[] two : new int[][] {{0, 0}, {0, 15}, {15, 0}, {15, 15}, {7, 8}}) {
        due(h, "o" + (char) ('a' + i) + "(" + two[0] + "," + two[1] + ")", (two[0] + two[1] * i) % 16);
      }
    }
  }
}
