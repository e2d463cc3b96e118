import java.util.ArrayList;
import java.util.List;

/** TEXTS: tokens, grammar and FAULTS 1 to 6 at their bounds, in all calls that read texts; promises 6, 7. */
public final class TextsEdgeTest {
  public static void main(String[] args) {
    blanks();
    names();
    numbers();
    words();
    signs();
    prices();
    moreMustCome();
    textsThatWereCut();
    textsOf2000();
    whatCannotStand();
    questionMarks();
    truthsBeforeBrackets();
    depth();
    depthOfLaterOperands();
    weight();
    weightOfOwnActs();
    weightOfUnknowns();
    weightOfEachSide();
    numbersOfKinds();
    parametersOfAsks();
    parametersOfActs();
    parametersOfLoops();
    namesOfLaws();
    soughtInLaws();
    whatIsKnown();
    namesOfActs();
    whatIsNoPiece();
    piecesTwice();
    kindsInAsks();
    kindsInLoops();
    numbersOfThings();
    twelvePieces();
    twelveRows();
    fourLaws();
    tenOwnActs();
    lawsThatCannotBe();
    theLeastPlace();
    theLesserOfOnePlace();
    faultOneBeforeAll();
    allMayStand();
    whatStays();
    House.finish();
  }

  /** A way to have a term of kind t read, that may use true alone. */
  private static final String[][] FRAMES = {
    {"value", "", ""}, {"cheaper", "", ""}, {"mend", "", ""}, {"keeps", "", ""}, {"act", "act w t -> t = ", ""},
    {"ask", "find t -> t; use 1; law x:t -> ", " = x;"}, {"ask", "find t -> t; use 1; law x:t -> x = ", ";"},
    {"loop", "loop t from ", " while true do a give a"}, {"loop", "loop t from a, a, ", " while true do a, b, c give a"},
    {"loop", "loop t from a while ", " do a give a"}, {"loop", "loop t from a while true do ", " give a"},
    {"loop", "loop t from a, a while true do a, ", " give a"}, {"loop", "loop t from a while true do a give ", ""}
  };

  private static int read(House h, String call, String text) {
    switch (call) {
      case "value": return h.value(text);
      case "cheaper": return h.cheaper(text);
      case "mend": return h.mend(text, 1);
      case "sketch": return h.sketch(text);
      case "keeps": return h.keeps(text);
      case "act": return h.act(text);
      case "ask": return h.ask(text);
      default: return h.loop(text);
    }
  }

  /** A house with an ask of a truth and a loop of a truth, so that each frame can be read. */
  private static House framed() {
    House h = new House();
    h.ask("find t -> t; use 1;");
    h.loop("loop t from a while true do a give a");
    return h;
  }

  private static void clean(String what, int answer) {
    House.due(what + " has no fault", answer > -10 ? 0 : answer, 0);
  }

  private static void dueFault(String what, String call, String text, int fault, int place) {
    House h = framed();
    h.fault(what + ": " + text, read(h, call, text), fault, place);
  }

  private static void blanks() {
    String[] tokens = {"find", "n", "t", "->", "n", ";", "use", "add", ":", "2", ",", "1", ",", "\"ab\"", ";", "row", "3", "true", "=", "4", ";",
      "law", "x", ":", "n", "y", ":", "t", "->", "f", "(", "x", ",", "y", ")", "=", "add", "(", "x", ",", "1", ")", ";"};
    for (String between : new String[] {" ", "\n", "\n \n", "   "}) {
      House h = new House();
      House.due("blanks between tokens", h.ask(between + String.join(between, tokens) + between), 32);
      House.due("what is read", h.x.find(4), 4);
    }
    House h = new House();
    House.due("no blanks", h.ask("find n t->n;use add:2,1,\"ab\";row 3 true=4;law x:n y:t->f(x,y)=add(x,1);"), 32);
    House.due("words and signs without any", h.ask("find s t->s;use\"ab\",pick;row\"a\"true=\"ab\";row\"\"false=error;"), 2);
    for (char none : new char[] {0, 1, 8, 9, 11, 12, 13, 31, 33, 127, 128, 160, 255}) {
      h = new House();
      h.fault("byte " + (int) none + " is no blank", h.ask("find n" + none + "-> n; use 1;"), 1, 6);
      h.fault("nor at the end", h.value("1" + none), 1, 1);
      h.fault("nor at the beginning", h.value(none + "1"), 1, 0);
    }
  }

  private static void names() {
    House h = new House();
    House.due("one letter", h.act("act z n -> n = a"), 1);
    House.due("eight letters", h.act("act abcdefgh n -> n = add(a,1)"), 2);
    House.due("eight letters are not seven", h.act("act abcdefg n -> n = add(a,2)"), 3);
    House.due("eight z", h.act("act zzzzzzzz n -> n = add(a,3)"), 4);
    h.fault("nine letters", h.act("act abcdefghi n -> n = a"), 1, 4);
    House.due("z", h.value("z(1)"), 1);
    House.due("abcdefgh", h.value("abcdefgh(1)"), 2);
    House.due("abcdefg", h.value("abcdefg(1)"), 3);
    House.due("zzzzzzzz", h.value("zzzzzzzz(1)"), 4);
    h.fault("eight letters that are not known", h.value("bbcdefgh(1)"), 2, 0);
    h.fault("nine letters in a term", h.value("add(abcdefghi(1),2)"), 1, 4);
    h.fault("nine letters without (", h.value("add(1,abcdefghi)"), 1, 6);
    h.fault("nine letters as a law's name", h.ask("find n -> n; use 1; law abcdefghi:n -> 1 = 1;"), 1, 24);
    House.due("eight as a law's name", h.ask("find n -> n; use 1; law abcdefgh:n -> abcdefgh = 1;"), 16);
    h.fault("a byte before a", h.value("a`"), 1, 1);
    h.fault("a byte behind z", h.value("z{"), 1, 1);
    h.fault("a capital letter", h.value("addA(1,2)"), 1, 3);
    h.fault("a digit ends a name", h.value("add1(1,2)"), 1, 3);
    h.fault("a name as long as can be", h.act("actz n -> n = a"), 1, 0);
    h.fault("nine letters, though the first word is right", h.loop("loopnnnnn"), 1, 0);
  }

  private static void numbers() {
    House h = new House();
    int[] told = {0, 1, 9, 10, 15};
    for (int n : told) {
      House.due("the number " + n, h.value("" + n), n);
    }
    House.due("two digits", h.value("00") + h.value("01") * 2 + h.value("09") * 3, 29);
    for (String text : new String[] {"16", "19", "20", "99", "000", "001", "015", "100", "0000000000000000015", "4294967297"}) {
      h.fault("too great or too long: " + text, h.value(" " + text), 1, 1);
    }
    h.fault("two numbers", h.value("1 5"), 1, 2);
    h.fault("a letter behind a number", h.value("1a"), 1, 1);
    h.fault("a byte before 0", h.value("1/"), 1, 1);
    h.fault("a byte behind 9", h.value("1:"), 1, 1);
    h.fault("a sign", h.value("-1"), 1, 0);
    h.fault("16 as a piece", h.ask("find n -> n; use 16;"), 1, 17);
    House.due("15 as a piece", h.ask("find n -> n; use 15;"), 16);
    h.fault("16 in a row", h.ask("find n -> n; use 1; row 16 = 1;"), 1, 24);
    h.fault("16 as an answer", h.ask("find n -> n; use 1; row 15 = 16;"), 1, 29);
    House.due("15 in a row", h.ask("find n -> n; use 1; row 15 = 15;"), 16);
  }

  private static void words() {
    House h = new House();
    House.due("no letters", h.value("\"\""), 0);
    House.due("one letter", h.value("\"z\""), 26);
    House.due("six letters", h.value("len(\"abcdef\")"), 6);
    for (String text : new String[] {"\"abcdefg\"", "\"abcdefgh", "\"abcdef", "\"", "\"a", "\"a b\"", "\" \"", "\"aB\"", "\"a1\"", "\"a\n\"", "\"`\"", "\"{\"",
        "\"abcdef\u00e9\"", "\"(\"", "\"ab->\""}) {
      h.fault("no word: " + text, h.value("len(" + text), 1, 4);
    }
    h.fault("a name behind a word", h.value("\"a\"b"), 1, 3);
    h.fault("a word behind a word", h.value("\"a\"\"b\""), 1, 3);
    h.fault("one \" more", h.value("\"a\"\""), 1, 3);
    House.due("six letters as a piece", h.ask("find n -> n; use \"zzzzzz\";"), 16);
    h.fault("seven letters as a piece", h.ask("find n -> n; use \"zzzzzzz\";"), 1, 17);
    House.due("six letters in a row", h.ask("find s -> s; use 1; row \"abcdef\" = \"uvwxyz\";"), 1);
    h.fault("seven in a row", h.ask("find s -> s; use 1; row \"abcdefg\" = \"\";"), 1, 24);
    h.fault("seven as an answer", h.ask("find s -> s; use 1; row \"\" = \"abcdefg\";"), 1, 29);
  }

  private static void signs() {
    House h = new House();
    for (String sign : new String[] {"(", ")", ",", ";", ":", "=", "->"}) {
      h.fault("a sign is no term: " + sign, h.value("  " + sign), 1, 2);
    }
    for (String none : new String[] {"-", ">", "- >", "--", "-a", "\\", "!", "#", "'", "*", "+", ".", "/", "<", "@", "[", "]", "^", "_", "|", "}", "~"}) {
      h.fault("no token: " + none, h.value("  " + none), 1, 2);
      h.fault("no token behind a term: " + none, h.value("1 " + none), 1, 2);
    }
    h.fault("- at the end", h.ask("find n -"), 1, 7);
    h.fault("- and > apart", h.ask("find n - > n; use 1;"), 1, 7);
    h.fault("-> twice", h.ask("find n ->-> n; use 1;"), 1, 9);
    h.fault("->> ", h.ask("find n ->> n; use 1;"), 1, 9);
    for (String none : new String[] {"=>", ">>", ":>", "(>", "?>", ",>", "+>", "_>", "=->"}) {
      h.fault("no ->: " + none, h.ask("find n " + none + " n; use 1;"), 1, 7);
    }
    h.fault("-> for =", h.ask("find n -> n; use 1; row 1 -> 1;"), 1, 26);
    h.fault("= for ->", h.ask("find n = n; use 1;"), 1, 7);
    h.fault(", for ;", h.ask("find n -> n, use 1;"), 1, 11);
    h.fault("; for ,", h.ask("find n -> n; use 1; 2;"), 1, 20);
  }

  private static void prices() {
    House h = new House();
    for (int price = 1; price <= 9; price++) {
      House.due("price " + price, h.ask("find n -> n; use 7:" + price + "; row 0 = 7;"), 16);
      House.due("not for less", price == 1 ? 0 : h.x.find(price - 1), 0);
      House.due("for it", h.x.find(price), price);
    }
    House.due("two digits", h.ask("find n -> n; use 7:09; row 0 = 7;"), 16);
    House.due("for it", h.x.find(12), 9);
    House.due("1 without", h.ask("find n -> n; use 7, 6:2; row 0 = 7;"), 16);
    House.due("for it", h.x.find(12), 1);
    for (String price : new String[] {"0", "00", "10", "15", "16", "99", "001", "a", "true", "\"\"", "-", ",", ";", ":"}) {
      h.fault("a price " + price, h.ask("find n -> n; use 7 : " + price + ";"), 1, 21);
      h.fault("an act's price " + price, h.ask("find n -> n; use 7, add : " + price + ";"), 1, 26);
    }
    h = new House();
    House.due("an act for 9", h.ask("find t -> t; use not:9; row true = false;"), 2);
    House.due("with its operand it is 10", h.x.find(9), 0);
    House.due("with its operand it is 10", h.x.find(10), 10);
    House.due("an act for 1", h.ask("find t -> t; use not:1; row true = false;"), 2);
    House.due("with its operand it is 2", h.x.find(12), 2);
    House.due("an act without a price", h.ask("find t -> t; use not; row true = false;"), 2);
    House.due("with its operand it is 2", h.x.find(12), 2);
  }

  private static final String[] ASK = {"find", "n", "n", "->", "n", ";", "use", "add", ":", "2", ",", "1", ";", "row", "1", "2", "=", "error", ";",
    "law", "x", ":", "n", "y", ":", "t", "->", "f", "(", "x", ",", "1", ")", "=", "if", "(", "y", ",", "x", ",", "2", ")", ";"};
  private static final String[] ACT = {"act", "me", "n", "s", "->", "t", "=", "same", "(", "a", ",", "len", "(", "b", ")", ")"};
  private static final String[] LOOP = {"loop", "n", "t", "from", "a", ",", "b", "while", "less", "(", "a", ",", "9", ")", "do", "add", "(", "a",
    ",", "1", ")", ",", "not", "(", "b", ")", "give", "a"};
  private static final String[] TERM = {"if", "(", "not", "(", "true", ")", ",", "1", ",", "len", "(", "\"ab\"", ")", ")"};

  private static String first(String[] tokens, int many) {
    StringBuilder text = new StringBuilder();
    for (int i = 0; i < many; i++) {
      text.append(tokens[i]).append(' ');
    }
    return text.toString();
  }

  /** The length, if more must come: behind each token of a text but those where it may end. */
  private static void moreMustCome() {
    cut("ask", ASK, 13, 19, ASK.length);
    cut("act", ACT, ACT.length);
    cut("loop", LOOP, LOOP.length);
    cut("value", TERM, TERM.length);
    cut("cheaper", TERM, TERM.length);
    cut("keeps", new String[] {"not", "(", "not", "(", "true", ")", ")"}, 7);
    cut("sketch", new String[] {"less", "(", "?", ",", "add", "(", "?", ",", "1", ")", ")"}, 11);
  }

  private static void cut(String call, String[] tokens, int... ends) {
    for (int many = 0; many <= tokens.length; many++) {
      boolean whole = false;
      for (int end : ends) {
        whole = whole || end == many;
      }
      String text = first(tokens, many);
      boolean namedTerm = many < tokens.length && tokens[many].equals("(") && text.indexOf('(') < 0 && !call.equals("ask") && !call.equals("loop");
      if (namedTerm) {
        dueFault("a name alone is a whole term", call, text, 2, text.length() - tokens[many - 1].length() - 1);
      } else if (whole) {
        House h = framed();
        clean(text, read(h, call, text));
      } else {
        dueFault("more must come", call, text, 1, text.length());
        dueFault("more must come", call, text.trim(), 1, text.trim().length());
      }
    }
  }

  /** A text that end() has cut is as long as it is told: the bytes that stood behind it are not read. */
  private static void textsThatWereCut() {
    String[][] texts = {
      {"ask", "find n t->n;use add:2,15,\"ab\";row 3 true=12;law x:n->f(x,true)=add(x,15);"}, {"act", "act me n s->t=same(a,len(\"abc\"))"},
      {"loop", "loop n from a,12 while less(a,15) do add(a,1),b give \"ab\""}, {"value", "add(len(\"abcdef\"),15)"}, {"sketch", "less(?,add(12,?))"},
      {"keeps", "not(less(a,15))"}
    };
    for (String[] each : texts) {
      for (int n = 0; n <= each[1].length(); n++) {
        House fresh = framed();
        int answer = read(fresh, each[0], each[1].substring(0, n));
        House h = framed();
        h.tape(each[1]);
        h.x.end(n);
        House.due(each[1] + " cut behind " + n, call(h, each[0]), answer);
        House.due(each[1] + " cut behind " + n + ", its place", h.x.place(), fresh.x.place());
      }
    }
  }

  private static int call(House h, String call) {
    switch (call) {
      case "value": return h.x.value();
      case "sketch": return h.x.sketch();
      case "keeps": return h.x.keeps();
      case "act": return h.x.act();
      case "ask": return h.x.ask();
      default: return h.x.loop();
    }
  }

  /** A tape that is full to its last byte, whatever token ends there. */
  private static void textsOf2000() {
    String[] ends = {"\"", "\"a", "\"abcdef", "\"abcdefg", "-", "->", "1", "15", "16", "a", "abcdefgh", "abcdefghi", "(", "?", "\u00ff", " ", "add(1", "add(1,", "\"\"", "true"};
    int[] faults = {1, 1, 1, 1, 1, 1, 0, 0, 1, 2, 2, 1, 1, 1, 1, 1, 1, 1, 0, 0};
    int[] places = {0, 0, 0, 0, 0, 0, 0, 0, 0, 0, 0, 0, 0, 0, 0, 1, 5, 6, 0, 0};
    for (int k = 0; k < ends.length; k++) {
      House h = new House();
      int before = 2000 - ends[k].length();
      int answer = h.value(" ".repeat(before) + ends[k]);
      if (faults[k] == 0) {
        clean("at the end of 2000: " + ends[k], answer);
      } else {
        h.fault("at the end of 2000: " + ends[k], answer, faults[k], before + places[k]);
      }
    }
    House h = new House();
    String act = "act me n->n=";
    House.due("an own act of 2000 bytes", h.act(act + " ".repeat(2000 - act.length() - 8) + "add(a,1)"), 1);
    House.due("it is there", h.value("me(4)"), 5);
    h.fault("a full tape of letters", h.value("a".repeat(2000)), 1, 0);
    House deep = new House();
    deep.fault("a full tape of (", deep.value("(".repeat(2000)), 1, 0);
    House names = new House();
    names.fault("a full tape of operands", names.value("add(" + "1,".repeat(997) + "1)"), 4, 0);
    House pieces = new House();
    pieces.fault("a full tape of pieces", pieces.ask("find n->n;use " + "1,".repeat(992) + "1;"), 3, 16);
    House rows = new House();
    rows.fault("a full tape of values", rows.ask("find n->n;use 1;row" + " 1".repeat(985) + "=1; "), 4, 16);
  }

  /** What is no token, or can stand nowhere, is the first fault wherever it stands. */
  private static void whatCannotStand() {
    String[] wrongs = {"@", "?", "-", "16", "abcdefghi", "\"abcdefg\"", "\"a b\"", "\u00ff"};
    for (String wrong : wrongs) {
      spoil("ask", ASK, wrong);
      spoil("act", ACT, wrong);
      spoil("loop", LOOP, wrong);
      spoil("value", TERM, wrong);
    }
  }

  private static void spoil(String call, String[] tokens, String wrong) {
    House h = framed();
    for (int at = 0; at <= tokens.length; at++) {
      if (h.x.left() < 40) {
        h = framed();
      }
      String before = first(tokens, at);
      StringBuilder text = new StringBuilder(before).append(wrong);
      for (int i = at; i < tokens.length; i++) {
        text.append(' ').append(tokens[i]);
      }
      h.fault(text.toString(), read(h, call, text.toString()), 1, before.length());
    }
  }

  private static void questionMarks() {
    for (String[] frame : FRAMES) {
      dueFault("? in sketches alone", frame[0], frame[1] + "less(?,1)" + frame[2], 1, frame[1].length() + 5);
      dueFault("? in sketches alone", frame[0], frame[1] + "?" + frame[2], 1, frame[1].length());
    }
    House h = framed();
    clean("a sketch", h.sketch("less(?,1)"));
    h.fault("as a piece", h.ask("find n -> n; use ?;"), 1, 17);
    h.fault("in a row", h.ask("find n -> n; use 1; row ? = 1;"), 1, 24);
    h.fault("as an answer", h.ask("find n -> n; use 1; row 1 = ?;"), 1, 28);
  }

  /** true and false are values wherever they stand, also before a ( . */
  private static void truthsBeforeBrackets() {
    for (String[] frame : FRAMES) {
      dueFault("true before (", frame[0], frame[1] + "true(true)" + frame[2], 1, frame[1].length() + 4);
      dueFault("false before (", frame[0], frame[1] + "not(false(true))" + frame[2], 1, frame[1].length() + 9);
    }
    dueFault("in a sketch", "sketch", "less(?,true(1))", 1, 11);
  }

  private static String nested(String open, String leaf, int depth) {
    return open.repeat(depth) + leaf + ")".repeat(depth);
  }

  /** A term within 12 others, and one within 13. */
  private static void depth() {
    for (String[] frame : FRAMES) {
      House h = framed();
      clean("within twelve: " + frame[1], read(h, frame[0], frame[1] + nested("not(", "true", 12) + frame[2]));
      dueFault("within thirteen", frame[0], frame[1] + nested("not(", "true", 13) + frame[2], 1, frame[1].length() + 13 * 4);
      dueFault("an act within thirteen", frame[0], frame[1] + nested("not(", "true", 20) + frame[2], 1, frame[1].length() + 13 * 4);
      dueFault("a name within thirteen", frame[0], frame[1] + nested("not(", "foo", 13) + frame[2], 1, frame[1].length() + 13 * 4);
    }
    House h = framed();
    h.ask("find n -> n; use 1;");
    clean("a sketch, a ? within twelve", h.sketch(nested("add(1,", "?", 12)));
    h.fault("within thirteen", h.sketch(nested("add(1,", "?", 13)), 1, 12 * 6 + 4);
    h.fault("more must come there", h.sketch("add(1,".repeat(12) + "add("), 1, 12 * 6 + 4);
    h.fault("what is no token there", h.sketch("add(1,".repeat(12) + "add( @"), 1, 12 * 6 + 5);
    clean("names that are not known are terms, too", new House().value("1"));
    h.fault("within thirteen that are not known", h.value(nested("foo(", "1", 13)), 1, 13 * 4);
    h.fault("within twelve that are not known", h.value(nested("foo(", "1", 12)), 2, 0);
    h.act("act own n -> n = " + nested("add(1,", "a", 12));
    House.due("what is in an own act is not within others", h.value(nested("own(", "1", 3)), 5);
  }

  private static void depthOfLaterOperands() {
    House h = new House();
    h.fault("the third operand", h.value(nested("if(true,1,", "1", 13)), 1, 12 * 10 + 3);
    clean("the third operand", h.value(nested("if(true,1,", "1", 12)));
    clean("the first operand, twelve", h.value("add(".repeat(12) + "1" + ",1)".repeat(12)));
    h.fault("the first operand, thirteen", h.value("add(".repeat(13) + "1" + ",1)".repeat(13)), 1, 52);
    clean("beside a deep one", h.value("add(" + nested("add(1,", "1", 11) + "," + nested("add(1,", "1", 11) + ")"));
    h.fault("beside a deep one", h.value("add(" + nested("add(1,", "1", 11) + "," + nested("add(1,", "1", 12) + ")"), 1,
        ("add(" + nested("add(1,", "1", 11) + "," + "add(1,".repeat(11) + "add(").length());
  }

  /** A tree of so many acts, none deep. */
  private static String tree(String act, String leaf, int acts) {
    if (acts == 0) {
      return leaf;
    }
    int left = (acts - 1) / 2;
    return act + "(" + tree(act, leaf, left) + "," + tree(act, leaf, acts - 1 - left) + ")";
  }

  /** A WEIGHT of 40, and one of 41. */
  private static void weight() {
    for (String[] frame : FRAMES) {
      House h = framed();
      clean("40: " + frame[1], read(h, frame[0], frame[1] + tree("both", "true", 40) + frame[2]));
      dueFault("41", frame[0], frame[1] + tree("both", "true", 41) + frame[2], 5, frame[1].length());
      dueFault("41, behind blanks", frame[0], frame[1] + " \n" + tree("both", "true", 41) + frame[2], 5, frame[1].length() + 2);
    }
    House h = framed();
    clean("a sketch of 40", h.sketch("both(less(?,1)," + tree("both", "true", 38) + ")"));
    h.fault("a sketch of 41", h.sketch(" both(less(?,1)," + tree("both", "true", 39) + ")"), 5, 1);
    clean("values weigh nothing", h.value("if(true,1," + tree("if(true", "1", 13).replace("if(true(", "if(true,") + ")"));
  }

  private static void weightOfOwnActs() {
    House h = framed();
    h.act("act id t -> t = a");
    h.act("act ten t -> t = " + tree("both", "a", 9));
    h.act("act most t -> t = " + tree("both", "a", 39));
    clean("id weighs 1: 40 of them", h.value(tree("both", "id(true)", 19) + ""));
    clean("39 and 1", h.value("most(true)"));
    h.fault("39, 1 and 1", h.value("not(most(true))"), 5, 0);
    h.fault("39, 1 and an own act of 1", h.value("id(most(true))"), 5, 0);
    clean("four of ten", h.value("ten(ten(ten(ten(true))))"));
    h.fault("four of ten and one", h.value("ten(ten(ten(ten(not(true)))))"), 5, 0);
    clean("an own act of own acts", h.act("act nine t -> t = ten(ten(ten(id(a))))"));
    clean("31 and 1 and 8", h.value(nested("not(", "nine(true)", 8)));
    h.fault("31 and 1 and 9", h.value(nested("not(", "nine(true)", 9)), 5, 0);
    h.fault("as an own act's term", h.act("act no t -> t = id(most(a))"), 5, 16);
    clean("as an own act's term", h.act("act forty t -> t = most(a)"));
    h.fault("41 by itself", h.value("forty(true)"), 5, 0);
    clean("it may be a piece", h.ask("find t -> t; use forty;"));
  }

  private static void weightOfUnknowns() {
    House h = framed();
    h.fault("40 with names that are not known", h.value("both(foo(1)," + tree("both", "true", 38) + ")"), 2, 5);
    h.fault("41 with names that are not known", h.value("both(foo(1)," + tree("both", "true", 39) + ")"), 5, 0);
    h.fault("of one place the lesser", h.value("foo(" + tree("both", "true", 40) + ")"), 2, 0);
    h.fault("a name without ( weighs nothing", h.value("both(foo," + tree("both", "true", 39) + ")"), 2, 5);
    h.fault("f is not known in a told term: 1", h.value("both(f(true)," + tree("both", "true", 39) + ")"), 5, 0);
    h.fault("f is not known in a told term", h.value("both(f(true)," + tree("both", "true", 38) + ")"), 2, 5);
    clean("f weighs 1 in a law", h.ask("find t -> t; use 1; law x:t -> x = both(f(x)," + tree("both", "x", 38) + ");"));
    h.fault("f weighs 1 in a law", h.ask("find t -> t; use 1; law x:t -> x = both(f(x)," + tree("both", "x", 39) + ");"), 5, 35);
  }

  private static void weightOfEachSide() {
    House h = framed();
    String most = tree("both", "x", 40);
    String more = tree("both", "x", 41);
    String head = "find t -> t; use 1; law x:t -> ";
    clean("40 each", h.ask(head + most + " = " + most + ";"));
    h.fault("the first", h.ask(head + more + " = " + most + ";"), 5, head.length());
    h = framed();
    h.fault("the second", h.ask(head + most + " = " + more + ";"), 5, head.length() + most.length() + 3);
    h.fault("both", h.ask(head + more + " = " + more + ";"), 5, head.length());
  }

  private static void numbersOfKinds() {
    House h = new House();
    h.fault("find, none", h.ask("find -> n; use 1;"), 1, 5);
    clean("find, one", h.ask("find n -> n; use 1;"));
    clean("find, three", h.ask("find n t s -> n; use 1;"));
    h.fault("find, four", h.ask("find n t s n -> n; use 1;"), 1, 11);
    h.fault("find, none behind ->", h.ask("find n -> ; use 1;"), 1, 10);
    h.fault("find, two behind ->", h.ask("find n -> n t; use 1;"), 1, 12);
    h.fault("act, none", h.act("act x -> n = 1"), 1, 6);
    clean("act, one", h.act("act x n -> n = 1"));
    clean("act, two", h.act("act y n s -> n = 1"));
    h.fault("act, three", h.act("act z n s t -> n = 1"), 1, 10);
    h.fault("act, none behind ->", h.act("act z n -> = 1"), 1, 11);
    h.fault("loop, none", h.loop("loop from 1 while true do 1 give 1"), 1, 5);
    clean("loop, one", h.loop("loop n from 1 while true do 1 give 1"));
    clean("loop, two", h.loop("loop n t from 1 while true do 1 give 1"));
    h.fault("loop, three", h.loop("loop n t n from 1 while true do 1 give 1"), 1, 9);
    h.fault("loop, s", h.loop("loop s from 1 while true do 1 give 1"), 1, 5);
    h.fault("loop, s behind n", h.loop("loop n s from 1 while true do 1 give 1"), 1, 7);
    h.fault("law, no name", h.ask("find n -> n; use 1; law -> 1 = 1;"), 1, 24);
    clean("law, one name", h.ask("find n -> n; use 1; law x:n -> 1 = 1;"));
    clean("law, two names", h.ask("find n -> n; use 1; law x:n y:t -> 1 = 1;"));
    h.fault("law, three names", h.ask("find n -> n; use 1; law x:n y:t z:n -> 1 = 1;"), 1, 32);
    h.fault("law, no kind", h.ask("find n -> n; use 1; law x -> 1 = 1;"), 1, 26);
    h.fault("law, another kind", h.ask("find n -> n; use 1; law x:m -> 1 = 1;"), 1, 26);
    for (String kind : new String[] {"m", "nn", "a", "find", "N", "1", "true"}) {
      h.fault("no kind: " + kind, h.ask("find " + kind + " -> n; use 1;"), 1, 5);
      h.fault("no last kind: " + kind, h.ask("find n -> " + kind + "; use 1;"), 1, 10);
    }
  }

  private static void parametersOfAsks() {
    String[] letters = {"a", "b", "c", "d"};
    for (int many = 1; many <= 3; many++) {
      House h = new House();
      h.ask("find" + " n".repeat(many) + " -> n; use 1;");
      for (int k = 0; k < 4; k++) {
        String text = "max(1, " + letters[k] + ")";
        if (k < many) {
          clean(text + " of " + many, h.cheaper(text));
          clean(text + " of " + many, h.mend(text, 1));
          clean(text + " of " + many, h.sketch("min(?," + text + ")"));
        } else {
          h.fault(text + " of " + many, h.cheaper(text), 2, 7);
          h.fault(text + " of " + many, h.mend(text, 1), 2, 7);
          h.fault(text + " of " + many, h.sketch("min(?," + text + ")"), 2, 13);
        }
        h.fault(text + " in value()", h.value(text), 2, 7);
      }
    }
    House h = new House();
    h.fault("a, without an ask, in cheaper()", h.cheaper("a"), 2, 0);
    h.fault("a, without an ask, in sketch()", h.sketch("add(?,a)"), 2, 6);
    h.fault("a, without an ask, in mend()", h.mend("a", 1), 2, 0);
    h.fault("a parameter with (", h.value("a(1)"), 2, 0);
  }

  private static void parametersOfActs() {
    House h = new House();
    h.fault("b of one", h.act("act x n -> n = b"), 2, 15);
    h.fault("c of one", h.act("act x n -> n = add(a,c)"), 2, 21);
    clean("a of one", h.act("act x n -> n = a"));
    clean("b of two", h.act("act y t n -> n = b"));
    h.fault("c of two", h.act("act z t n -> n = c"), 2, 17);
    h.fault("its own name", h.act("act z t n -> n = z(a,b)"), 2, 17);
  }

  private static void parametersOfLoops() {
    House h = new House();
    clean("from: a of one", h.loop("loop n from a while true do a give a"));
    h.fault("from: b of one", h.loop("loop n from b while true do a give a"), 2, 12);
    clean("from: b of two", h.loop("loop n n from b while true do a give a"));
    h.fault("from: c of two", h.loop("loop n n from c while true do a give a"), 2, 14);
    String[] letters = {"a", "b", "c", "d"};
    for (int many = 1; many <= 3; many++) {
      String head = "loop n from 1" + ",1".repeat(many - 1);
      String tail = ",1".repeat(many - 1);
      h = new House();
      for (int k = 0; k < 4; k++) {
        String[] texts = {
          head + " while same(1,@) do 1" + tail + " give 1", head + " while true do @" + tail + " give 1",
          head + " while true do 1" + tail + " give @"
        };
        for (String text : texts) {
          int at = text.indexOf('@');
          int answer = h.loop(text.replace("@", letters[k]));
          if (k < many) {
            clean(text, answer);
          } else {
            h.fault(text, answer, 2, at);
          }
        }
      }
      for (int k = 0; k < 4; k++) {
        h.loop(head + " while true do 1" + tail + " give 1");
        int answer = h.keeps("same(" + letters[k] + ",1)");
        if (k < many) {
          clean("keeps: " + letters[k], answer);
        } else {
          h.fault("keeps: " + letters[k] + " of " + many, answer, 2, 5);
        }
      }
    }
  }

  private static void namesOfLaws() {
    House h = new House();
    String head = "find n -> n; use 1; law ";
    clean("any name", h.ask(head + "x:n -> x = x;"));
    clean("a, b, c, d", h.ask(head + "d:n c:n -> d = c;"));
    clean("an act's", h.ask(head + "add:n -> add(add,add) = add;"));
    clean("a word of the grammar", h.ask(head + "law:n row:t -> law = law;"));
    clean("a kind", h.ask(head + "n:n t:t -> n = n;"));
    for (String name : new String[] {"f", "true", "false", "error"}) {
      h.fault("the name " + name, h.ask(head + name + ":n -> 1 = 1;"), 2, 24);
      h.fault("the second name " + name, h.ask(head + "x:n " + name + ":n -> 1 = 1;"), 2, 28);
    }
    h.fault("told twice", h.ask(head + "x:n x:n -> 1 = 1;"), 2, 28);
    h.fault("one that is not told", h.ask(head + "x:n -> y = 1;"), 2, 31);
    h.fault("one that is not told, in the second side", h.ask(head + "x:n -> 1 = y;"), 2, 35);
    h.fault("the ask's parameters are not told", h.ask(head + "x:n -> a = 1;"), 2, 31);
    h.fault("that of another law", h.ask(head + "x:n -> x = 1; law y:n -> x = 1;"), 2, 49);
    h.fault("a name with (", h.ask(head + "x:n -> x(1) = 1;"), 2, 31);
  }

  private static void soughtInLaws() {
    House h = new House();
    clean("f", h.ask("find n -> n; use 1; law x:n -> f(x) = x;"));
    h.fault("f without (", h.ask("find n -> n; use 1; law x:n -> add(f,1) = x;"), 2, 35);
    h.fault("f of two, of one", h.ask("find n -> n; use 1; law x:n -> f(x,x) = x;"), 4, 31);
    h.fault("f of one, of two", h.ask("find n n -> n; use 1; law x:n -> f(x) = x;"), 4, 33);
    clean("f of two", h.ask("find n n -> n; use 1; law x:n -> f(x,x) = x;"));
    clean("f of three", h.ask("find n t t -> n; use 1; law x:n y:t -> f(x,y,y) = x;"));
    h.fault("the kind of an operand", h.ask("find n t t -> n; use 1; law x:n y:t -> f(x,y,x) = x;"), 3, 45);
    h.fault("f's own kind", h.ask("find t -> n; use 1; law x:t -> not(f(x)) = x;"), 3, 35);
    House other = framed();
    other.fault("f in an act", other.act("act g n -> n = f(a)"), 2, 15);
    other.fault("f in a loop", other.loop("loop n from f(a) while true do a give a"), 2, 12);
    other.fault("f in a told term", other.cheaper("f(a)"), 2, 0);
    other.fault("f in a sketch", other.sketch("f(?)"), 2, 0);
    other.fault("f in mend", other.mend("not(f(a))", 1), 2, 4);
    other.fault("f in keeps", other.keeps("f(a)"), 2, 0);
    other.fault("f in an ask's next text", other.value("f(1)"), 2, 0);
    String[] broken = {"find n -> n; use 1; law x:n -> f(", "find n -> n; use 1; law x:n -> f(x) = f(x", "find n -> n; use 1; law x:n -> f(x) = x; law"};
    for (String text : broken) {
      House.due("a law that cannot be read", h.ask(text), -11);
      h.fault("behind it f is not known", h.value("f(1)"), 2, 0);
      h.fault("behind it f is not known, in an act", h.act("act g n -> n = f(a)"), 2, 15);
    }
  }

  private static void whatIsKnown() {
    House h = new House();
    h.fault("error is no term", h.value("error"), 2, 0);
    h.fault("an act without (", h.value("add(add,1)"), 2, 4);
    h.fault("an act that is not known", h.value("plus(1,2)"), 2, 0);
    h.fault("an own act that is not there yet", h.value("mine(1)"), 2, 0);
    h.act("act mine n -> n = a");
    House.due("when it is there", h.value("mine(1)"), 1);
    h.fault("in a row a name", h.ask("find n -> n; use 1; row a = 1;"), 1, 24);
    h.fault("in a row error", h.ask("find n -> n; use 1; row error = 1;"), 1, 24);
  }

  private static void namesOfActs() {
    String[] known = ("add sub mul div rem min max and or xor less same not both any if pick cat len take drop rev head like code sign"
        + " f a b c true false error").split(" ");
    House h = new House();
    for (String name : known) {
      h.fault("the name " + name, h.act(" act " + name + " n -> n = a"), 2, 5);
    }
    House.due("none came", h.x.told(0), 0);
    for (String name : new String[] {"d", "n", "t", "s", "act", "find", "adds"}) {
      clean("the name " + name, h.act("act " + name + " n -> n = a"));
    }
    h.fault("one of these again", h.act("act adds n -> n = a"), 2, 4);
    h.fault("as a number", h.act("act 1 n -> n = a"), 1, 4);
    h.fault("as a word", h.act("act \"x\" n -> n = a"), 1, 4);
  }

  private static void whatIsNoPiece() {
    House h = new House();
    for (String piece : new String[] {"a", "b", "c", "d", "f", "error", "foo", "find"}) {
      h.fault("the piece " + piece, h.ask("find n n n -> n; use 1, " + piece + ";"), 2, 24);
    }
    h.act("act foo n -> n = a");
    clean("an own act", h.ask("find n n n -> n; use 1, foo;"));
    for (String piece : new String[] {"true", "false", "0", "15", "\"\"", "\"zzzzzz\"", "sign", "add"}) {
      clean("the piece " + piece, h.ask("find n n n -> n; use 1, " + piece + ";"));
    }
    for (String piece : new String[] {"->", "(", ")", "=", "", ":"}) {
      h.fault("no piece: " + piece, h.ask("find n n n -> n; use 1, " + piece + ";"), 1, 24);
    }
  }

  private static void piecesTwice() {
    House h = new House();
    h.act("act foo n -> n = a");
    String[][] twice = {{"add", "add:2"}, {"foo", "foo"}, {"1", "1"}, {"1", "01"}, {"0", "00"}, {"true", "true"}, {"false", "false"}, {"\"\"", "\"\""},
      {"\"ab\"", "\"ab\""}};
    for (String[] two : twice) {
      h.fault("told already: " + two[1], h.ask("find n -> n; use " + two[0] + ", 9, " + two[1] + ";"), 3, 17 + two[0].length() + 5);
    }
    String[][] apart = {{"0", "false"}, {"1", "true"}, {"0", "\"\""}, {"1", "\"a\""}, {"false", "\"\""}, {"true", "\"a\""}, {"add", "sub"}, {"\"a\"", "\"aa\""},
      {"1", "10"}};
    for (String[] two : apart) {
      clean("two pieces: " + two[1], h.ask("find n -> n; use " + two[0] + ", " + two[1] + ";"));
    }
  }

  private static void kindsInAsks() {
    House h = new House();
    String[] values = {"1", "true", "\"a\""};
    String kinds = "nts";
    for (int want = 0; want < 3; want++) {
      for (int got = 0; got < 3; got++) {
        String row = "find " + kinds.charAt(want) + " -> n; use 1; row " + values[got] + " = 1;";
        String answer = "find n -> " + kinds.charAt(want) + "; use 1; row 1 = " + values[got] + ";";
        if (want == got) {
          clean(row, h.ask(row));
          clean(answer, h.ask(answer));
        } else {
          h.fault(row, h.ask(row), 3, 24);
          h.fault(answer, h.ask(answer), 3, 28);
        }
      }
    }
    clean("error as an answer of each kind", h.ask("find n -> n; use 1; row 1 = error;") + h.ask("find n -> t; use 1; row 1 = error;")
        + h.ask("find n -> s; use 1; row 1 = error;"));
    h.fault("the third value", h.ask("find n n n -> n; use 1; row 1 1 true = 1;"), 3, 32);
    h.fault("the second side", h.ask("find n -> n; use 1; law x:n -> 1 = true;"), 3, 35);
    h.fault("the second side, a word", h.ask("find n -> n; use 1; law x:n -> 1 = sign(x);"), 3, 35);
    h.fault("an own act's term", h.act("act x n -> t = a"), 3, 15);
    h.fault("an own act's term, a word", h.act("act x n -> n = \"\""), 3, 15);
    h.fault("an own act's term, a truth", h.act("act x t -> s = a"), 3, 15);
  }

  private static void kindsInLoops() {
    House h = new House();
    h.fault("from, a word", h.loop("loop n from \"\" while true do a give a"), 3, 12);
    h.fault("the third of from, a word", h.loop("loop n from 1, 2, sign(a) while true do a, b, c give a"), 3, 18);
    h.fault("the condition, a number", h.loop("loop n from a while 1 do a give a"), 3, 20);
    h.fault("the condition, a word", h.loop("loop n from a while \"\" do a give a"), 3, 20);
    h.fault("do, a truth for a number", h.loop("loop n from a while true do true give a"), 3, 28);
    h.fault("do, a number for a truth", h.loop("loop t from a while true do 1 give a"), 3, 28);
    h.fault("do, a word", h.loop("loop n from a while true do sign(a) give a"), 3, 28);
    h.fault("the third of do", h.loop("loop n from a, a, true while true do a, a, 1 give a"), 3, 43);
    clean("give, a number", h.loop("loop n from a while true do a give 1"));
    clean("give, a truth", h.loop("loop n from a while true do a give true"));
    clean("give, a word", h.loop("loop n from a while true do a give \"\""));
    h.fault("keeps, a number", h.keeps("  a"), 3, 2);
    h.fault("keeps, a word", h.keeps("sign(a)"), 3, 0);
    House last = framed();
    last.fault("mend, another kind", last.mend(" 1", 1), 3, 1);
    last.fault("sketch, another kind", last.sketch("\n?"), 3, 1);
    last.fault("sketch, another kind without a ?", last.sketch("  1"), 3, 2);
    clean("cheaper, each kind", last.cheaper("1") + last.cheaper("true") + last.cheaper("\"\""));
  }

  private static void numbersOfThings() {
    House h = new House();
    h.fault("a row of one, of two", h.ask("find n n -> n; use 1; row 1 = 1;"), 4, 22);
    h.fault("a row of three, of two", h.ask("find n n -> n; use 1; row 1 1 1 = 1;"), 4, 22);
    clean("a row of two, of two", h.ask("find n n -> n; use 1; row 1 1 = 1;"));
    h.fault("a row of four, of three", h.ask("find n n n -> n; use 1; row 1 1 1 1 = 1;"), 4, 24);
    h.fault("a row of two, of one", h.ask("find n -> n; use 1; row 1 1 = 1;"), 4, 20);
    h.fault("a row of none", h.ask("find n -> n; use 1; row = 1;"), 1, 24);
    h.fault("do of one, from of two", h.loop("loop n from a, a while true do a give a"), 4, 28);
    h.fault("do of three, from of two", h.loop("loop n from a, a while true do a, a, a give a"), 4, 28);
    h.fault("do of four, from of three", h.loop("loop n from a, a, a while true do a, a, a, a give a"), 4, 31);
    clean("three and three", h.loop("loop n from a, a, a while true do a, a, a give a"));
    h.fault("four of from", h.loop("loop n from a, a, a, a while true do a, a, a give a"), 4, 21);
    h.fault("four of from and of do", h.loop("loop n from a, a, a, a while true do a, a, a, a give a"), 4, 21);
    h.fault("five of from", h.loop("loop n from 1, 2, 3, 4, 5 while true do a give a"), 4, 21);
    h.fault("none of from", h.loop("loop n from while true do a give a"), 1, 18);
    h.fault("none of do", h.loop("loop n from a while true do give a"), 1, 33);
    h.fault("two of give", h.loop("loop n from a while true do a give a, a"), 1, 36);
    h.fault("two conditions", h.loop("loop n from a while true, true do a give a"), 1, 24);
  }

  private static String many(String head, String each, int many, String between) {
    List<String> all = new ArrayList<>();
    for (int i = 0; i < many; i++) {
      all.add(each.replace("#", "" + i));
    }
    return head + String.join(between, all);
  }

  private static void twelvePieces() {
    House h = new House();
    String twelve = many("find n -> n; use ", "#", 12, ",");
    House.due("twelve", h.ask(twelve + ";"), 16);
    House.due("are there", h.x.told(9), 12);
    h.fault("the 13th", h.ask(twelve + ", add;"), 5, twelve.length() + 2);
    h.fault("the 13th of fourteen", h.ask(twelve + ",add:9,sub;"), 5, twelve.length() + 1);
    h.fault("the 13th is one of them", h.ask(twelve + ",3;"), 3, twelve.length() + 1);
    h.fault("the 13th is not known", h.ask(twelve + ",foo;"), 2, twelve.length() + 1);
    h.fault("the 13th has no price", h.ask(twelve + ",12:0;"), 1, twelve.length() + 4);
    House.due("the ask stays", h.x.told(9), 12);
    House.due("none", h.ask("find n -> n; use ;"), -11);
    House.due("one", h.ask("find n -> n; use 1;"), 16);
    House.due("is there", h.x.told(9), 1);
  }

  private static void twelveRows() {
    House h = new House();
    String twelve = many("find n -> n; use 1; ", "row # = #;", 12, " ");
    House.due("twelve", h.ask(twelve), 16);
    House.due("are there", h.x.told(10), 12);
    h.fault("the 13th", h.ask(twelve + " row 1 = 1;"), 5, twelve.length() + 1);
    h.fault("of another kind", h.ask(twelve + " row true = 1;"), 5, twelve.length() + 1);
    h.fault("of two values", h.ask(twelve + " row 1 1 = 1;"), 4, twelve.length() + 1);
    h.fault("that cannot be read", h.ask(twelve + " row 1 = a;"), 1, twelve.length() + 9);
    House.due("the ask stays", h.x.told(10), 12);
    House.due("none", h.ask("find n -> n; use 1;"), 16);
    House.due("are there", h.x.told(10), 0);
    String words = many("find s -> n; use 1; ", "row \"a\" = 1;", 12, " ");
    House.due("twelve alike", h.ask(words), 12);
  }

  private static void fourLaws() {
    House h = new House();
    String four = many("find n -> n; use 1;", "law x:n -> x = x;", 4, " ");
    House.due("four", h.ask(four), 16);
    House.due("are there", h.x.told(11), 4);
    h.fault("the 5th", h.ask(four + "  law x:n -> x = x;"), 5, four.length() + 2);
    h.fault("the 5th with another fault behind", h.ask(four + "law x:n -> foo = x;"), 5, four.length());
    h.fault("the 5th that cannot be read", h.ask(four + "law x:n -> = x;"), 1, four.length() + 11);
    House.due("the ask stays", h.x.told(11), 4);
    House.due("rows among them do not count", h.ask(four + "row 1 = 1; row 2 = 2;"), 16);
    House.due("rows", h.x.told(10), 2);
  }

  private static void tenOwnActs() {
    House h = new House();
    for (int i = 0; i < 10; i++) {
      House.due("own act " + i, h.act("act x" + (char) ('a' + i) + " n -> n = " + i), i + 1);
    }
    h.fault("the 11th", h.act(" act y n -> n = 1"), 5, 0);
    h.fault("with a fault at 0 that is less", h.act("act y n -> n = foo"), 5, 0);
    h.fault("with a name that is known", h.act("act add n -> n = 1"), 5, 0);
    h.fault("that cannot be read", h.act("act y n -> n 1"), 1, 13);
    House.due("ten are there", h.x.told(0), 10);
    House.due("ten records", h.x.told(4), 10);
    House.due("the last one", h.value("xj(1)"), 9);
  }

  private static void lawsThatCannotBe() {
    House h = new House();
    String law = "law x:n -> x = x;";
    h.fault("a parameter s", h.ask("find s -> n; use 1; " + law), 6, 20);
    h.fault("the second s", h.ask("find n s -> n; use 1; " + law), 6, 22);
    h.fault("the third s", h.ask("find t t s -> n; use 1; " + law), 6, 24);
    h.fault("the last kind s", h.ask("find n -> s; use 1; " + law), 6, 20);
    h.fault("512 rows", h.ask("find n n t -> n; use 1; " + law), 6, 24);
    h.fault("4096 rows", h.ask("find n n n -> n; use 1; " + law), 6, 24);
    House.due("256 rows", h.ask("find n n -> n; use 1; " + law), 256);
    House.due("64 rows", h.ask("find n t t -> n; use 1; " + law), 64);
    House.due("8 rows", h.ask("find t t t -> t; use 1; " + law), 8);
    House.due("no law", h.ask("find n n n -> n; use 1;"), 0);
    h.fault("behind a row", h.ask("find s -> n; use 1; row \"\" = 1; " + law), 6, 32);
    h.fault("a name of kind s", h.ask("find n -> n; use 1; law x:s -> 1 = 1;"), 6, 24);
    h.fault("the second name of kind s", h.ask("find n -> n; use 1; law x:n y:s -> 1 = 1;"), 6, 28);
    House.due("sides of kind s", h.ask("find n -> n; use 1; law x:n -> sign(x) = \"a\";"), 16);
    House.due("a piece of kind s", h.ask("find n -> n; use \"a\", len; " + law), 16);
  }

  private static void theLeastPlace() {
    House h = framed();
    h.fault("2 before 3", h.value("add(foo,true)"), 2, 4);
    h.fault("3 before 2", h.value("add(true,foo)"), 3, 4);
    h.fault("4 before 2", h.value("add(1,2,foo)"), 4, 0);
    h.fault("2 before 4", h.value("add(foo,not(true,true))"), 2, 4);
    h.fault("a piece, then a row", h.ask("find n -> n; use foo; row true = 1;"), 2, 17);
    h.fault("a row, then a row", h.ask("find n -> n; use 1; row 1 1 = 1; row true = 1;"), 4, 20);
    h.fault("row before its value", h.ask("find n -> n; use 1; row true 1 = 1;"), 4, 20);
    h.fault("a value before the answer", h.ask("find n -> n; use 1; row true = true;"), 3, 24);
    h.fault("law before its name", h.ask("find s -> n; use 1; law f:s -> foo = 1;"), 6, 20);
    h.fault("a name before a side", h.ask("find n -> n; use 1; law x:s -> foo = 1;"), 6, 24);
    h.fault("the first side before the second", h.ask("find n -> n; use 1; law x:n -> foo = bar;"), 2, 31);
    h.fault("from before while", h.loop("loop n from b while 1 do 1, 2 give foo"), 2, 12);
    h.fault("while before do", h.loop("loop n from a while 1 do 1, 2 give foo"), 3, 20);
    h.fault("do before its terms", h.loop("loop n from a while true do true, 2 give foo"), 4, 25);
    h.fault("do before give", h.loop("loop n from a while true do foo give bar"), 2, 28);
    h.fault("an act's name before its term", h.act("act add n -> n = foo"), 2, 4);
  }

  private static void theLesserOfOnePlace() {
    House h = framed();
    h.fault("3 and 4", h.value("add(1,not(true,true))"), 3, 6);
    h.fault("2 and 3 are not both", h.value("not(foo(1))"), 2, 4);
    h.fault("4 and 5", h.value("both(true,true," + tree("both", "true", 40) + ")"), 4, 0);
    h.fault("2 and 5", h.value("foo(" + tree("both", "true", 41) + ")"), 2, 0);
    h.fault("3 and 5", h.keeps(tree("add", "1", 41)), 3, 0);
    h.fault("3 and 4, whole", h.keeps("add(1)"), 3, 0);
    h.fault("2 and 6", h.ask("find n -> n; use 1; law x:n x:s -> 1 = 1;"), 2, 28);
    h.fault("2 and 6", h.ask("find n -> n; use 1; law true:s -> 1 = 1;"), 2, 24);
    h.fault("3 and 5, a law's side", h.ask("find n -> n; use 1; law x:n -> x = " + tree("both", "true", 41) + ";"), 3, 35);
  }

  private static void faultOneBeforeAll() {
    House h = framed();
    h.fault("behind a 2", h.value("add(foo,)"), 1, 8);
    h.fault("behind a 3", h.value("add(true,1"), 1, 10);
    h.fault("behind a 4", h.value("add(1) 1"), 1, 7);
    h.fault("behind a 5", h.value(tree("both", "true", 41) + ")"), 1, tree("both", "true", 41).length());
    h.fault("behind a 6", h.ask("find s -> n; use 1; law x:n -> 1 = 1; row"), 1, 41);
    h.fault("of two the first", h.ask("find n -> n; use @, 16;"), 1, 17);
    h.fault("cannot stand, before no token", h.ask("find n -> n; use 1 2, @;"), 1, 19);
    h.fault("no token, before cannot stand", h.ask("find n -> n; use @ 2 2;"), 1, 17);
  }

  /** In laws, own acts, loops, sketches and told terms all acts and values may stand. */
  private static void allMayStand() {
    House h = new House();
    h.act("act up n -> n = xor(max(a,12),len(cat(\"ab\",\"c\")))");
    clean("in a law", h.ask("find n -> n; use add; law x:n -> up(f(x)) = if(like(\"a\",\"b\"),mul(x,15),up(f(x)));"));
    clean("in a loop", h.loop("loop n from up(a) while like(sign(a),\"p\") do rem(a,3) give pick(true,\"x\",\"y\")"));
    clean("in a told term", h.mend("up(sub(a,14))", 1));
    clean("in a sketch", h.sketch("up(div(a,?))"));
    clean("in keeps", h.keeps("any(less(a,9),same(up(a),13))"));
    House.due("in a value", h.value("up(0)"), 15);
    House.due("not in a term of the ask", h.cheaper("up(a)"), -2);
    House.due("nor a value", h.cheaper("add(a,14)"), -2);
  }

  /** The ask, the loop that there was stay; the tape is used up. */
  private static void whatStays() {
    House h = new House();
    h.ask("find n -> n; use add, 1; row 1 = 2; law x:n -> f(x) = add(x,1);");
    h.loop("loop n from 3 while less(a,5) do add(a,1) give a");
    String[] wrong = {"", "find", "find n -> n; use foo;", "find n -> n; use 1; row true = 1;", "find n -> n; use 1; row 1 1 = 1;",
      "find n -> n; use 1; law x:s -> 1 = 1;", "find t -> t; use true:9; row 1 = 1;"};
    for (String text : wrong) {
      House.due("refused: " + text, h.ask(text) < -10 ? 1 : 0, 1);
      House.due("the tape is used up", h.x.told(7), 0);
      House.due("its pieces", h.x.told(9), 2);
      House.due("its points", h.x.told(12), 16);
      House.due("what is found", h.x.find(3), 3);
      House.due("a point", h.x.point(15, 0), 15);
    }
    for (String text : new String[] {"", "loop n", "loop n from b while true do a give a", "loop n from 1, 2 while false do 1 give 9"}) {
      House.due("refused: " + text, h.loop(text) < -10 ? 1 : 0, 1);
      House.due("the tape is used up", h.x.told(7), 0);
      House.due("its answer", h.x.runs(15, 2), 5);
      House.due("its meetings", h.x.runs(15, 1), 3);
      House.due("its variables", h.x.span(0, 0) * 10 + h.x.span(0, 1), 35);
      House.due("no second one", h.x.span(1, 0), -1);
      House.due("what it keeps", h.keeps("less(2,a)"), -1);
    }
  }
}
