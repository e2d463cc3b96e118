import java.util.ArrayList;
import java.util.List;
import java.util.function.ToLongFunction;

/** REFUSALS: each call with each of them; what is refused changes nothing, but uses up the tape that it reads. */
public final class RefusalsTest {
  public static void main(String[] args) {
    ofARichHouse();
    withoutAskAndLoop();
    ofAFullHouse();
    ofAnAskWithoutRoom();
    ofRowsWithoutRoom();
    ofTermsThatCannotBeKept();
    byDown();
    tapeWhileDown();
    exceptionsChangeNothing();
    House.finish();
  }

  /** A house that has one at least of all that there can be. */
  private static House rich() {
    House h = new House();
    h.act("act up n -> n = add(a,1)");
    h.ask("find n t -> n; use up, 1, 7:3; row 3 true = 4;");
    House.due("mend", h.mend("up(up(a))", 1), 1);
    h.x.keep();
    h.example("xab", "ab");
    h.example("yyxc", "c");
    House.due("fit", h.x.fit(), 3);
    h.word("a", true);
    h.word("", false);
    House.due("machine", h.x.machine(), 2);
    House.due("shortest", h.x.shortest(~0xFEDCBA9876543210L, 3), 1);
    h.loop("loop n from a while less(a,9) do up(a) give a");
    House.due("value", h.value("up(up(1))"), 3);
    House.due("sync", h.x.sync(), 1);
    h.word("bb", true);
    h.x.keep();
    h.fault("a fault", h.value("      foo"), 2, 6);
    House.due("find", h.x.find(2), 2);
    return h;
  }

  /** All that can be seen of a house; it is DOWN, and started again, in the end. */
  private static List<Long> picture(House h) {
    List<Long> seen = new ArrayList<>();
    for (int what = 0; what <= 12; what++) {
      seen.add((long) h.x.told(what));
    }
    seen.add((long) h.x.mended());
    seen.add((long) h.x.worked());
    addText(seen, h.term());
    for (int i : new int[] {0, 1, 7, 31}) {
      seen.add((long) h.x.answer(i));
      seen.add((long) h.x.point(i, 0));
      seen.add((long) h.x.point(i, 1));
    }
    for (int k = 0; k < 3; k++) {
      addText(seen, h.kept(k));
      addText(seen, h.own(k));
      seen.add((long) h.x.own(k, -2) + 1000L * h.x.own(k, -3) + 1000000L * h.x.own(k, -4));
    }
    for (int what = 0; what < 3; what++) {
      seen.add((long) h.x.runs(0, what));
      seen.add((long) h.x.runs(15, what));
      seen.add((long) h.x.state(0, what));
      seen.add((long) h.x.state(1, what));
    }
    for (int what = 0; what < 5; what++) {
      seen.add((long) h.x.part(0, what));
    }
    seen.add(h.x.span(0, 0) + 100L * h.x.span(0, 1));
    seen.add(h.x.step(0) + 100L * h.x.step(1));
    seen.add((long) h.keeps("less(a,9)"));
    seen.add((long) h.x.find(2));
    seen.add(h.x.count(3));
    seen.add((long) h.x.different(3));
    seen.add((long) h.x.question(3));
    seen.add((long) h.sketch("add(a,?)"));
    addText(seen, h.term());
    seen.add((long) h.x.fit());
    seen.add(h.x.fitting(1));
    seen.add((long) h.x.machine());
    seen.add((long) h.apply("qxrs"));
    h.x.end(0);
    addDisk(seen, h);
    return seen;
  }

  private static void addDisk(List<Long> seen, House h) {
    seen.add((long) h.word("bbb", true));
    seen.add((long) h.x.sync());
    seen.add((long) h.x.told(6));
    for (int i = 0; i < 64; i++) {
      seen.add((long) h.x.octet(2, i));
    }
    seen.add((long) h.x.octet(1, 127));
    seen.add((long) h.x.octet(2, 127));
    seen.add((long) h.x.octet(3, 1));
    h.x.cut(0, 3);
    h.x.forget();
    h.x.clear();
    seen.add((long) h.x.sync());
    seen.add((long) h.x.start());
    for (int what = 0; what <= 7; what++) {
      seen.add((long) h.x.told(what));
    }
  }

  private static void addText(List<Long> seen, String text) {
    seen.add((long) text.length());
    for (char letter : text.toCharArray()) {
      seen.add((long) letter);
    }
  }

  private interface Maker {
    House make();
  }

  /** A call on a house, with a text on the tape or none, and the refusal that is due; the place of a FAULT. */
  private static void refused(String what, Maker maker, String text, ToLongFunction<Calls> call, long due, int place) {
    House one = maker.make();
    House other = maker.make();
    int before = other.x.place();
    if (text != null) {
      one.tape(text);
      other.tape(text);
      other.x.end(0);
    }
    House.due(what, call.applyAsLong(one.x), due);
    House.due(what + ", its place", one.x.place(), place == SAME ? before : place);
    List<Long> first = picture(one);
    List<Long> second = picture(other);
    House.due(what + ", as much is seen", first.size(), second.size());
    for (int i = 0; i < first.size() && i < second.size(); i++) {
      House.due(what + ", changes nothing, " + i, first.get(i), second.get(i));
    }
  }

  private static final int SAME = -100;

  private static void refused(String what, Maker maker, String text, ToLongFunction<Calls> call, long due) {
    refused(what, maker, text, call, due, SAME);
  }

  private static void ofARichHouse() {
    Maker m = RefusalsTest::rich;
    refused("told(-1)", m, null, x -> x.told(-1), -1);
    refused("told(13)", m, null, x -> x.told(13), -1);
    refused("ask, 1", m, "find n -> n; use 1; row", x -> x.ask(), -11, 23);
    refused("ask, 2", m, "find s s -> s; use 1, 2, foo;", x -> x.ask(), -12, 25);
    refused("ask, 3", m, "find s -> s; use 1; row 1 = 1;", x -> x.ask(), -13, 24);
    refused("ask, 4", m, "find s -> s; use 1; row \"\" \"\" = \"\";", x -> x.ask(), -14, 20);
    refused("ask, 5", m, "find s->s;use 1,2,3,4,5,6,7,8,9,10,11,12,13;", x -> x.ask(), -15, 41);
    refused("ask, 6", m, "find s -> s; use 1; law x:n -> 1 = 1;", x -> x.ask(), -16, 20);
    refused("act, 1", m, "act z n -> n", x -> x.act(), -11, 12);
    refused("act, 2", m, "act up n -> n = a", x -> x.act(), -12, 4);
    refused("act, 3", m, "act z n -> n = true", x -> x.act(), -13, 15);
    refused("act, 4", m, "act z n -> n = up(a,a)", x -> x.act(), -14, 15);
    for (int p : new int[] {0, 13}) {
      refused("find " + p, m, null, x -> x.find(p), -1);
      refused("count " + p, m, null, x -> x.count(p), -1);
      refused("ith " + p, m, null, x -> x.ith(p, 0), -1);
      refused("different " + p, m, null, x -> x.different(p), -1);
      refused("question " + p, m, null, x -> x.question(p), -1);
      refused("mend " + p, m, "up(a)", x -> x.mend(p), -1);
      refused("mend " + p + " with a fault", m, "foo", x -> x.mend(p), -1);
    }
    refused("ith, i", m, null, x -> x.ith(2, -1), -1);
    refused("ith, i", m, null, x -> x.ith(2, 1), -1);
    refused("cheaper, a fault", m, "add(c,1)", x -> x.cheaper(), -12, 4);
    refused("cheaper, no piece", m, "add(a,1)", x -> x.cheaper(), -2);
    refused("cheaper, above 12", m, "up(".repeat(12) + "a" + ")".repeat(12), x -> x.cheaper(), -2);
    refused("sketch, a fault", m, "less(?,1)", x -> x.sketch(), -13, 0);
    refused("sketch, four ?", m, "add(add(?,?),add(?,?))", x -> x.sketch(), -15, 19);
    refused("sketch, no ?", m, "add(a,1)", x -> x.sketch(), -2);
    refused("mend, a fault", m, "  true", x -> x.mend(1), -13, 2);
    refused("mend, a ?", m, "add(?,1)", x -> x.mend(1), -11, 4);
    refused("byteOf", m, null, x -> x.byteOf(5), -1);
    refused("byteOf", m, null, x -> x.byteOf(-1), -1);
    refused("answer", m, null, x -> x.answer(32), -2);
    refused("point", m, null, x -> x.point(32, 0), -2);
    refused("point", m, null, x -> x.point(0, 2), -2);
    refused("value, a fault", m, "up(true)", x -> x.value(), -13, 3);
    refused("value, a parameter", m, "up(a)", x -> x.value(), -12, 3);
    refused("kept", m, null, x -> x.kept(2, -1), -1);
    refused("kept", m, null, x -> x.kept(0, 5), -1);
    refused("learn, no name", m, "x1", x -> x.learn(), -1);
    refused("learn, a name that is known", m, "up", x -> x.learn(), -1);
    refused("learn, no pattern", m, "zz", x -> x.learn(), -2);
    refused("own", m, null, x -> x.own(1, -1), -1);
    refused("own", m, null, x -> x.own(0, 8), -1);
    refused("own", m, null, x -> x.own(0, -5), -1);
    refused("loop, a fault", m, "loop t from a while a do not(a) give b", x -> x.loop(), -12, 37);
    refused("loop, more must come", m, "loop t from a", x -> x.loop(), -11, 13);
    refused("runs", m, null, x -> x.runs(16, 0), -1);
    refused("runs", m, null, x -> x.runs(0, 3), -1);
    refused("span", m, null, x -> x.span(1, 0), -1);
    refused("span", m, null, x -> x.span(0, 2), -1);
    refused("keeps, a fault", m, " a", x -> x.keeps(), -13, 1);
    refused("keeps, no such variable", m, "less(b,1)", x -> x.keeps(), -12, 5);
    refused("example, n", m, "ab", x -> x.example(-1), -1);
    refused("example, no OUT", m, "ab", x -> x.example(2), -1);
    refused("example, no letter", m, "a b", x -> x.example(1), -1);
    refused("fitting", m, null, x -> x.fitting(0), -1);
    refused("fitting", m, null, x -> x.fitting(5), -1);
    refused("part", m, null, x -> x.part(1, 1), -1);
    refused("part", m, null, x -> x.part(0, 2), -1);
    refused("apply, no word", m, "aB", x -> x.apply(), -1);
    refused("apply, a part is not there", m, "ab", x -> x.apply(), -1);
    refused("apply, nothing to cut", m, "abx", x -> x.apply(), -1);
    refused("word, another letter", m, "abc", x -> x.word(true), -1);
    refused("word, nine letters", m, "aaaaaaaaa", x -> x.word(true), -1);
    refused("word, told otherwise", m, "a", x -> x.word(false), -2);
    refused("word, told otherwise", m, "", x -> x.word(true), -2);
    refused("state", m, null, x -> x.state(2, 0), -1);
    refused("step", m, null, x -> x.step(1), -1);
    refused("shortest", m, null, x -> x.shortest(0, 6), -1);
    refused("shortest", m, null, x -> x.shortest(0, -1), -1);
    refused("cut, n", m, null, x -> x.cut(-2, 0), -1);
    refused("cut, n", m, null, x -> x.cut(401, 0), -1);
    refused("cut, tear", m, null, x -> x.cut(0, 128), -1);
    refused("cut, tear", m, null, x -> x.cut(0, -1), -1);
    refused("start", m, null, x -> x.start(), -2);
    refused("a word that is told as it is", m, "a", x -> x.word(true), 3);
  }

  private static House bare() {
    House h = new House();
    h.word("a", true);
    h.act("act up n -> n = add(a,1)");
    h.fault("a fault", h.value("   foo"), 2, 3);
    return h;
  }

  private static void withoutAskAndLoop() {
    Maker m = RefusalsTest::bare;
    for (int what = 8; what <= 12; what++) {
      int each = what;
      refused("told(" + what + ")", m, null, x -> x.told(each), -2);
    }
    refused("find", m, null, x -> x.find(1), -2);
    refused("count", m, null, x -> x.count(1), -2);
    refused("ith", m, null, x -> x.ith(1, 0), -2);
    refused("different", m, null, x -> x.different(1), -2);
    refused("question", m, null, x -> x.question(1), -2);
    refused("cheaper", m, "up(1)", x -> x.cheaper(), -2);
    refused("cheaper, a parameter", m, "up(a)", x -> x.cheaper(), -12, 3);
    refused("sketch", m, "up(?)", x -> x.sketch(), -2);
    refused("sketch, a parameter", m, "add(?,a)", x -> x.sketch(), -12, 6);
    refused("sketch, four ?", m, "add(add(?,?),add(?,?))", x -> x.sketch(), -15, 19);
    refused("mend", m, "up(1)", x -> x.mend(1), -2);
    refused("mend, a parameter", m, "up(a)", x -> x.mend(1), -12, 3);
    refused("keep", m, null, x -> x.keep(), -2);
    refused("learn", m, "zz", x -> x.learn(), -2);
    refused("runs", m, null, x -> x.runs(0, 0), -2);
    refused("span", m, null, x -> x.span(0, 0), -2);
    refused("keeps", m, "true", x -> x.keeps(), -2);
    refused("keeps, a parameter", m, "same(a,1)", x -> x.keeps(), -12, 5);
    refused("keeps, another kind", m, "up(1)", x -> x.keeps(), -13, 0);
    refused("fit", m, null, x -> x.fit(), -2);
    refused("fitting", m, null, x -> x.fitting(1), -2);
    refused("apply", m, "abc", x -> x.apply(), -2);
    refused("part", m, null, x -> x.part(0, 0), -1);
    refused("state", m, null, x -> x.state(0, 0), -1);
    refused("step", m, null, x -> x.step(0), -1);
    refused("byteOf", m, null, x -> x.byteOf(0), -1);
    refused("answer", m, null, x -> x.answer(0), -2);
    refused("point", m, null, x -> x.point(0, 0), -2);
  }

  /** A house with 10 own acts, 12 kept terms that have a pattern, 8 word rows and 20 words. */
  private static House full() {
    House h = new House();
    for (int i = 0; i < 10; i++) {
      h.act("act o" + (char) ('a' + i) + " n->n=a");
    }
    h.ask("find n->n;use 1;");
    h.mend("add(1,add(1,a))", 1);
    for (int i = 0; i < 12; i++) {
      h.x.keep();
    }
    for (int i = 0; i < 8; i++) {
      h.example("a", "b");
    }
    for (int i = 0; i < 20; i++) {
      h.tape(Integer.toBinaryString(32 + i).substring(1).replace('0', 'a').replace('1', 'b'));
      h.x.word(true);
    }
    return h;
  }

  private static void dueFull(House h, String what) {
    int[] due = {10, 12, 8, 20, 50};
    for (int k = 0; k < due.length; k++) {
      House.due(what + ", told(" + k + ")", h.x.told(k), due[k]);
    }
    House.due(what + ", a kept term", h.kept(11), "add(1,add(1,a))");
    House.due(what + ", the tape is used up", h.x.told(7), 0);
  }

  private static void ofAFullHouse() {
    House h = full();
    dueFull(h, "full");
    House.due("keep", h.x.keep(), -3);
    dueFull(h, "keep");
    h.fault("act", h.act("act z n->n=a"), 5, 0);
    dueFull(h, "act");
    House.due("learn", h.learn("zz"), -3);
    dueFull(h, "learn");
    House.due("example", h.example("a", "b"), -3);
    dueFull(h, "example");
    House.due("word", h.word("b", true), -3);
    dueFull(h, "word");
    House.due("word, told otherwise", h.word("aaaaa", false), -2);
    House.due("word, as it is", h.word("aaaaa", true), 20);
    dueFull(h, "word");
    int bytes = h.x.told(5);
    House.due("blocks", h.x.sync(), (bytes + 120) / 121);
  }

  private static House narrow() {
    House h = new House();
    h.ask("find n t -> n; use add, mul, xor, if, 1, 2, 3, 5; row 3 true = 7;");
    h.mend("add(a,4)", 1);
    return h;
  }

  private static void ofAnAskWithoutRoom() {
    Maker m = RefusalsTest::narrow;
    refused("find", m, null, x -> x.find(12), -3);
    refused("count", m, null, x -> x.count(12), -3);
    refused("ith", m, null, x -> x.ith(12, 0), -3);
    refused("different", m, null, x -> x.different(12), -3);
    refused("question", m, null, x -> x.question(12), -3);
    refused("mend", m, "a", x -> x.mend(12), -3);
    refused("cheaper", m, "add(a,add(a,add(a,add(a,a))))", x -> x.cheaper(), -3);
  }

  private static House crowded() {
    House h = new House();
    h.example("", "q");
    h.x.fit();
    h.x.clear();
    String[][] rows = {{"aabaaab", "aaaaaaaaaa"}, {"baaaa", "aaaaaaaaa"}, {"baaaaa", "aaaaaaaaaa"}, {"aaaaaa", "aaaaaaaaa"}};
    for (String[] row : rows) {
      h.example(row[0], row[1]);
    }
    return h;
  }

  private static void ofRowsWithoutRoom() {
    Maker m = RefusalsTest::crowded;
    refused("fit", m, null, x -> x.fit(), -3);
    refused("fitting", m, null, x -> x.fitting(4), -3);
  }

  private static House heavy() {
    House h = new House();
    h.ask("find n -> n; use 1;");
    h.mend("add(add(add(add(a,a),add(a,a)),add(add(a,a),add(a,a))),add(add(add(a,a),add(a,a)),add(add(a,a),add(a,a))))", 1);
    return h;
  }

  private static void ofTermsThatCannotBeKept() {
    refused("keep, a SIZE of 31", RefusalsTest::heavy, null, x -> x.keep(), -2);
  }

  private static House down() {
    House h = rich();
    h.x.cut(0, 0);
    House.due("power goes", h.x.sync(), -4);
    return h;
  }

  /** Each call that names DOWN: it comes before all others, and changes nothing. */
  private static void byDown() {
    House one = down();
    House other = down();
    one.tape("1");
    other.tape("1");
    Calls x = one.x;
    long[] answers = {
      x.told(0), x.told(8), x.told(-1), x.ask(), x.act(), x.find(1), x.find(0), x.count(1), x.count(0), x.ith(1, 0), x.ith(1, -1), x.ith(0, 0),
      x.different(1), x.different(0), x.question(1), x.question(0), x.cheaper(), x.sketch(), x.mend(1), x.mend(0), x.value(), x.keep(),
      x.kept(0, -1), x.kept(-1, 0), x.learn(), x.own(0, -1), x.own(-1, 0), x.loop(), x.runs(0, 0), x.runs(-1, 0), x.span(0, 0), x.span(-1, 0),
      x.keeps(), x.example(0), x.example(-1), x.clear(), x.fit(), x.fitting(1), x.fitting(0), x.apply(), x.word(true), x.word(false), x.forget(),
      x.machine(), x.shortest(0, 5), x.shortest(0, 6), x.sync(), x.cut(-1, 0), x.cut(-2, 0)
    };
    for (int i = 0; i < answers.length; i++) {
      House.due("call " + i + " when DOWN", answers[i], -5);
    }
    House.due("place()", x.place(), other.x.place());
    House.due("mended()", x.mended(), other.x.mended());
    for (int i = -1; i < 7; i++) {
      House.due("byteOf()", x.byteOf(i), other.x.byteOf(i));
      House.due("answer()", x.answer(i), other.x.answer(i));
      House.due("point()", x.point(i, 0), other.x.point(i, 0));
      House.due("part()", x.part(0, i), other.x.part(0, i));
      House.due("state()", x.state(1, i), other.x.state(1, i));
      House.due("step()", x.step(i), other.x.step(i));
    }
    House.due("THE TERM when DOWN", one.term(), "up(a)");
    House.due("its answer when DOWN", x.answer(31), 0);
    House.due("a point when DOWN", x.point(31, 0), 15);
    House.due("a part when DOWN", x.part(0, 0), 1);
    House.due("a state when DOWN", x.state(1, 2), 1);
    House.due("a step when DOWN", x.step(0), 8);
    House.due("start", x.start(), other.x.start());
    House.due("the tape is there", x.told(7), 1);
    List<Long> first = picture(one);
    List<Long> second = picture(other);
    for (int i = 0; i < first.size() && i < second.size(); i++) {
      House.due("changes nothing, " + i, first.get(i), second.get(i));
    }
  }

  /** What reads the tape uses it up, but not when DOWN. */
  private static void tapeWhileDown() {
    List<ToLongFunction<Calls>> readers = List.of(Calls::ask, Calls::act, Calls::cheaper, Calls::sketch, x -> x.mend(1), x -> x.mend(0), Calls::value,
        Calls::learn, Calls::loop, Calls::keeps, x -> x.example(0), x -> x.example(-1), Calls::apply, x -> x.word(true));
    for (ToLongFunction<Calls> reader : readers) {
      House h = new House();
      h.tape("; ;");
      House.due("refused", reader.applyAsLong(h.x) < 0 ? 1 : 0, 1);
      House.due("it is used up", h.x.told(7), 0);
      Blocks.goDown(h);
      h.tape("; ;");
      House.due("DOWN", reader.applyAsLong(h.x), -5);
      h.x.start();
      House.due("it is not used up", h.x.told(7), 3);
    }
    List<ToLongFunction<Calls>> others = List.of(x -> x.told(0), x -> x.find(1), x -> x.count(1), x -> x.ith(1, 0), x -> x.different(1), x -> x.question(1),
        x -> x.keep(), x -> x.kept(0, 0), x -> x.own(0, 0), x -> x.runs(0, 0), x -> x.span(0, 0), Calls::clear, Calls::fit, x -> x.fitting(1),
        Calls::forget, Calls::machine, x -> x.shortest(0, 1), x -> x.goal(0, 1), Calls::sync, x -> x.cut(-1, 0), Calls::start, x -> x.octet(1, 0),
        x -> x.poke(1, 0, 0), x -> x.part(0, 0), x -> x.state(0, 0), x -> x.step(0), x -> x.byteOf(0), x -> x.answer(0), x -> x.point(0, 0),
        Calls::place, Calls::mended, Calls::worked);
    for (ToLongFunction<Calls> call : others) {
      House h = new House();
      h.tape("abc");
      call.applyAsLong(h.x);
      House.due("what does not read it leaves it", h.x.told(7), 3);
      House.due("and its bytes", h.x.example(2), 1);
    }
  }

  private static void exceptionsChangeNothing() {
    Maker m = RefusalsTest::rich;
    int[][] none = {{0, 0}, {201, 0}, {1, -1}, {1, 128}};
    for (int[] each : none) {
      refused("octet", m, null, x -> thrown(() -> x.octet(each[0], each[1])), 1);
      refused("poke", m, null, x -> thrown(() -> x.poke(each[0], each[1], 255)), 1);
    }
    refused("end", m, null, x -> thrown(() -> x.end(1)), 2);
    refused("end", m, null, x -> thrown(() -> x.end(-1)), 2);
    House h = rich();
    for (int i = 0; i < 100; i++) {
      h.x.feed(0x61616161, 0x61616161, 0x61616161, 0x61616161, 0x61616161);
    }
    House.due("feed", thrown(() -> h.x.feed(0, 0, 0, 0, 0)), 3);
    House.due("the tape is as it was", h.x.told(7), 2000);
    h.x.end(4);
    House.due("and its bytes", h.x.word(true), 4);
  }

  /** 1 IndexOutOfBoundsException, 2 IllegalArgumentException, 3 IllegalStateException, 0 nothing. */
  private static long thrown(Runnable call) {
    try {
      call.run();
      return 0;
    } catch (IndexOutOfBoundsException e) {
      return e.getClass() == IndexOutOfBoundsException.class ? 1 : -1;
    } catch (IllegalArgumentException e) {
      return e.getClass() == IllegalArgumentException.class ? 2 : -1;
    } catch (IllegalStateException e) {
      return e.getClass() == IllegalStateException.class ? 3 : -1;
    }
  }
}
