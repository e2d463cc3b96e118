/** Promises 43 to 47, and what lasts: sync, cut, start, octet, poke; records and blocks. */
public final class DiskTest {
  public static void main(String[] args) {
    bytes();
    records();
    longSync();
    power();
    powerLater();
    starting();
    whatStays();
    craftedRecords();
    restOfSync();
    rightBlocks();
    room();
    down();
    House.finish();
  }

  private static void bytes() {
    House h = new House();
    int thrown = 0;
    int[][] wrong = {{0, 0}, {201, 0}, {1, -1}, {1, 128}, {-1, 5}, {Integer.MAX_VALUE, 0}, {Integer.MIN_VALUE, Integer.MIN_VALUE}};
    for (int[] place : wrong) {
      try {
        h.x.octet(place[0], place[1]);
      } catch (IndexOutOfBoundsException e) {
        thrown++;
      }
      try {
        h.x.poke(place[0], place[1], 1);
      } catch (IndexOutOfBoundsException e) {
        thrown++;
      }
    }
    House.due("no such byte", thrown, 14);
    House.due("poke", h.x.poke(200, 127, 0x1ff), 255);
    House.due("poke again", h.x.poke(200, 127, 0x0f), 240);
    House.due("octet", h.x.octet(200, 127), 240);
    House.due("the one before", h.x.octet(200, 126), 0);
    House.due("the lowest byte of a mask", h.x.poke(1, 0, 256), 0);
    House.due("a mask below 0", h.x.poke(1, 0, -1), 255);
  }

  private static void records() {
    House h = new House();
    House.due("nothing waits", h.x.sync(), 0);
    String act = " act  up n -> n = add(a,01)\n";
    h.act(act);
    h.ask("find n t -> n; use add, 2; row 3 true = 5;");
    h.x.find(3);
    House.due("a term", h.term(), "add(a,2)");
    h.x.keep();
    h.word("ab", true);
    h.word("", false);
    h.example("abc", "c");
    h.x.forget();
    h.x.clear();
    byte[] all = Blocks.join(Blocks.record(1, act), Blocks.record(2, "\002ntadd(a,2)"), Blocks.record(4, "\001ab"), Blocks.record(4, "\000"),
        Blocks.record(6, "\003abcc"), Blocks.record(5, ""), Blocks.record(7, ""));
    House.due("records", h.x.told(4), 7);
    House.due("their bytes", h.x.told(5), all.length);
    House.due("blocks", h.x.sync(), 1);
    Blocks.dueBlock("a block", h, Blocks.block(1, 1, all, 0, all.length));
    House.due("used", h.x.told(6), 1);
    House.due("nothing waits now", h.x.told(4) + h.x.told(5), 0);
    h.word("bb", true);
    House.due("the next sync", h.x.sync(), 1);
    Blocks.dueBlock("behind it", h, Blocks.block(2, 1, Blocks.record(4, "\001bb"), 0, 6));
  }

  private static void longSync() {
    byte[] all = Blocks.record(1, Blocks.longAct("one", 2000));
    int[][] blocks = Blocks.sync(1, all);
    for (int first = 0; first < 17; first += 3) {
      House h = new House();
      h.act(Blocks.longAct("one", 2000));
      House.due("bytes that wait", h.x.told(5), 2003);
      House.due("blocks", h.x.sync(), 17);
      for (int k = first; k < first + 3 && k < 17; k++) {
        Blocks.dueBlock("block " + k, h, blocks[k]);
      }
    }
    House exact = new House();
    exact.act(Blocks.longAct("two", 118));
    House.due("just one block", exact.x.sync(), 1);
    Blocks.dueBlock("full", exact, Blocks.block(1, 1, Blocks.record(1, Blocks.longAct("two", 118)), 0, 121));
    exact.act(Blocks.longAct("three", 119));
    House.due("one byte more", exact.x.sync(), 2);
    byte[] three = Blocks.record(1, Blocks.longAct("three", 119));
    Blocks.dueBlock("full", exact, Blocks.block(2, 0, three, 0, 121));
    Blocks.dueBlock("one byte", exact, Blocks.block(3, 1, three, 121, 1));
  }

  private static void power() {
    for (int tear : new int[] {0, 1, 2, 3, 60, 127}) {
      House h = new House();
      for (int i = 0; i < 128; i++) {
        h.x.poke(1, i, 170);
      }
      House.due("power is set to go", h.x.cut(0, tear), 1);
      h.word("ab", true);
      House.due("it goes", h.x.sync(), FinderHouse.LOST);
      int[] block = Blocks.block(1, 1, Blocks.record(4, "\001ab"), 0, 6);
      for (int i = 0; i < 128; i++) {
        House.due("torn at " + tear + ", byte " + i, h.x.octet(1, i), i == 1 ? 2 : i < tear ? block[i] : 170);
      }
      House.due("DOWN", h.x.told(0), FinderHouse.DOWN);
      House.due("no record came", h.x.start(), 0);
      House.due("no words", h.x.told(3), 0);
      House.due("no block is used", h.x.told(6), 0);
      h.word("ab", true);
      House.due("power stays now", h.x.sync(), 1);
      Blocks.dueBlock("whole", h, block);
    }
    House h = new House();
    House.due("n below -1", h.x.cut(-2, 0), -1);
    House.due("n above 400", h.x.cut(401, 0), -1);
    House.due("tear below 0", h.x.cut(0, -1), -1);
    House.due("tear above 127", h.x.cut(-1, 128), -1);
    House.due("the greatest", h.x.cut(400, 127), 1);
    House.due("the least", h.x.cut(-1, 0), 1);
  }

  private static void powerLater() {
    House h = new House();
    h.x.cut(2, 50);
    h.word("a", true);
    House.due("block 0 is written", h.x.sync(), 1);
    House.due("no block is none", h.x.sync(), 0);
    h.act(Blocks.longAct("long", 300));
    House.due("block 2 is not", h.x.sync(), FinderHouse.LOST);
    byte[] all = Blocks.record(1, Blocks.longAct("long", 300));
    Blocks.dueBlock("block 1 is", h, Blocks.block(2, 0, all, 0, 121));
    House.due("the torn one", h.x.octet(3, 1), 2);
    House.due("its first bytes", h.x.octet(3, 3), all[121]);
    House.due("start: the word", h.x.start(), 1);
    House.due("words", h.x.told(3), 1);
    House.due("own acts", h.x.told(0), 0);
    House.due("used: whole syncs alone", h.x.told(6), 1);
    h.x.cut(0, 0);
    h.x.cut(-1, 0);
    h.word("b", true);
    House.due("power stays", h.x.sync(), 1);
    h.x.cut(1, 9);
    h.x.cut(0, 0);
    h.word("bb", true);
    House.due("the latest cut counts", h.x.sync(), FinderHouse.LOST);
    House.due("nothing of it is new", h.x.octet(3, 0), 3);
  }

  private static void starting() {
    House h = new House();
    h.act("act up n -> n = add(a,1)");
    h.ask("find n -> n; use up, 1; row 3 = 5;");
    h.x.find(3);
    House.due("the term", h.term(), "up(up(a))");
    h.x.keep();
    h.mend("add(mul(up(a),2),2)", 1);
    h.ask("find n -> n; use 1;");
    h.mend("add(mul(up(a),2),2)", 1);
    h.x.keep();
    h.mend("add(mul(1,2),2)", 1);
    h.x.keep();
    h.mend("sub(add(mul(a,2),2),add(mul(7,2),2))", 1);
    h.x.keep();
    h.x.sync();
    House.due("learnt", h.learn("ev"), 3 + 6 + 5 + 11 - (3 + 3 + 2 + 5) - 5);
    h.example("abc", "b");
    h.word("ab", false);
    h.word("ba", true);
    h.x.sync();
    String[] kept = {h.kept(0), h.kept(1), h.kept(2), h.kept(3)};
    House.due("in its place", kept[3], "sub(ev(a),ev(7))");
    h.example("lost", "t");
    Blocks.goDown(h);
    House.due("all that was written is done again", h.x.start(), 1 + 4 + 1 + 1 + 2);
    for (int k = 0; k < 4; k++) {
      House.due("kept " + k, h.kept(k), kept[k]);
    }
    House.due("own acts", h.x.told(0), 2);
    House.due("up", h.own(0), "add(a,1)");
    House.due("ev", h.own(1), "add(mul(a,2),2)");
    House.due("word rows", h.x.told(2), 1);
    House.due("words", h.x.told(3), 2);
    House.due("used", h.x.told(6), 3);
    House.due("told as it was", h.word("ab", true), -2);
    House.due("it goes on", h.value("ev(up(2))"), 8);
  }

  private static void whatStays() {
    House h = new House();
    h.word("a", true);
    h.word("", false);
    House.due("machine", h.x.machine(), 2);
    House.due("shortest", h.x.shortest(h.x.goal(8, 1), 2), 1);
    h.example("ab", "b");
    House.due("fit", h.x.fit(), 2);
    h.ask("find n -> n; use 1; row 3 = 5;");
    h.mend("add(a,3)", 1);
    House.due("mend", h.mend("add(2,7)", 1), 1);
    h.x.sketch();
    h.fault("a fault", h.value("add(1,foo)"), 2, 6);
    h.value("add(1,add(1,1))");
    h.loop("loop n from a while false do a give a");
    Blocks.goDown(h);
    int place = h.x.place();
    House.due("THE TERM while DOWN", h.term().isEmpty() ? 0 : 1, 1);
    House.due("its answers while DOWN", h.x.answer(0) != -2 ? 1 : 0, 1);
    House.due("points while DOWN", h.x.point(3, 0), 3);
    h.tape("xyz");
    House.due("start", h.x.start(), 0);
    House.due("the tape stays", h.x.told(7), 3);
    House.due("the latest fault's place stays", h.x.place(), place);
    House.due("no ask", h.x.find(1), -2);
    House.due("no ask to tell of", h.x.told(8), -2);
    House.due("no loop", h.x.runs(0, 0), -2);
    House.due("no TERM", h.x.byteOf(0), -1);
    House.due("no answers", h.x.answer(0), -2);
    House.due("no points", h.x.point(0, 0), -2);
    House.due("no TERM to keep", h.x.keep(), -2);
    House.due("what machine() found", h.x.state(1, 2), 1);
    House.due("what shortest() found", h.x.step(0), 8);
    House.due("what fit() found", h.x.part(0, 0), 1);
    House.due("worked()", h.x.worked(), 2);
    House.due("records", h.x.told(4) + h.x.told(5), 0);
  }

  /** How many records are done again of one sync. */
  private static House started(String what, int due, byte[]... records) {
    House h = Blocks.withSync(records);
    House.due(what, h.x.start(), due);
    return h;
  }

  private static void craftedRecords() {
    House h = started("a record that is refused is passed over", 2,
        Blocks.record(1, "act up n -> n = add(a,1)"), Blocks.record(1, "act up n -> n = a"), Blocks.record(4, "\001a"));
    House.due("its own acts", h.x.told(0) * 10 + h.x.told(3), 11);
    House.due("no fault is told", h.x.place(), -1);
    h = started("words: told as it is, otherwise, too long, another number, none", 2,
        Blocks.record(4, "\001ab"), Blocks.record(4, "\001ab"), Blocks.record(4, "\000ab"), Blocks.record(4, "\001aaaaaaaaa"),
        Blocks.record(4, "\002b"), Blocks.record(4, ""));
    House.due("one word", h.x.told(3), 1);
    h = started("5 and 7 have no bytes, but may change nothing", 3,
        Blocks.record(5, ""), Blocks.record(7, ""), Blocks.record(4, "\001b"), Blocks.record(5, "x"), Blocks.record(7, "x"));
    House.due("the word stays", h.x.told(3), 1);
    h = started("a record without bytes at the end", 2, Blocks.record(4, "\001b"), Blocks.record(5, ""));
    House.due("no word stays", h.x.told(3), 0);
    h = started("rows: good, no OUT, a long IN, more than there is, a wrong letter, none", 1,
        Blocks.record(6, "\001ab"), Blocks.record(6, "\002ab"), Blocks.record(6, "\013abcdefghijkl"), Blocks.record(6, "\004ab"),
        Blocks.record(6, "\001aB"), Blocks.record(6, ""));
    House.due("one row", h.x.told(2), 1);
    h = started("terms: good, blanks, no number, four, another kind, too short, a fault", 2,
        Blocks.record(2, "\002nsadd(a,len(b))"), Blocks.record(2, "\001n add( a, 01)"), Blocks.record(2, "\000add(1,1)"),
        Blocks.record(2, "\004nnnna"), Blocks.record(2, "\001xa"), Blocks.record(2, "\003nn"), Blocks.record(2, "\001nb"));
    House.due("as a text of the fewest bytes", h.kept(1), "add(a,1)");
    h = started("terms of all kinds, and of three parameters", 4,
        Blocks.record(2, "\003tnsnot(a)"), Blocks.record(2, "\001srev(a)"), Blocks.record(2, "\003nnsadd(b,len(c))"),
        Blocks.record(2, "\001n5"), Blocks.record(2, "\001n"));
    House.due("kept", h.kept(0) + h.kept(1) + h.kept(2) + h.kept(3), "not(a)rev(a)add(b,len(c))5");
    started("names: nothing is kept, no name", 0, Blocks.record(3, "abc"), Blocks.record(3, ""));
    String size = "add(a,".repeat(7) + "a" + ")".repeat(7);
    h = started("a term of 31 and one of 29", 1, Blocks.record(2, "\001nadd(" + size + "," + size + ")"),
        Blocks.record(2, "\001nadd(" + size + ",add(1,add(a,add(2,add(a,add(3,add(4,a)))))))"));
    House.due("one is kept", h.x.told(1), 1);
    started("a term of 30", 1,
        Blocks.record(2, "\001nnot(same(" + size + "," + size.substring(6, size.length() - 1) + "))"));
  }

  private static void restOfSync() {
    started("behind another number the rest is passed over", 1,
        Blocks.record(4, "\001a"), Blocks.record(8, ""), Blocks.record(4, "\001b"));
    started("0 is another number", 1, Blocks.record(4, "\001a"), Blocks.record(0, ""), Blocks.record(4, "\001b"));
    started("255, too", 0, Blocks.record(255, ""), Blocks.record(4, "\001b"));
    started("what goes beyond its sync's bytes", 1,
        Blocks.record(4, "\001a"), new byte[] {4, 0, 9, 1, 'b'}, Blocks.record(4, "\001b"));
    started("an end within a record's first bytes", 1, Blocks.record(4, "\001a"), new byte[] {5, 0});
    House h = new House();
    Blocks.goDown(h);
    Blocks.write(h, Blocks.block(1, 1, Blocks.record(9, ""), 0, 3));
    Blocks.write(h, Blocks.block(2, 1, Blocks.record(4, "\001b"), 0, 5));
    House.due("the next sync is done", h.x.start(), 1);
    House.due("both are used", h.x.told(6), 2);
  }

  private static void rightBlocks() {
    int[][] pokes = {{0, 1}, {1, 2}, {1, 3}, {2, 1}, {5, 16}, {123, 1}, {124, 1}, {127, 128}};
    for (int[] poke : pokes) {
      House h = new House();
      h.word("a", true);
      h.x.sync();
      h.word("b", true);
      h.x.sync();
      h.word("ab", true);
      h.x.sync();
      h.x.poke(2, poke[0], poke[1]);
      House.due("used blocks are not looked at before start", h.x.told(6), 3);
      Blocks.goDown(h);
      House.due("as far as each is right: byte " + poke[0], h.x.start(), 1);
      House.due("used", h.x.told(6), 1);
      h.word("bb", false);
      House.due("the next sync is behind those", h.x.sync(), 1);
      Blocks.dueBlock("it is there", h, Blocks.block(2, 1, Blocks.record(4, "\000bb"), 0, 6));
      Blocks.goDown(h);
      h.x.poke(3, 1, 2 ^ 1);
      House.due("block 3 is right, too", h.x.start(), 3);
    }
  }

  /** What can be recorded: its number, and how many bytes its record has. */
  private static final int[][] RECORDS = {{1, 3 + 18}, {2, 3 + 1 + 1 + 8}, {3, 3 + 4}, {4, 3 + 1 + 8}, {5, 3}, {6, 3 + 1 + 20}, {7, 3}};

  private static int call(House h, int number) {
    switch (number) {
      case 1: return h.act("act last n -> n =1");
      case 2: return h.x.keep();
      case 3: return h.learn("last");
      case 4: return h.word("bbbbbbbb", true);
      case 5: return h.x.forget();
      case 6: return h.example("abcdefghij", "klmnopqrst");
      default: return h.x.clear();
    }
  }

  /** A house whose last block is left, with a record that waits for all of it but so many bytes. */
  private static House almostFull(int left) {
    House h = new House();
    h.ask("find n -> n; use 1;");
    h.mend("add(1,add(1,add(1,add(1,a))))", 1);
    h.x.keep();
    h.mend("add(a,1)", 1);
    h.example("a", "a");
    h.x.end(0);
    for (int i = 0; i < 199; i++) {
      House.due("a block each", (i % 2 == 0 ? h.x.word(true) : h.x.forget()) >= 0 ? h.x.sync() : -1, 1);
    }
    House.due("a record that leaves so much", h.act(Blocks.longAct("wide", 121 - 3 - left)), 1);
    House.due("bytes that wait", h.x.told(5), 121 - left);
    return h;
  }

  private static void room() {
    for (int[] each : RECORDS) {
      House fits = almostFull(each[1]);
      House.due("record " + each[0] + " fits", call(fits, each[0]) >= 0 ? 1 : 0, 1);
      House.due("record " + each[0] + " fills the block", fits.x.told(5), 121);
      House.due("nothing more waits", call(fits, 2), FinderHouse.ROOM);
      House.due("the last block", fits.x.sync(), 1);
      House.due("all are used", fits.x.told(6), 200);
      House.due("nothing can wait", call(fits, 6), FinderHouse.ROOM);
      House.due("sync of nothing", fits.x.sync(), 0);
      House full = almostFull(each[1] - 1);
      int[] before = new int[6];
      for (int what = 0; what < 6; what++) {
        before[what] = full.x.told(what);
      }
      House.due("record " + each[0] + " has no room", call(full, each[0]), FinderHouse.ROOM);
      for (int what = 0; what < 6; what++) {
        House.due("what is refused changes nothing", full.x.told(what), before[what]);
      }
      House.due("the kept term is as it was", full.kept(0), "add(1,add(1,add(1,add(1,a))))");
      House.due("the tape is used up", full.x.told(7), 0);
    }
    House h = almostFull(0);
    House.due("a fault comes before ROOM", h.act("act add n -> n =1"), -12);
    House.due("so does NONE", h.learn("add"), -1);
    House.due("and STATE", h.word("", false), -2);
    House.due("a word that is told as it is", h.word("", true), 1);
  }

  private static void down() {
    House h = new House();
    h.ask("find n -> n; use add, 1; row 3 = 5;");
    h.x.find(5);
    h.word("a", true);
    h.x.sync();
    Blocks.goDown(h);
    h.tape("add(1,1)");
    Calls x = h.x;
    long[] answers = {
      x.told(0), x.told(99), x.ask(), x.act(), x.find(1), x.find(99), x.count(1), x.count(0), x.ith(1, 0), x.different(1),
      x.question(1), x.cheaper(), x.sketch(), x.mend(1), x.mend(0), x.value(), x.keep(), x.kept(0, -1), x.kept(-7, 0),
      x.learn(), x.own(0, -1), x.loop(), x.runs(0, 0), x.span(0, 0), x.keeps(), x.example(1), x.example(-1), x.clear(),
      x.fit(), x.fitting(1), x.fitting(0), x.apply(), x.word(true), x.forget(), x.machine(), x.shortest(0, 1), x.shortest(0, 9),
      x.sync(), x.cut(0, 0), x.cut(-5, 0)
    };
    for (int i = 0; i < answers.length; i++) {
      House.due("call " + i + " while DOWN", answers[i], FinderHouse.DOWN);
    }
    House.due("the tape was not used up", x.feed(0, 0, 0, 0, 0), 28);
    x.end(8);
    House.due("place()", x.place(), -1);
    House.due("mended()", x.mended(), -1);
    House.due("worked()", x.worked(), 0);
    House.due("byteOf()", x.byteOf(0), 'a');
    House.due("answer()", x.answer(3), 5);
    House.due("point()", x.point(3, 0), 3);
    House.due("part()", x.part(0, 0), -1);
    House.due("state()", x.state(0, 0), -1);
    House.due("step()", x.step(0), -1);
    House.due("goal()", x.goal(10, 1), 0);
    House.due("octet()", x.octet(1, 0), 1);
    House.due("poke()", x.poke(5, 5, 5), 5);
    House.due("start()", x.start(), 1);
    House.due("the tape is there", x.value(), 2);
    House.due("start() again", x.start(), FinderHouse.STATE);
  }
}
