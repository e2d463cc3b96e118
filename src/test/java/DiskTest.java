import java.nio.charset.StandardCharsets;

/** Promises 43 to 47, and what lasts: sync, cut, start, octet, poke; records and blocks. */
public final class DiskTest {
  public static void main(String[] args) {
    bytes();
    records();
    longSync();
    power();
    powerLater();
    starting();
    whatStays();
    craftedRecords();
    restOfSync();
    rightBlocks();
    room();
    down();
    House.finish();
  }

  private static int sum(int[] block) {
    int s = 0;
    for (int i = 0; i < 124; i++) {
      s = Integer.rotateLeft(s ^ block[i], 5) * 0x9E3779B1;
    }
    return s;
  }

  /** A block as a sync writes it. */
  private static int[] block(int number, int last, byte[] content, int from, int size) {
    int[] block = new int[128];
    block[0] = number;
    block[1] = last;
    block[2] = size;
    for (int i = 0; i < size; i++) {
      block[3 + i] = content[from + i] & 255;
    }
    int s = sum(block);
    for (int i = 0; i < 4; i++) {
      block[124 + i] = s >>> 24 - 8 * i & 255;
    }
    return block;
  }

  private static void dueBlock(String what, House h, int[] block) {
    for (int i = 0; i < 128; i++) {
      House.due(what + ", byte " + i, h.x.octet(block[0], i), block[i]);
    }
  }

  private static byte[] record(int number, String bytes) {
    byte[] text = bytes.getBytes(StandardCharsets.ISO_8859_1);
    byte[] record = new byte[3 + text.length];
    record[0] = (byte) number;
    record[1] = (byte) (text.length >> 8);
    record[2] = (byte) text.length;
    System.arraycopy(text, 0, record, 3, text.length);
    return record;
  }

  private static byte[] join(byte[]... parts) {
    int size = 0;
    for (byte[] part : parts) {
      size += part.length;
    }
    byte[] all = new byte[size];
    int at = 0;
    for (byte[] part : parts) {
      System.arraycopy(part, 0, all, at, part.length);
      at += part.length;
    }
    return all;
  }

  private static void bytes() {
    House h = new House();
    int thrown = 0;
    int[][] wrong = {{0, 0}, {201, 0}, {1, -1}, {1, 128}, {-1, 5}, {Integer.MAX_VALUE, 0}, {Integer.MIN_VALUE, Integer.MIN_VALUE}};
    for (int[] place : wrong) {
      try {
        h.x.octet(place[0], place[1]);
      } catch (IndexOutOfBoundsException e) {
        thrown++;
      }
      try {
        h.x.poke(place[0], place[1], 1);
      } catch (IndexOutOfBoundsException e) {
        thrown++;
      }
    }
    House.due("no such byte", thrown, 14);
    House.due("poke", h.x.poke(200, 127, 0x1ff), 255);
    House.due("poke again", h.x.poke(200, 127, 0x0f), 240);
    House.due("octet", h.x.octet(200, 127), 240);
    House.due("the one before", h.x.octet(200, 126), 0);
    House.due("the lowest byte of a mask", h.x.poke(1, 0, 256), 0);
    House.due("a mask below 0", h.x.poke(1, 0, -1), 255);
  }

  private static void records() {
    House h = new House();
    House.due("nothing waits", h.x.sync(), 0);
    String act = " act  up n -> n = add(a,01)\n";
    h.act(act);
    h.ask("find n t -> n; use add, 2; row 3 true = 5;");
    h.x.find(3);
    House.due("a term", h.term(), "add(a,2)");
    h.x.keep();
    h.word("ab", true);
    h.word("", false);
    h.example("abc", "c");
    h.x.forget();
    h.x.clear();
    byte[] all = join(record(1, act), record(2, "\002ntadd(a,2)"), record(4, "\001ab"), record(4, "\000"),
        record(6, "\003abcc"), record(5, ""), record(7, ""));
    House.due("records", h.x.told(4), 7);
    House.due("their bytes", h.x.told(5), all.length);
    House.due("blocks", h.x.sync(), 1);
    dueBlock("a block", h, block(1, 1, all, 0, all.length));
    House.due("used", h.x.told(6), 1);
    House.due("nothing waits now", h.x.told(4) + h.x.told(5), 0);
    h.word("bb", true);
    House.due("the next sync", h.x.sync(), 1);
    dueBlock("behind it", h, block(2, 1, record(4, "\001bb"), 0, 6));
  }

  private static String longAct(String name, int size) {
    String head = "act " + name + " n -> n =";
    return head + " ".repeat(size - head.length() - 1) + "a";
  }

  private static void longSync() {
    House h = new House();
    h.act(longAct("one", 2000));
    byte[] all = record(1, longAct("one", 2000));
    House.due("bytes that wait", h.x.told(5), 2003);
    House.due("blocks", h.x.sync(), 17);
    for (int k = 0; k < 17; k++) {
      int size = Math.min(121, 2003 - 121 * k);
      dueBlock("block " + k, h, block(k + 1, k == 16 ? 1 : 0, all, 121 * k, size));
    }
    House exact = new House();
    exact.act(longAct("two", 118));
    House.due("just one block", exact.x.sync(), 1);
    dueBlock("full", exact, block(1, 1, record(1, longAct("two", 118)), 0, 121));
    exact.act(longAct("three", 119));
    House.due("one byte more", exact.x.sync(), 2);
    byte[] three = record(1, longAct("three", 119));
    dueBlock("full", exact, block(2, 0, three, 0, 121));
    dueBlock("one byte", exact, block(3, 1, three, 121, 1));
  }

  private static void power() {
    for (int tear : new int[] {0, 1, 2, 3, 60, 127}) {
      House h = new House();
      for (int i = 0; i < 128; i++) {
        h.x.poke(1, i, 170);
      }
      House.due("power is set to go", h.x.cut(0, tear), 1);
      h.word("ab", true);
      House.due("it goes", h.x.sync(), FinderHouse.LOST);
      int[] block = block(1, 1, record(4, "\001ab"), 0, 6);
      for (int i = 0; i < 128; i++) {
        House.due("torn at " + tear + ", byte " + i, h.x.octet(1, i), i == 1 ? 2 : i < tear ? block[i] : 170);
      }
      House.due("DOWN", h.x.told(0), FinderHouse.DOWN);
      House.due("no record came", h.x.start(), 0);
      House.due("no words", h.x.told(3), 0);
      House.due("no block is used", h.x.told(6), 0);
      h.word("ab", true);
      House.due("power stays now", h.x.sync(), 1);
      dueBlock("whole", h, block);
    }
    House h = new House();
    House.due("n below -1", h.x.cut(-2, 0), -1);
    House.due("n above 400", h.x.cut(401, 0), -1);
    House.due("tear below 0", h.x.cut(0, -1), -1);
    House.due("tear above 127", h.x.cut(-1, 128), -1);
    House.due("the greatest", h.x.cut(400, 127), 1);
    House.due("the least", h.x.cut(-1, 0), 1);
  }

  private static void powerLater() {
    House h = new House();
    h.x.cut(2, 50);
    h.word("a", true);
    House.due("block 0 is written", h.x.sync(), 1);
    House.due("no block is none", h.x.sync(), 0);
    h.act(longAct("long", 300));
    House.due("block 2 is not", h.x.sync(), FinderHouse.LOST);
    byte[] all = record(1, longAct("long", 300));
    dueBlock("block 1 is", h, block(2, 0, all, 0, 121));
    House.due("the torn one", h.x.octet(3, 1), 2);
    House.due("its first bytes", h.x.octet(3, 3), all[121]);
    House.due("start: the word", h.x.start(), 1);
    House.due("words", h.x.told(3), 1);
    House.due("own acts", h.x.told(0), 0);
    House.due("used: whole syncs alone", h.x.told(6), 1);
    h.x.cut(0, 0);
    h.x.cut(-1, 0);
    h.word("b", true);
    House.due("power stays", h.x.sync(), 1);
    h.x.cut(1, 9);
    h.x.cut(0, 0);
    h.word("bb", true);
    House.due("the latest cut counts", h.x.sync(), FinderHouse.LOST);
    House.due("nothing of it is new", h.x.octet(3, 0), 3);
  }

  /** Makes a house DOWN by a record that is lost. */
  private static void goDown(House h) {
    h.x.cut(0, 0);
    h.tape("abababab");
    h.x.word(true);
    h.x.forget();
    House.due("power goes", h.x.sync(), FinderHouse.LOST);
  }

  private static void starting() {
    House h = new House();
    h.act("act up n -> n = add(a,1)");
    h.ask("find n -> n; use up, 1; row 3 = 5;");
    h.x.find(3);
    House.due("the term", h.term(), "up(up(a))");
    h.x.keep();
    h.mend("add(mul(up(a),2),2)", 1);
    h.ask("find n -> n; use 1;");
    h.mend("add(mul(up(a),2),2)", 1);
    h.x.keep();
    h.mend("add(mul(1,2),2)", 1);
    h.x.keep();
    h.mend("sub(add(mul(a,2),2),add(mul(7,2),2))", 1);
    h.x.keep();
    h.x.sync();
    House.due("learnt", h.learn("ev"), 3 + 6 + 5 + 11 - (3 + 3 + 2 + 5) - 5);
    h.example("abc", "b");
    h.word("ab", false);
    h.word("ba", true);
    h.x.sync();
    String[] kept = {h.kept(0), h.kept(1), h.kept(2), h.kept(3)};
    House.due("in its place", kept[3], "sub(ev(a),ev(7))");
    h.example("lost", "t");
    goDown(h);
    House.due("all that was written is done again", h.x.start(), 1 + 4 + 1 + 1 + 2);
    for (int k = 0; k < 4; k++) {
      House.due("kept " + k, h.kept(k), kept[k]);
    }
    House.due("own acts", h.x.told(0), 2);
    House.due("up", h.own(0), "add(a,1)");
    House.due("ev", h.own(1), "add(mul(a,2),2)");
    House.due("word rows", h.x.told(2), 1);
    House.due("words", h.x.told(3), 2);
    House.due("used", h.x.told(6), 3);
    House.due("told as it was", h.word("ab", true), -2);
    House.due("it goes on", h.value("ev(up(2))"), 8);
  }

  private static void whatStays() {
    House h = new House();
    h.word("a", true);
    h.word("", false);
    House.due("machine", h.x.machine(), 2);
    House.due("shortest", h.x.shortest(h.x.goal(8, 1), 2), 1);
    h.example("ab", "b");
    House.due("fit", h.x.fit(), 2);
    h.ask("find n -> n; use 1; row 3 = 5;");
    h.mend("add(a,3)", 1);
    House.due("mend", h.mend("add(2,7)", 1), 1);
    h.x.sketch();
    h.fault("a fault", h.value("add(1,foo)"), 2, 6);
    h.value("add(1,add(1,1))");
    h.loop("loop n from a while false do a give a");
    goDown(h);
    int place = h.x.place();
    House.due("THE TERM while DOWN", h.term().isEmpty() ? 0 : 1, 1);
    House.due("its answers while DOWN", h.x.answer(0) != -2 ? 1 : 0, 1);
    House.due("points while DOWN", h.x.point(3, 0), 3);
    h.tape("xyz");
    House.due("start", h.x.start(), 0);
    House.due("the tape stays", h.x.told(7), 3);
    House.due("the latest fault's place stays", h.x.place(), place);
    House.due("no ask", h.x.find(1), -2);
    House.due("no ask to tell of", h.x.told(8), -2);
    House.due("no loop", h.x.runs(0, 0), -2);
    House.due("no TERM", h.x.byteOf(0), -1);
    House.due("no answers", h.x.answer(0), -2);
    House.due("no points", h.x.point(0, 0), -2);
    House.due("no TERM to keep", h.x.keep(), -2);
    House.due("what machine() found", h.x.state(1, 2), 1);
    House.due("what shortest() found", h.x.step(0), 8);
    House.due("what fit() found", h.x.part(0, 0), 1);
    House.due("worked()", h.x.worked(), 2);
    House.due("records", h.x.told(4) + h.x.told(5), 0);
  }

  /** Writes records on the disk by hand, as one sync from block 1 on, and starts. */
  private static int startWith(House h, byte[]... parts) {
    if (h.x.told(0) != FinderHouse.DOWN) {
      goDown(h);
    }
    byte[] all = join(parts);
    int many = (all.length + 120) / 121;
    for (int k = 0; k < many; k++) {
      write(h, block(k + 1, k == many - 1 ? 1 : 0, all, 121 * k, Math.min(121, all.length - 121 * k)));
    }
    return h.x.start();
  }

  private static void write(House h, int[] block) {
    for (int i = 0; i < 128; i++) {
      h.x.poke(block[0], i, h.x.octet(block[0], i) ^ block[i]);
    }
  }

  private static void craftedRecords() {
    House h = new House();
    House.due("a record that is refused is passed over",
        startWith(h, record(1, "act up n -> n = add(a,1)"), record(1, "act up n -> n = a"), record(4, "\001a")), 2);
    House.due("its own acts", h.x.told(0) * 10 + h.x.told(3), 11);
    House.due("no fault is told", h.x.place(), -1);
    h = new House();
    House.due("words: told as it is, otherwise, too long, another number, none",
        startWith(h, record(4, "\001ab"), record(4, "\001ab"), record(4, "\000ab"), record(4, "\001aaaaaaaaa"), record(4, "\002b"), record(4, "")), 2);
    House.due("one word", h.x.told(3), 1);
    h = new House();
    House.due("5 and 7 have no bytes, but may change nothing",
        startWith(h, record(5, ""), record(7, ""), record(4, "\001b"), record(5, "x"), record(7, "x")), 3);
    House.due("the word stays", h.x.told(3), 1);
    h = new House();
    House.due("a record without bytes at the end", startWith(h, record(4, "\001b"), record(5, "")), 2);
    House.due("no word stays", h.x.told(3), 0);
    h = new House();
    House.due("rows: good, no OUT, a long IN, more than there is, a wrong letter, none",
        startWith(h, record(6, "\001ab"), record(6, "\002ab"), record(6, "\013abcdefghijkl"), record(6, "\004ab"), record(6, "\001aB"), record(6, "")), 1);
    House.due("one row", h.x.told(2), 1);
    h = new House();
    House.due("terms: good, blanks, no number, four, another kind, too short, a fault",
        startWith(h, record(2, "\002nsadd(a,len(b))"), record(2, "\001n add( a, 01)"), record(2, "\000add(1,1)"), record(2, "\004nnnna"),
            record(2, "\001xa"), record(2, "\003nn"), record(2, "\001nb")), 2);
    House.due("as a text of the fewest bytes", h.kept(1), "add(a,1)");
    h = new House();
    House.due("terms of all kinds, and of three parameters",
        startWith(h, record(2, "\003tnsnot(a)"), record(2, "\001srev(a)"), record(2, "\003nnsadd(b,len(c))"), record(2, "\001n5"), record(2, "\001n")), 4);
    House.due("kept", h.kept(0) + h.kept(1) + h.kept(2) + h.kept(3), "not(a)rev(a)add(b,len(c))5");
    h = new House();
    House.due("names: nothing is kept, no name", startWith(h, record(3, "abc"), record(3, "")), 0);
    h = new House();
    String size = "add(a,".repeat(7) + "a" + ")".repeat(7);
    House.due("a term of 31 and one of 29",
        startWith(h, record(2, "\001nadd(" + size + "," + size + ")"), record(2, "\001nadd(" + size + ",add(1,add(a,add(2,add(a,add(3,add(4,a)))))))")), 1);
    House.due("one is kept", h.x.told(1), 1);
    h = new House();
    House.due("a term of 30", startWith(h, record(2, "\001nnot(same(" + size + "," + size.substring(6, size.length() - 1) + "))")), 1);
    h = new House();
    House.due("2000 bytes are as told", startWith(h, record(1, longAct("fits", 2000))), 1);
    h = new House();
    House.due("2001 are not", startWith(h, record(1, longAct("fits", 2001)), record(4, "\001")), 1);
    House.due("no act", h.x.told(0) * 10 + h.x.told(3), 1);
    h = new House();
    House.due("nor of a kept term", startWith(h, record(2, "\001na" + " ".repeat(1998)), record(4, "\001")), 1);
    h = new House();
    House.due("2000 are", startWith(h, record(2, "\001na" + " ".repeat(1997)), record(4, "\001")), 2);
  }

  private static void restOfSync() {
    House h = new House();
    House.due("behind another number the rest is passed over",
        startWith(h, record(4, "\001a"), record(8, ""), record(4, "\001b")), 1);
    h = new House();
    House.due("0 is another number", startWith(h, record(4, "\001a"), record(0, ""), record(4, "\001b")), 1);
    h = new House();
    House.due("255, too", startWith(h, record(255, ""), record(4, "\001b")), 0);
    h = new House();
    House.due("what goes beyond its sync's bytes",
        startWith(h, record(4, "\001a"), new byte[] {4, 0, 9, 1, 'b'}, record(4, "\001b")), 1);
    h = new House();
    House.due("an end within a record's first bytes", startWith(h, record(4, "\001a"), new byte[] {5, 0}), 1);
    h = new House();
    goDown(h);
    write(h, block(1, 1, record(9, ""), 0, 3));
    write(h, block(2, 1, record(4, "\001b"), 0, 5));
    House.due("the next sync is done", h.x.start(), 1);
    House.due("both are used", h.x.told(6), 2);
  }

  private static void rightBlocks() {
    int[][] pokes = {{0, 1}, {1, 2}, {1, 3}, {2, 1}, {5, 16}, {123, 1}, {124, 1}, {127, 128}};
    for (int[] poke : pokes) {
      House h = new House();
      h.word("a", true);
      h.x.sync();
      h.word("b", true);
      h.x.sync();
      h.word("ab", true);
      h.x.sync();
      h.x.poke(2, poke[0], poke[1]);
      House.due("used blocks are not looked at before start", h.x.told(6), 3);
      goDown(h);
      House.due("as far as each is right: byte " + poke[0], h.x.start(), 1);
      House.due("used", h.x.told(6), 1);
      h.word("bb", false);
      House.due("the next sync is behind those", h.x.sync(), 1);
      dueBlock("it is there", h, block(2, 1, record(4, "\000bb"), 0, 6));
      goDown(h);
      h.x.poke(3, 1, 2 ^ 1);
      House.due("block 3 is right, too", h.x.start(), 3);
    }
    House h = new House();
    goDown(h);
    byte[] full = record(1, longAct("full", 118));
    write(h, block(1, 0, full, 0, 121));
    House.due("no last block", h.x.start(), 0);
    House.due("none is used", h.x.told(6), 0);
    goDown(h);
    write(h, block(1, 0, full, 0, 120));
    write(h, block(2, 1, record(4, "\001b"), 0, 5));
    House.due("120 bytes in a block that is not the last", h.x.start(), 0);
    goDown(h);
    write(h, block(1, 1, full, 0, 0));
    House.due("0 bytes in the last", h.x.start(), 0);
    goDown(h);
    int[] much = block(1, 1, full, 0, 121);
    much[2] = 122;
    int s = sum(much);
    for (int i = 0; i < 4; i++) {
      much[124 + i] = s >>> 24 - 8 * i & 255;
    }
    write(h, much);
    House.due("122 bytes", h.x.start(), 0);
    goDown(h);
    write(h, block(1, 0, full, 0, 121));
    write(h, block(2, 1, record(4, "\001b"), 0, 5));
    House.due("two blocks, one sync", h.x.start(), 2);
    House.due("two are used", h.x.told(6), 2);
  }

  /** What can be recorded: its number, and how many bytes its record has. */
  private static final int[][] RECORDS = {{1, 3 + 18}, {2, 3 + 1 + 1 + 8}, {3, 3 + 4}, {4, 3 + 1 + 8}, {5, 3}, {6, 3 + 1 + 20}, {7, 3}};

  private static int call(House h, int number) {
    switch (number) {
      case 1: return h.act("act last n -> n =1");
      case 2: return h.x.keep();
      case 3: return h.learn("last");
      case 4: return h.word("bbbbbbbb", true);
      case 5: return h.x.forget();
      case 6: return h.example("abcdefghij", "klmnopqrst");
      default: return h.x.clear();
    }
  }

  /** A house whose last block is left, with records that wait for all of it but so many bytes. */
  private static House almostFull(int left) {
    House h = new House();
    h.ask("find n -> n; use add, 1;");
    h.mend("add(1,add(1,add(1,add(1,a))))", 1);
    h.x.keep();
    h.mend("add(a,1)", 1);
    h.example("a", "a");
    h.x.sync();
    h.x.end(0);
    for (int i = 0; h.x.told(6) < 199 && i < 200; i++) {
      House.due("a block each", (i % 2 == 0 ? h.x.word(true) : h.x.forget()) >= 0 ? h.x.sync() : -1, 1);
    }
    int bytes = 121 - left;
    for (int i = 0; bytes > 0; i++) {
      int size = bytes <= 12 ? bytes : bytes < 17 ? bytes - 5 : 12;
      StringBuilder word = new StringBuilder("a".repeat(size - 4));
      for (int k = 0; k < 4 && k < word.length(); k++) {
        word.setCharAt(k, (i >> k & 1) == 1 ? 'b' : 'a');
      }
      House.due("a word of " + size, h.word(word.toString(), false) > 0 ? 1 : 0, 1);
      bytes -= size;
    }
    House.due("bytes that wait", h.x.told(5), 121 - left);
    return h;
  }

  private static void room() {
    for (int[] each : RECORDS) {
      House fits = almostFull(each[1]);
      House.due("record " + each[0] + " fits", call(fits, each[0]) >= 0 ? 1 : 0, 1);
      House.due("record " + each[0] + " fills the block", fits.x.told(5), 121);
      House.due("nothing more waits", call(fits, 2), FinderHouse.ROOM);
      House.due("the last block", fits.x.sync(), 1);
      House.due("all are used", fits.x.told(6), 200);
      House.due("nothing can wait", call(fits, 6), FinderHouse.ROOM);
      House.due("sync of nothing", fits.x.sync(), 0);
      House full = almostFull(each[1] - 1);
      int[] before = new int[6];
      for (int what = 0; what < 6; what++) {
        before[what] = full.x.told(what);
      }
      House.due("record " + each[0] + " has no room", call(full, each[0]), FinderHouse.ROOM);
      for (int what = 0; what < 6; what++) {
        House.due("what is refused changes nothing", full.x.told(what), before[what]);
      }
      House.due("the kept term is as it was", full.kept(0), "add(1,add(1,add(1,add(1,a))))");
      House.due("the tape is used up", full.x.told(7), 0);
    }
    House h = almostFull(0);
    h.act("act last n -> n =2");
    House.due("a fault comes before ROOM", h.act("act add n -> n =1"), -12);
    House.due("so does NONE", h.learn("add"), -1);
    House.due("and STATE", h.word("aaaaaaaa", true), -2);
    House.due("a word that is told as it is", h.word("aaaaaaaa", false), h.x.told(3));
  }

  private static void down() {
    House h = new House();
    h.ask("find n -> n; use add, 1; row 3 = 5;");
    h.x.find(5);
    h.word("a", true);
    h.x.sync();
    goDown(h);
    h.tape("add(1,1)");
    FinderHouse x = h.x;
    long[] answers = {
      x.told(0), x.told(99), x.ask(), x.act(), x.find(1), x.find(99), x.count(1), x.count(0), x.ith(1, 0), x.different(1),
      x.question(1), x.cheaper(), x.sketch(), x.mend(1), x.mend(0), x.value(), x.keep(), x.kept(0, -1), x.kept(-7, 0),
      x.learn(), x.own(0, -1), x.loop(), x.runs(0, 0), x.span(0, 0), x.keeps(), x.example(1), x.example(-1), x.clear(),
      x.fit(), x.fitting(1), x.fitting(0), x.apply(), x.word(true), x.forget(), x.machine(), x.shortest(0, 1), x.shortest(0, 9),
      x.sync(), x.cut(0, 0), x.cut(-5, 0)
    };
    for (int i = 0; i < answers.length; i++) {
      House.due("call " + i + " while DOWN", answers[i], FinderHouse.DOWN);
    }
    House.due("the tape was not used up", x.feed(0, 0, 0, 0, 0), 28);
    x.end(8);
    House.due("place()", x.place(), -1);
    House.due("mended()", x.mended(), -1);
    House.due("worked()", x.worked(), 0);
    House.due("byteOf()", x.byteOf(0), 'a');
    House.due("answer()", x.answer(3), 5);
    House.due("point()", x.point(3, 0), 3);
    House.due("part()", x.part(0, 0), -1);
    House.due("state()", x.state(0, 0), -1);
    House.due("step()", x.step(0), -1);
    House.due("goal()", x.goal(10, 1), 0);
    House.due("octet()", x.octet(1, 0), 1);
    House.due("poke()", x.poke(5, 5, 5), 5);
    House.due("start()", x.start(), 1);
    House.due("the tape is there", x.value(), 2);
    House.due("start() again", x.start(), FinderHouse.STATE);
  }
}
