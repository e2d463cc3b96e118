/** WHAT LASTS at its bounds: RECORDS, BLOCKS, POWER, START; promises 43 to 47. */
public final class DiskEdgeTest {
  public static void main(String[] args) {
    recordsOfEachNumber();
    recordsOfParameters();
    lengthsInTwoBytes();
    whatHasNoRecord();
    fullBlocks();
    syncOfNothing();
    syncBehindTheUsed();
    cutNumbers();
    cutAtEachBlock();
    cutCountsBlocksOfAllSyncs();
    tearing();
    lostSync();
    startWhenNotDown();
    startFromAnEmptyHouse();
    secondBytes();
    numbersOfBlocks();
    lengthsInBlocks();
    sums();
    usedUpToTheLast();
    allBlocksUsed();
    noneUsedAnyMore();
    doneAgainOnAFullDisk();
    recordsPassedOver();
    recordsThatChangeNothing();
    limitsWhenDoneAgain();
    termsDoneAgain();
    namesDoneAgain();
    moreThan2000Bytes();
    restOfTheSync();
    beyondTheSync();
    recordsOverBlocks();
    learntAgain();
    otherKindsAgain();
    octets();
    pokes();
    House.finish();
  }

  private static void recordsOfEachNumber() {
    House h = new House();
    h.act("act up n -> n = add(a,1)\n");
    h.ask("find n n -> n; use 1;");
    h.mend("add(mul(a,9),1)", 1);
    h.x.keep();
    h.mend("add(mul(b,9),1)", 1);
    h.x.keep();
    House.due("learn", h.learn("nine"), 1);
    byte[] first = Blocks.join(Blocks.record(1, "act up n -> n = add(a,1)\n"), Blocks.record(2, "\002nnadd(mul(a,9),1)"),
        Blocks.record(2, "\002nnadd(mul(b,9),1)"), Blocks.record(3, "nine"));
    House.due("bytes", h.x.told(5), first.length);
    House.due("sync", h.x.sync(), 1);
    Blocks.dueBlock("the first sync", h, Blocks.block(1, 1, first, 0, first.length));
    h.word("", true);
    h.word("abababab", false);
    h.x.forget();
    h.example("", "z");
    h.example("abcdefghij", "klmnopqrst");
    h.x.clear();
    byte[] second = Blocks.join(Blocks.record(4, "\001"), Blocks.record(4, "\000abababab"), Blocks.record(5, ""), Blocks.record(6, "\000z"),
        Blocks.record(6, "\012abcdefghijklmnopqrst"), Blocks.record(7, ""));
    House.due("bytes", h.x.told(5), second.length);
    House.due("sync", h.x.sync(), 1);
    Blocks.dueBlock("the second sync", h, Blocks.block(2, 1, second, 0, second.length));
  }

  private static void recordsOfParameters() {
    House h = new House();
    h.ask("find s -> s; use 1;");
    h.mend("rev(a)", 1);
    h.x.keep();
    h.ask("find t n -> n; use 1;");
    h.mend("if(a,b,07)", 1);
    h.x.keep();
    h.ask("find n t s -> t; use 1;");
    h.mend(" not( b )", 1);
    h.x.keep();
    byte[] all = Blocks.join(Blocks.record(2, "\001srev(a)"), Blocks.record(2, "\002tnif(a,b,7)"), Blocks.record(2, "\003ntsnot(b)"));
    House.due("bytes", h.x.told(5), all.length);
    h.x.sync();
    Blocks.dueBlock("kept terms", h, Blocks.block(1, 1, all, 0, all.length));
    Blocks.goDown(h);
    House.due("start", h.x.start(), 3);
    House.due("kept", h.kept(0) + h.kept(1) + h.kept(2), "rev(a)if(a,b,7)not(b)");
  }

  /** The higher byte first: 255, 256 and 257 bytes. */
  private static void lengthsInTwoBytes() {
    for (int size : new int[] {255, 256, 257, 512}) {
      House h = new House();
      h.act(Blocks.longAct("w", size));
      House.due("bytes", h.x.told(5), size + 3);
      int[][] blocks = Blocks.sync(1, Blocks.record(1, Blocks.longAct("w", size)));
      House.due("blocks", h.x.sync(), blocks.length);
      House.due("the number", h.x.octet(1, 3), 1);
      House.due("the higher byte", h.x.octet(1, 4), size / 256);
      House.due("the lower byte", h.x.octet(1, 5), size % 256);
      Blocks.goDown(h);
      House.due("it is done again", h.x.start(), 1);
      House.due("the act is there", h.own(0), "a");
    }
  }

  private static void whatHasNoRecord() {
    House h = new House();
    h.ask("find n -> n; use 1;");
    h.x.find(1);
    h.loop("loop n from a while false do a give a");
    h.x.clear();
    h.x.forget();
    h.word("c", true);
    h.act("act add n -> n = a");
    h.learn("x");
    h.value("1");
    h.x.machine();
    h.x.shortest(0, 2);
    h.x.cut(-1, 0);
    h.apply("a");
    House.due("no records", h.x.told(4), 0);
    House.due("no bytes", h.x.told(5), 0);
    House.due("no blocks", h.x.sync(), 0);
    h.word("a", true);
    h.word("a", true);
    House.due("told twice, one record", h.x.told(4), 1);
    House.due("five bytes", h.x.told(5), 5);
  }

  private static void fullBlocks() {
    int[][] due = {{118, 1}, {119, 2}, {239, 2}, {240, 3}};
    for (int[] each : due) {
      House h = new House();
      h.act(Blocks.longAct("w", each[0]));
      House.due(each[0] + " and 3 bytes", h.x.sync(), each[1]);
      House.due("used", h.x.told(6), each[1]);
      int[][] blocks = Blocks.sync(1, Blocks.record(1, Blocks.longAct("w", each[0])));
      House.due("as many", blocks.length, each[1]);
      for (int[] block : blocks) {
        Blocks.dueBlock("block", h, block);
      }
    }
  }

  private static void syncOfNothing() {
    House h = new House();
    House.due("a new house", h.x.sync(), 0);
    House.due("power does not go", h.x.cut(0, 5), 1);
    House.due("where no block is written", h.x.sync(), 0);
    House.due("not DOWN", h.x.told(6), 0);
    h.word("a", true);
    House.due("but here", h.x.sync(), -4);
    House.due("sync when DOWN", h.x.sync(), -5);
    h.x.start();
    House.due("nothing waits", h.x.sync(), 0);
    h.word("a", true);
    House.due("power stays", h.x.sync(), 1);
    House.due("nothing waits", h.x.sync(), 0);
  }

  private static void syncBehindTheUsed() {
    House h = new House();
    h.act(Blocks.longAct("one", 200));
    House.due("two", h.x.sync(), 2);
    h.word("a", true);
    House.due("one", h.x.sync(), 1);
    h.act(Blocks.longAct("two", 300));
    House.due("three", h.x.sync(), 3);
    House.due("six are used", h.x.told(6), 6);
    int[] due = {0, 1, 1, 0, 0, 1};
    for (int k = 0; k < 6; k++) {
      House.due("number " + k, h.x.octet(k + 1, 0), k + 1);
      House.due("the last of its sync " + k, h.x.octet(k + 1, 1), due[k]);
    }
    House.due("no seventh", h.x.octet(7, 0), 0);
    Blocks.goDown(h);
    House.due("three records", h.x.start(), 3);
    House.due("six are used", h.x.told(6), 6);
  }

  private static void cutNumbers() {
    House h = new House();
    int[][] none = {{-2, 0}, {401, 0}, {0, -1}, {0, 128}, {-1, -1}, {-1, 128}, {401, 128}, {Integer.MIN_VALUE, 0}, {Integer.MAX_VALUE, 0},
      {0, Integer.MIN_VALUE}, {0, Integer.MAX_VALUE}};
    for (int[] each : none) {
      House.due("cut(" + each[0] + ", " + each[1] + ")", h.x.cut(each[0], each[1]), -1);
    }
    h.word("a", true);
    House.due("what is refused changes nothing", h.x.sync(), 1);
    int[][] fine = {{400, 127}, {400, 0}, {0, 0}, {0, 127}, {-1, 127}, {-1, 0}};
    for (int[] each : fine) {
      House.due("cut(" + each[0] + ", " + each[1] + ")", h.x.cut(each[0], each[1]), 1);
    }
    h.word("b", true);
    House.due("it stays", h.x.sync(), 1);
    h.x.cut(0, 3);
    House.due("refused", h.x.cut(-2, 0), -1);
    h.word("bb", true);
    House.due("so it goes", h.x.sync(), -4);
    House.due("cut when DOWN", h.x.cut(0, 0), -5);
    House.due("cut when DOWN, no such number", h.x.cut(-2, 0), -5);
    House.due("three bytes of it are new", h.x.octet(3, 0) * 10000 + h.x.octet(3, 1) * 100 + h.x.octet(3, 2), 30206);
    House.due("the fourth is not", h.x.octet(3, 3), 0);
  }

  /** Power goes at the n-th block that is written, 0 the next one. */
  private static void cutAtEachBlock() {
    for (int n = 0; n <= 4; n++) {
      House h = new House();
      h.act(Blocks.longAct("w", 300));
      h.x.cut(n, 50);
      House.due("three blocks, cut at " + n, h.x.sync(), n < 3 ? -4 : 3);
      if (n < 3) {
        House.due("DOWN", h.x.told(0), -5);
        for (int k = 1; k <= n; k++) {
          House.due("whole: block " + k, h.x.octet(k, 1), 0);
        }
        House.due("torn", h.x.octet(n + 1, 1), 2);
        House.due("its number", h.x.octet(n + 1, 0), n + 1);
        House.due("the next is as it was", h.x.octet(n + 2, 0), 0);
        House.due("nothing is done again", h.x.start(), 0);
        House.due("none is used", h.x.told(6), 0);
      } else {
        h.word("a", true);
        House.due("the next block", h.x.sync(), n == 3 ? -4 : 1);
        h.word("b", true);
        House.due("the one behind", h.x.sync(), n == 3 ? -5 : -4);
      }
    }
  }

  private static void cutCountsBlocksOfAllSyncs() {
    House h = new House();
    h.x.cut(3, 0);
    for (int i = 0; i < 3; i++) {
      h.word("a".repeat(i), true);
      House.due("block " + i, h.x.sync(), 1);
    }
    h.word("b", true);
    House.due("block 3", h.x.sync(), -4);
    House.due("start", h.x.start(), 3);
    h.word("b", true);
    House.due("power stays now", h.x.sync(), 1);
    h.x.cut(1, 0);
    h.word("bb", true);
    House.due("one is written", h.x.sync(), 1);
    h.x.cut(1, 0);
    h.word("ba", true);
    House.due("from the latest cut on", h.x.sync(), 1);
    h.word("ab", true);
    House.due("then it goes", h.x.sync(), -4);
  }

  /** The first so many bytes are the new ones, and the second one is 2 in any case. */
  private static void tearing() {
    for (int tear : new int[] {0, 1, 2, 3, 4, 8, 123, 124, 125, 126, 127}) {
      House h = new House();
      for (int i = 0; i < 128; i++) {
        h.x.poke(1, i, 85);
      }
      h.word("ba", false);
      h.x.cut(0, tear);
      House.due("power goes", h.x.sync(), -4);
      int[] block = Blocks.block(1, 1, Blocks.record(4, "\000ba"), 0, 6);
      for (int i = 0; i < 128; i++) {
        House.due("torn behind " + tear + ", byte " + i, h.x.octet(1, i), i == 1 ? 2 : i < tear ? block[i] : 85);
      }
      House.due("it is not RIGHT", h.x.start(), 0);
      House.due("no word", h.x.told(3), 0);
    }
    House h = new House();
    h.word("ba", false);
    h.x.cut(0, 127);
    h.x.sync();
    int[] block = Blocks.block(1, 1, Blocks.record(4, "\000ba"), 0, 6);
    h.x.poke(1, 1, 3);
    h.x.poke(1, 127, block[127]);
    House.due("made right by hand", h.x.start(), 1);
    House.due("the word is there", h.word("ba", true), -2);
  }

  private static void lostSync() {
    House h = new House();
    h.word("a", true);
    h.x.sync();
    h.act(Blocks.longAct("w", 400));
    h.x.cut(2, 9);
    House.due("power goes at the third block", h.x.sync(), -4);
    House.due("the first of them is written", h.x.octet(2, 1) * 1000 + h.x.octet(2, 2), 121);
    House.due("the second of them", h.x.octet(3, 0), 3);
    House.due("start", h.x.start(), 1);
    House.due("one is used", h.x.told(6), 1);
    House.due("no own act", h.x.told(0), 0);
    h.word("b", true);
    House.due("the next sync is behind the used", h.x.sync(), 1);
    Blocks.dueBlock("over what was there", h, Blocks.block(2, 1, Blocks.record(4, "\001b"), 0, 5));
    Blocks.goDown(h);
    House.due("two words; block 3 has no end", h.x.start(), 2);
    House.due("two are used", h.x.told(6), 2);
  }

  private static void startWhenNotDown() {
    House h = new House();
    h.word("a", true);
    h.ask("find n -> n; use 1;");
    h.x.find(1);
    House.due("STATE", h.x.start(), -2);
    House.due("nothing changed", h.x.told(3) * 100 + h.x.told(4) * 10 + h.x.told(8), 111);
    House.due("THE TERM is there", h.x.byteOf(0), 'a');
    Blocks.goDown(h);
    House.due("DOWN", h.x.start(), 0);
    House.due("STATE again", h.x.start(), -2);
  }

  /** What was not written is gone; what was written, then changed, is as it was written. */
  private static void startFromAnEmptyHouse() {
    House h = new House();
    h.act("act up n -> n = add(a,1)");
    h.example("a", "b");
    h.word("a", true);
    h.x.sync();
    h.act("act dn n -> n = sub(a,1)");
    h.x.clear();
    h.x.forget();
    h.ask("find n -> n; use 1;");
    h.x.find(1);
    h.x.keep();
    h.x.cut(0, 100);
    House.due("power goes", h.x.sync(), -4);
    House.due("start", h.x.start(), 3);
    int[] due = {1, 0, 1, 1, 0, 0, 1};
    for (int what = 0; what < due.length; what++) {
      House.due("told(" + what + ")", h.x.told(what), due[what]);
    }
    House.due("up", h.own(0), "add(a,1)");
    House.due("dn is not known", h.value("dn(1)"), -12);
    House.due("no ask", h.x.told(8), -2);
    House.due("dn can come again", h.act("act dn n -> n = sub(a,1)"), 2);
  }

  private static House oneBlock(int[] block) {
    House h = new House();
    Blocks.goDown(h);
    Blocks.write(h, block);
    return h;
  }

  private static final byte[] WORD = Blocks.record(4, "\001ab");

  /** A block's second byte is 0 or 1, whatever its SUM. */
  private static void secondBytes() {
    for (int second : new int[] {0, 1, 2, 3, 127, 128, 129, 255}) {
      int[] block = Blocks.block(1, 1, WORD, 0, WORD.length);
      block[1] = second;
      House h = oneBlock(Blocks.summed(block));
      House.due("second byte " + second, h.x.start(), second == 1 ? 1 : 0);
      House.due("used", h.x.told(6), second == 1 ? 1 : 0);
    }
    byte[] full = Blocks.record(1, Blocks.longAct("w", 118));
    for (int second : new int[] {0, 1, 2, 3, 255}) {
      int[] block = Blocks.block(1, second, full, 0, 121);
      House h = oneBlock(block);
      Blocks.write(h, Blocks.block(2, 1, WORD, 0, WORD.length));
      House.due("before another, second byte " + second, h.x.start(), second <= 1 ? 2 : 0);
      House.due("used", h.x.told(6), second <= 1 ? 2 : 0);
    }
  }

  private static void numbersOfBlocks() {
    for (int number : new int[] {0, 1, 2, 129, 255}) {
      int[] block = Blocks.block(1, 1, WORD, 0, WORD.length);
      block[0] = number;
      Blocks.summed(block);
      House h = new House();
      Blocks.goDown(h);
      for (int i = 0; i < 128; i++) {
        if (block[i] != (i == 1 ? 2 : 0)) {
          h.x.poke(1, i, block[i] ^ (i == 1 ? 2 : 0));
        }
      }
      House.due("a block 1 that is told as " + number, h.x.start(), number == 1 ? 1 : 0);
    }
  }

  /** n is 121 where the second byte is 0, 1 .. 121 where it is 1. */
  private static void lengthsInBlocks() {
    byte[] long1 = Blocks.record(1, Blocks.longAct("w", 200));
    for (int n : new int[] {0, 1, 120, 121, 122, 124, 255}) {
      int[] block = Blocks.block(1, 0, long1, 0, 121);
      block[2] = n;
      House h = oneBlock(Blocks.summed(block));
      Blocks.write(h, Blocks.block(2, 1, long1, 121, long1.length - 121));
      House.due("second byte 0, n " + n, h.x.start(), n == 121 ? 1 : 0);
      House.due("used", h.x.told(6), n == 121 ? 2 : 0);
    }
    byte[] full = Blocks.record(1, Blocks.longAct("w", 118));
    for (int n : new int[] {0, 1, 120, 121, 122, 128, 255}) {
      int[] block = Blocks.block(1, 1, full, 0, 121);
      block[2] = n;
      House h = oneBlock(Blocks.summed(block));
      House.due("second byte 1, n " + n, h.x.start(), n == 121 ? 1 : 0);
      House.due("used", h.x.told(6), n >= 1 && n <= 121 ? 1 : 0);
    }
    House h = oneBlock(Blocks.block(1, 1, new byte[] {5}, 0, 1));
    House.due("n 1, a record that is not whole", h.x.start(), 0);
    House.due("it is used", h.x.told(6), 1);
  }

  private static void sums() {
    for (int i : new int[] {0, 1, 2, 3, 8, 9, 60, 123, 124, 125, 126, 127}) {
      for (int mask : new int[] {1, 128}) {
        House h = oneBlock(Blocks.block(1, 1, WORD, 0, WORD.length));
        h.x.poke(1, i, mask);
        House.due("byte " + i + " with another bit " + mask, h.x.start(), 0);
        House.due("none is used", h.x.told(6), 0);
      }
    }
    House h = oneBlock(Blocks.block(1, 1, WORD, 0, WORD.length));
    h.x.poke(1, 9, 1);
    h.x.poke(1, 9, 1);
    House.due("as it was", h.x.start(), 1);
    int[] more = Blocks.block(1, 1, WORD, 0, WORD.length);
    more[100] = 77;
    h = oneBlock(Blocks.summed(more));
    House.due("bytes behind the n do not matter", h.x.start(), 1);
  }

  /** Those up to the last one whose second byte is 1, as far as each is RIGHT. */
  private static void usedUpToTheLast() {
    byte[] full = Blocks.record(1, Blocks.longAct("w", 118));
    byte[] other = Blocks.record(4, "\001b");
    House h = oneBlock(Blocks.block(1, 1, WORD, 0, WORD.length));
    Blocks.write(h, Blocks.block(2, 0, full, 0, 121));
    Blocks.write(h, Blocks.block(4, 1, other, 0, other.length));
    House.due("block 3 is not RIGHT", h.x.start(), 1);
    House.due("one is used", h.x.told(6), 1);
    h = oneBlock(Blocks.block(1, 1, WORD, 0, WORD.length));
    Blocks.write(h, Blocks.block(3, 1, other, 0, other.length));
    House.due("block 2 is not", h.x.start(), 1);
    h = new House();
    Blocks.goDown(h);
    Blocks.write(h, Blocks.block(2, 1, other, 0, other.length));
    House.due("block 1 is not", h.x.start(), 0);
    House.due("none is used", h.x.told(6), 0);
    h = oneBlock(Blocks.block(1, 0, full, 0, 121));
    House.due("no last one", h.x.start(), 0);
    House.due("none is used", h.x.told(6), 0);
    h = oneBlock(Blocks.block(1, 1, WORD, 0, WORD.length));
    Blocks.write(h, Blocks.block(2, 1, other, 0, other.length));
    House.due("two syncs", h.x.start(), 2);
    House.due("two are used", h.x.told(6), 2);
  }

  /** 200 blocks: the last one was torn, and is made right by hand. */
  private static void allBlocksUsed() {
    House h = new House();
    for (int i = 0; i < 199; i++) {
      House.due("a block", (i % 2 == 0 ? h.x.word(true) : h.x.forget()) >= 0 ? h.x.sync() : -1, 1);
    }
    House.due("one word is there", h.x.forget(), 1);
    h.x.word(false);
    House.due("seven bytes wait", h.x.told(5), 3 + 4);
    h.x.cut(0, 127);
    House.due("power goes at block 200", h.x.sync(), -4);
    byte[] last = Blocks.join(Blocks.record(5, ""), Blocks.record(4, "\000"));
    int[] block = Blocks.block(200, 1, last, 0, last.length);
    h.x.poke(200, 1, 3);
    h.x.poke(200, 127, block[127]);
    House.due("all records", h.x.start(), 201);
    House.due("all are used", h.x.told(6), 200);
    House.due("the last one was done", h.word("", true), -2);
    House.due("no record can wait", h.word("a", true), -3);
    House.due("nothing to write", h.x.sync(), 0);
  }

  /** Blocks that were used are not any more, where the first of them is not RIGHT. */
  private static void noneUsedAnyMore() {
    for (int many = 1; many <= 3; many++) {
      House h = new House();
      for (int i = 0; i < many; i++) {
        h.word("a".repeat(i), true);
        h.x.sync();
      }
      House.due("used", h.x.told(6), many);
      h.x.poke(1, 9, 1);
      Blocks.goDown(h);
      House.due("nothing is done again", h.x.start(), 0);
      House.due("none is used", h.x.told(6), 0);
      House.due("no words", h.x.told(3), 0);
      h.word("bb", true);
      House.due("the next sync", h.x.sync(), 1);
      Blocks.dueBlock("is written from block 1 on", h, Blocks.block(1, 1, Blocks.record(4, "\001bb"), 0, 6));
      House.due("one is used", h.x.told(6), 1);
    }
  }

  /** Records of each number are done again, though there is no room for new ones. */
  private static void doneAgainOnAFullDisk() {
    House h = new House();
    h.act(Blocks.longAct("up", 62));
    h.ask("find n n->n;use 1;");
    h.mend("add(mul(a,9),1)", 1);
    h.x.keep();
    h.mend("add(mul(b,9),1)", 1);
    h.x.keep();
    House.due("learn", h.learn("nine"), 1);
    h.example("ab", "b");
    House.due("a full block", h.x.told(5), 121);
    House.due("a block", h.x.sync(), 1);
    for (int i = 0; i < 198; i++) {
      House.due("a block", (i % 2 == 0 ? h.x.word(true) : h.x.forget()) >= 0 ? h.x.sync() : -1, 1);
    }
    House.due("199 are used", h.x.told(6), 199);
    h.x.cut(0, 0);
    h.x.clear();
    House.due("power goes", h.x.sync(), -4);
    House.due("all records", h.x.start(), 5 + 198);
    int[] due = {2, 2, 1, 0, 0, 0, 199};
    for (int what = 0; what < due.length; what++) {
      House.due("told(" + what + ")", h.x.told(what), due[what]);
    }
    House.due("kept", h.kept(0) + h.kept(1), "nine(a)nine(b)");
    House.due("the last block", h.x.clear() == 1 ? h.x.sync() : -1, 1);
    House.due("all are used", h.x.told(6), 200);
    House.due("nothing can wait", h.word("ab", true), -3);
  }

  private static House started(String what, int due, byte[]... records) {
    House h = Blocks.withSync(records);
    House.due(what, h.x.start(), due);
    return h;
  }

  private static void recordsPassedOver() {
    byte[] good = Blocks.record(4, "\001bb");
    String[][] bad = {
      {"1", ""}, {"1", "act up n -> n = "}, {"1", "act add n -> n = a"}, {"1", "act up n -> n = foo"}, {"1", "act up n -> t = a"}, {"1", "act up n -> n = add(a)"},
      {"2", ""}, {"2", "\001"}, {"2", "\001n"}, {"2", "\000n"}, {"2", "\004nnnna"}, {"2", "\001xa"}, {"2", "\001Na"}, {"2", "\002na"}, {"2", "\002n"},
      {"2", "\001nb"}, {"2", "\001n?"}, {"2", "\001na a"}, {"2", "\001nadd(a,true)"}, {"2", "\001nadd(a)"}, {"2", "\001nf(a)"}, {"2", "\377na"},
      {"3", ""}, {"3", "x"}, {"3", "add"}, {"3", "abcdefghi"}, {"3", "x y"},
      {"4", ""}, {"4", "\002a"}, {"4", "\377a"}, {"4", "\001c"}, {"4", "\001aaaaaaaaa"}, {"4", "\000ab\n"}, {"4", "1ab"},
      {"5", "x"}, {"5", "\000"}, {"7", "x"}, {"7", "\000"},
      {"6", ""}, {"6", "\000"}, {"6", "\001a"}, {"6", "\002abB"}, {"6", "\013abcdefghijkl"}, {"6", "\000abcdefghijk"}, {"6", "\377ab"}, {"6", "\003ab"}, {"6", "\002ab"}
    };
    for (String[] each : bad) {
      String what = "record " + each[0] + " " + each[1];
      House h = started(what, 1, Blocks.record(Integer.parseInt(each[0]), each[1]), good);
      House.due(what + ", the next one", h.x.told(3), 1);
      House.due(what + ", nothing else", h.x.told(0) + h.x.told(1) + h.x.told(2), 0);
      House.due(what + ", no place", h.x.place(), -1);
    }
  }

  private static void recordsThatChangeNothing() {
    started("forget of none", 1, Blocks.record(5, ""));
    started("clear of none", 1, Blocks.record(7, ""));
    started("a word told as it is", 2, Blocks.record(4, "\001a"), Blocks.record(4, "\001a"));
    started("a word told otherwise", 1, Blocks.record(4, "\001a"), Blocks.record(4, "\000a"));
    House h = started("forget, then otherwise", 3, Blocks.record(4, "\001a"), Blocks.record(5, ""), Blocks.record(4, "\000a"));
    House.due("not good", h.word("a", false), 1);
    h = started("clear", 3, Blocks.record(6, "\001ab"), Blocks.record(7, ""), Blocks.record(6, "\000q"));
    House.due("one row", h.x.told(2), 1);
    House.due("it is fitted", h.x.fit(), 2);
  }

  /** What would be refused as one too many is passed over. */
  private static void limitsWhenDoneAgain() {
    byte[][] acts = new byte[12][];
    byte[][] kept = new byte[14][];
    byte[][] words = new byte[22][];
    byte[][] rows = new byte[10][];
    for (int i = 0; i < 12; i++) {
      acts[i] = Blocks.record(1, "act x" + (char) ('a' + i) + " n->n=" + i);
    }
    for (int i = 0; i < 14; i++) {
      kept[i] = Blocks.record(2, "\001n" + i);
    }
    for (int i = 0; i < 22; i++) {
      words[i] = Blocks.record(4, "\001" + Integer.toBinaryString(32 + i).substring(1).replace('0', 'a').replace('1', 'b'));
    }
    for (int i = 0; i < 10; i++) {
      rows[i] = Blocks.record(6, "\001ab");
    }
    House h = started("ten own acts", 10, acts);
    House.due("ten", h.x.told(0), 10);
    House.due("the first ten", h.own(9), "9");
    h = started("twelve kept terms", 12, kept);
    House.due("twelve", h.x.told(1), 12);
    House.due("the first twelve", h.kept(11), "11");
    h = started("twenty words", 20, words);
    House.due("twenty", h.x.told(3), 20);
    h = started("eight rows", 8, rows);
    House.due("eight", h.x.told(2), 8);
  }

  private static String tree(int acts) {
    if (acts == 0) {
      return "a";
    }
    int left = (acts - 1) / 2;
    return "add(" + tree(left) + "," + tree(acts - 1 - left) + ")";
  }

  /** A kept term is a told term of its parameters, and one that could be kept. */
  private static void termsDoneAgain() {
    started("a SIZE of 29", 1, Blocks.record(2, "\001n" + tree(14)));
    started("a SIZE of 31", 0, Blocks.record(2, "\001n" + tree(15)));
    started("a SIZE of 30", 1, Blocks.record(2, "\001nif(true," + tree(7) + "," + tree(6) + ")"));
    started("within twelve", 1, Blocks.record(2, "\001t" + "not(".repeat(12) + "a" + ")".repeat(12)));
    started("within thirteen", 0, Blocks.record(2, "\001t" + "not(".repeat(13) + "a" + ")".repeat(13)));
    started("a WEIGHT of 40", 2, Blocks.record(1, "act w n->n=" + tree(39)), Blocks.record(2, "\001nw(a)"));
    started("a WEIGHT of 41", 1, Blocks.record(1, "act w n->n=" + tree(39)), Blocks.record(2, "\001nadd(a,w(a))"));
    started("an own act of 40", 1, Blocks.record(1, "act w n->n=" + tree(40)));
    started("an own act of 41", 0, Blocks.record(1, "act w n->n=" + tree(41)));
    started("an own act that is there", 2, Blocks.record(1, "act up n->n=a"), Blocks.record(2, "\001nup(a)"));
    started("an own act that comes later", 1, Blocks.record(2, "\001nup(a)"), Blocks.record(1, "act up n->n=a"));
    House h = started("each kind", 3, Blocks.record(2, "\002tsa"), Blocks.record(2, "\002tsb"), Blocks.record(2, "\003ttnc"));
    House.due("kept", h.kept(0) + h.kept(1) + h.kept(2), "abc");
    h = started("blanks and 0s", 1, Blocks.record(2, "\001n\n add ( a , 07 ) "));
    House.due("kept", h.kept(0), "add(a,7)");
  }

  private static void namesDoneAgain() {
    byte[] one = Blocks.record(2, "\002nnadd(mul(a,9),1)");
    byte[] two = Blocks.record(2, "\002nnadd(mul(b,9),1)");
    House h = started("a pattern", 3, one, two, Blocks.record(3, "nine"));
    House.due("the act", h.own(0), "add(mul(a,9),1)");
    House.due("kept", h.kept(0) + h.kept(1), "nine(a)nine(b)");
    started("eight letters", 3, one, two, Blocks.record(3, "ninenine"));
    started("nine letters", 2, one, two, Blocks.record(3, "nineninen"));
    started("a name that is known", 2, one, two, Blocks.record(3, "mul"));
    started("no pattern", 1, one, Blocks.record(3, "nine"));
    started("its own name again", 3, one, two, Blocks.record(3, "nine"), Blocks.record(3, "nine"));
    started("an act of that name", 3, one, two, Blocks.record(1, "act nine n->n=a"), Blocks.record(3, "nine"));
  }

  /** A house whose disk has one sync, that an act of 2000 bytes was changed to. */
  private static House changed(byte[] records) {
    House h = new House();
    h.act(Blocks.longAct("fits", 2000));
    House.due("blocks", h.x.sync(), 17);
    Blocks.goDown(h);
    int[][] have = Blocks.sync(1, Blocks.record(1, Blocks.longAct("fits", 2000)));
    int[][] want = Blocks.sync(1, records);
    House.due("as many blocks", want.length, have.length);
    for (int k = 0; k < 17; k++) {
      Blocks.rewrite(h, have[k], want[k]);
    }
    return h;
  }

  private static void moreThan2000Bytes() {
    byte[] word = Blocks.record(4, "\001ab");
    House h = changed(Blocks.join(Blocks.record(1, Blocks.longAct("fits", 2000)), word));
    House.due("an act of 2000", h.x.start(), 2);
    House.due("it is there", h.own(0), "a");
    h = changed(Blocks.join(Blocks.record(1, Blocks.longAct("fits", 2001)), word));
    House.due("an act of 2001", h.x.start(), 1);
    House.due("it is not there", h.x.told(0), 0);
    House.due("the next one is", h.x.told(3), 1);
    h = changed(Blocks.join(Blocks.record(2, "\001n" + " ".repeat(1997) + "a"), word));
    House.due("a kept term of 2000", h.x.start(), 2);
    House.due("it is there", h.kept(0), "a");
    h = changed(Blocks.join(Blocks.record(2, "\001n" + " ".repeat(1998) + "a"), word));
    House.due("a kept term of 2001", h.x.start(), 1);
    House.due("it is not there", h.x.told(1), 0);
    House.due("the next one is", h.x.told(3), 1);
  }

  private static void restOfTheSync() {
    byte[] a = Blocks.record(4, "\001a");
    byte[] b = Blocks.record(4, "\001b");
    for (int number : new int[] {0, 8, 9, 127, 128, 255}) {
      started("number " + number, 1, a, Blocks.record(number, ""), b);
      started("number " + number + " first", 0, Blocks.record(number, "x"), a, b);
    }
    started("just its bytes", 2, a, new byte[] {4, 0, 2, 1, 'b'});
    started("one byte beyond", 1, a, new byte[] {4, 0, 3, 1, 'b'});
    started("far beyond", 1, a, new byte[] {4, (byte) 255, (byte) 255, 1, 'b'});
    started("two of three first bytes", 1, a, new byte[] {5, 0});
    started("one of three first bytes", 1, a, new byte[] {5});
    started("three of three first bytes", 2, a, new byte[] {5, 0, 0});
    House h = new House();
    Blocks.goDown(h);
    byte[] first = Blocks.join(a, Blocks.record(8, ""), b);
    Blocks.write(h, Blocks.block(1, 1, first, 0, first.length));
    byte[] second = Blocks.join(Blocks.record(4, "\001aa"), new byte[] {4, 0, 9, 1, 'b'});
    Blocks.write(h, Blocks.block(2, 1, second, 0, second.length));
    Blocks.write(h, Blocks.block(3, 1, b, 0, b.length));
    House.due("the next syncs are done", h.x.start(), 3);
    House.due("words", h.x.told(3), 3);
    House.due("all are used", h.x.told(6), 3);
  }

  /** A record that goes beyond its sync's bytes is none, whatever bytes another sync has there. */
  private static void beyondTheSync() {
    byte[] wide = Blocks.record(1, Blocks.longAct("wide", 100));
    byte[][] beyond = {
      {1, 0, 20, 'a', 'c', 't', ' ', 'w', ' ', 'n', '-', '>', 'n', '=', 'a'}, {1, 0, 13, 'a', 'c', 't', ' ', 'w', ' ', 'n', '-', '>', 'n', '=', 'a'},
      {2, 0, 9, 1, 'n', 'a'}, {2, 0, 4, 1, 'n', 'a'}
    };
    for (byte[] bytes : beyond) {
      House h = oneBlock(Blocks.block(1, 1, wide, 0, wide.length));
      Blocks.write(h, Blocks.block(2, 1, bytes, 0, bytes.length));
      Blocks.write(h, Blocks.block(3, 1, WORD, 0, WORD.length));
      House.due("blanks in the sync before: record " + bytes[0] + " of " + bytes[2], h.x.start(), 2);
      House.due("it is not done", h.x.told(0) * 10 + h.x.told(1), 10);
      bytes[2] = (byte) (bytes.length - 3);
      h = oneBlock(Blocks.block(1, 1, wide, 0, wide.length));
      Blocks.write(h, Blocks.block(2, 1, bytes, 0, bytes.length));
      House.due("just its bytes", h.x.start(), 2);
    }
    byte[] letters = Blocks.record(6, "\012aaaaaaaaaabbbbbbbbbb");
    byte[] row = {6, 0, 8, 2, 'a', 'a', 'b'};
    byte[] word = {4, 0, 7, 1, 'a', 'a', 'b'};
    byte[] name = {3, 0, 5, 'x'};
    for (byte[] bytes : new byte[][] {row, word, name}) {
      House h = oneBlock(Blocks.block(1, 1, letters, 0, letters.length));
      Blocks.write(h, Blocks.block(2, 1, bytes, 0, bytes.length));
      House.due("letters in the sync before: record " + bytes[0], h.x.start(), 1);
      House.due("one row", h.x.told(2), 1);
      House.due("no words", h.x.told(3), 0);
    }
  }

  /** A record may go over from one block to the next, but not to the next sync. */
  private static void recordsOverBlocks() {
    byte[] act = Blocks.record(1, Blocks.longAct("w", 130));
    House h = oneBlock(Blocks.block(1, 0, act, 0, 121));
    Blocks.write(h, Blocks.block(2, 1, act, 121, 12));
    House.due("one sync", h.x.start(), 1);
    House.due("the act", h.own(0), "a");
    h = oneBlock(Blocks.block(1, 1, act, 0, 121));
    Blocks.write(h, Blocks.block(2, 1, act, 121, 12));
    House.due("two syncs", h.x.start(), 0);
    House.due("two blocks are used", h.x.told(6), 2);
  }

  private static void learntAgain() {
    House h = new House();
    h.ask("find n n -> n; use 1;");
    for (String text : new String[] {"add(mul(a,9),1)", "add(mul(b,9),1)", "sub(add(mul(7,9),1),b)"}) {
      h.mend(text, 1);
      h.x.keep();
    }
    House.due("learn", h.learn("x"), 5 + 5 + 7 - (2 + 2 + 4) - 5);
    h.mend("x(x(a))", 1);
    h.x.keep();
    h.x.sync();
    Blocks.goDown(h);
    House.due("all again", h.x.start(), 5);
    House.due("kept", h.kept(0) + h.kept(1) + h.kept(2) + h.kept(3), "x(a)x(b)sub(x(7),b)x(x(a))");
    House.due("the act", h.own(0), "add(mul(a,9),1)");
    House.due("its kinds", h.x.own(0, -2) * 1000 + h.x.own(0, -3), 'n' * 1000);
    House.due("its answer", h.value("x(2)"), 3);
  }

  /** What was lost leaves nothing: own acts of other kinds, in the same places. */
  private static void otherKindsAgain() {
    House h = new House();
    h.act("act one n -> n = add(a,1)");
    h.act("act two n n -> t = less(a,b)");
    h.act("act three t -> n = if(a,5,6)");
    House.due("one", h.value("one(1)"), 2);
    Blocks.goDown(h);
    House.due("nothing was written", h.x.start(), 0);
    h.fault("one is not known", h.value("one(1)"), 2, 0);
    h.act("act one s -> s = cat(a,\"x\")");
    h.act("act two s n -> n = add(len(a),b)");
    h.act("act three s s -> t = like(a,rev(b))");
    House.due("one", h.value("one(\"b\")"), 2 * 27 + 24);
    House.due("two", h.value("two(\"ab\",3)"), 5);
    House.due("three", h.value("three(\"ab\",\"ba\")"), 1);
    House.due("three", h.value("three(\"ab\",\"ab\")"), 0);
    h.fault("of another kind", h.value("one(1)"), 3, 4);
    h.fault("of two", h.value("three(\"ab\")"), 4, 0);
    Blocks.goDown(h);
    h.x.start();
    h.act("act one t t -> t = both(a,b)");
    h.act("act two n -> n = sub(a,1)");
    House.due("one", h.value("one(true,true)"), 1);
    House.due("two", h.value("two(0)"), 15);
    House.due("its second kind", h.x.own(1, -3), 0);
  }

  /** Whether just this exception comes, thrown by the call itself. */
  private static boolean octetThrows(House h, int block, int i) {
    try {
      h.x.octet(block, i);
      return false;
    } catch (IndexOutOfBoundsException e) {
      return e.getClass() == IndexOutOfBoundsException.class;
    }
  }

  private static boolean pokeThrows(House h, int block, int i) {
    try {
      h.x.poke(block, i, 0);
      return false;
    } catch (IndexOutOfBoundsException e) {
      return e.getClass() == IndexOutOfBoundsException.class;
    }
  }

  private static final int[][] NO_BYTES = {{0, 0}, {201, 0}, {1, -1}, {1, 128}, {200, -1}, {200, 128}, {0, 127}, {201, 127}, {-1, 0},
    {Integer.MAX_VALUE, 0}, {Integer.MIN_VALUE, 0}, {1, Integer.MAX_VALUE}, {1, Integer.MIN_VALUE}, {0, 128}};
  private static final int[][] BYTES = {{1, 0}, {1, 127}, {200, 0}, {200, 127}, {2, 1}, {199, 126}};

  private static void octets() {
    House h = new House();
    for (int down = 0; down < 2; down++) {
      for (int[] each : NO_BYTES) {
        House.due("octet(" + each[0] + ", " + each[1] + ") throws", octetThrows(h, each[0], each[1]) ? 1 : 0, 1);
      }
      for (int[] each : BYTES) {
        House.due("octet(" + each[0] + ", " + each[1] + ") does not", octetThrows(h, each[0], each[1]) ? 1 : 0, 0);
      }
      if (down == 0) {
        Blocks.goDown(h);
      }
    }
    House.due("what it is", h.x.octet(1, 1), 2);
  }

  private static void pokes() {
    House h = new House();
    for (int down = 0; down < 2; down++) {
      for (int[] each : NO_BYTES) {
        House.due("poke(" + each[0] + ", " + each[1] + ", 0) throws", pokeThrows(h, each[0], each[1]) ? 1 : 0, 1);
      }
      for (int[] each : BYTES) {
        House.due("poke(" + each[0] + ", " + each[1] + ", 0) does not", pokeThrows(h, each[0], each[1]) ? 1 : 0, 0);
        int before = h.x.octet(each[0], each[1]);
        House.due("poke with 255", h.x.poke(each[0], each[1], 255), before ^ 255);
        House.due("it is so", h.x.octet(each[0], each[1]), before ^ 255);
        House.due("poke with 256: its lowest byte is 0", h.x.poke(each[0], each[1], 256), before ^ 255);
        House.due("poke with -1: its lowest byte is 255", h.x.poke(each[0], each[1], -1), before);
        House.due("poke with 1", h.x.poke(each[0], each[1], 0x7fffff01), before ^ 1);
        House.due("and back", h.x.poke(each[0], each[1], Integer.MIN_VALUE | 1), before);
      }
      if (down == 0) {
        Blocks.goDown(h);
      }
    }
  }
}
