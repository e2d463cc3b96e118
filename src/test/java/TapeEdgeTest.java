/** Promises 1 to 5 at their bounds: a new object, feed, end, told, place. */
public final class TapeEdgeTest {
  public static void main(String[] args) {
    constants();
    emptyDisk();
    emptyHouse();
    powerStays();
    highestByteFirst();
    feedUpTo2000();
    feedThatThrowsChangesNothing();
    feedCounts();
    endUpToTheSize();
    endOfAnEmptyTape();
    endCutsBehindItsBytes();
    tapeWhileDown();
    toldNumbers();
    toldOfTheAsk();
    toldOrder();
    placeOfTheLatest();
    placeStays();
    House.finish();
  }

  private static void constants() {
    House.due("NONE", FinderHouse.NONE, -1);
    House.due("STATE", FinderHouse.STATE, -2);
    House.due("ROOM", FinderHouse.ROOM, -3);
    House.due("LOST", FinderHouse.LOST, -4);
    House.due("DOWN", FinderHouse.DOWN, -5);
  }

  /** Promise 1, 46: all bytes of all blocks are 0 at first. */
  private static void emptyDisk() {
    for (int first = 1; first <= 200; first += 3) {
      House h = new House();
      for (int block = first; block < first + 3 && block <= 200; block++) {
        for (int i = 0; i < 128; i++) {
          House.due("octet(" + block + ", " + i + ") of a new disk", h.x.octet(block, i), 0);
        }
      }
    }
  }

  private static void emptyHouse() {
    House h = new House();
    for (int what = 0; what <= 7; what++) {
      House.due("told(" + what + ")", h.x.told(what), 0);
    }
    House.due("an own act", h.x.own(0, -1), -1);
    House.due("a kept term", h.x.kept(0, -1), -1);
    House.due("word rows", h.x.fit(), -2);
    House.due("words to forget", h.x.forget(), 0);
    House.due("rows to clear", h.x.clear(), 0);
    House.due("an ask", h.x.told(12), -2);
    House.due("a loop", h.x.runs(0, 0), -2);
    House.due("a loop", h.x.span(0, 0), -2);
    House.due("THE TERM", h.x.byteOf(0), -1);
    House.due("THE TERM", h.x.keep(), -2);
    House.due("a program", h.x.part(0, 0), -1);
    House.due("a program", h.x.apply(), -2);
    House.due("a machine", h.x.state(0, 0), -1);
    House.due("a row of acts", h.x.step(0), -1);
    House.due("the tape", h.x.told(7), 0);
  }

  private static void powerStays() {
    House h = new House();
    for (int i = 0; i < 12; i++) {
      House.due("a word", h.word("ab".repeat(i % 4) + "b".repeat(i / 4), true) > 0 ? 1 : 0, 1);
      House.due("a block", h.x.sync(), 1);
    }
    House.due("it is not DOWN", h.x.start(), -2);
  }

  /** Promise 2: twenty bytes, each number's highest first: a byte that is no token tells its place. */
  private static void highestByteFirst() {
    for (int bad : new int[] {0x80, 0xff, 0xe1, 0x7f, 0, 9, 13, 31, 33, 'A', 96, 123}) {
      House h = new House();
      for (int at = 0; at < 20; at++) {
        int[] n = {0x20202020, 0x0a200a20, 0x20202020, 0x2020200a, 0x20202020};
        int shift = 24 - 8 * (at % 4);
        n[at / 4] = n[at / 4] & ~(255 << shift) | bad << shift;
        House.due("feed", h.x.feed(n[0], n[1], n[2], n[3], n[4]), 20);
        h.fault("byte " + bad + " at " + at, h.x.value(), 1, at);
      }
    }
    House h = new House();
    h.x.feed(0x61626364, 0x65666768, 0x696a6b6c, 0x6d6e6f70, 0x71727374);
    House.due("twenty letters", h.x.example(10), 1);
    h.x.sync();
    for (int i = 0; i < 20; i++) {
      House.due("letter " + i, h.x.octet(1, 3 + 3 + 1 + i), 'a' + i);
    }
  }

  private static boolean feedThrows(House h) {
    try {
      h.x.feed(0x61616161, 0x61616161, 0x61616161, 0x61616161, 0x61616161);
      return false;
    } catch (IllegalStateException e) {
      return e.getClass() == IllegalStateException.class;
    }
  }

  private static void feedUpTo2000() {
    House h = new House();
    for (int i = 1; i <= 100; i++) {
      House.due("feed " + i, h.x.feed(0x20202020, 0x20202020, 0x20202020, 0x20202020, 0x20202020), 20 * i);
    }
    House.due("2000 bytes", h.x.told(7), 2000);
    House.due("2020 would be too many", feedThrows(h) ? 1 : 0, 1);
    h.x.end(1981);
    House.due("2001 would be too many", feedThrows(h) ? 1 : 0, 1);
    h.x.end(1980);
    House.due("2000 would not", feedThrows(h) ? 1 : 0, 0);
    House.due("2000 bytes", h.x.told(7), 2000);
    h.fault("all of them are read", h.x.value(), 1, 1980);
  }

  private static void feedThatThrowsChangesNothing() {
    House h = new House();
    for (int i = 0; i < 99; i++) {
      h.x.feed(0x20202020, 0x20202020, 0x20202020, 0x20202020, 0x20202020);
    }
    h.x.feed(0x20202020, 0x20202020, 0x20202020, 0x20202020, 0x20202037);
    h.x.end(1999);
    House.due("2019 would be too many", feedThrows(h) ? 1 : 0, 1);
    House.due("the bytes are as many", h.x.told(7), 1999);
    h.fault("blanks to the end", h.x.value(), 1, 1999);
    House.due("it is used up", h.x.told(7), 0);
    House.due("it can be fed again", h.x.feed(0x37202020, 0x20202020, 0x20202020, 0x20202020, 0x20202020), 20);
    House.due("and read", h.x.value(), 7);
  }

  private static void feedCounts() {
    House h = new House();
    h.x.feed(0, 0, 0, 0, 0);
    h.x.end(7);
    House.due("behind seven bytes", h.x.feed(-1, -1, -1, -1, -1), 27);
    h.x.end(0);
    House.due("behind none", h.x.feed(Integer.MAX_VALUE, Integer.MIN_VALUE, 0, 1, -1), 20);
  }

  private static boolean endThrows(House h, int n) {
    try {
      h.x.end(n);
      return false;
    } catch (IllegalArgumentException e) {
      return e.getClass() == IllegalArgumentException.class;
    }
  }

  private static void endUpToTheSize() {
    House h = new House();
    h.x.feed(1, 2, 3, 4, 5);
    House.due("end(21) of 20", endThrows(h, 21) ? 1 : 0, 1);
    House.due("it is as it was", h.x.told(7), 20);
    House.due("end(20) of 20", endThrows(h, 20) ? 1 : 0, 0);
    House.due("20", h.x.told(7), 20);
    House.due("end(-1)", endThrows(h, -1) ? 1 : 0, 1);
    House.due("it is as it was", h.x.told(7), 20);
    House.due("end(19)", endThrows(h, 19) ? 1 : 0, 0);
    House.due("19", h.x.told(7), 19);
    House.due("end(20) of 19", endThrows(h, 20) ? 1 : 0, 1);
    House.due("the greatest number", endThrows(h, Integer.MAX_VALUE) ? 1 : 0, 1);
    House.due("the least number", endThrows(h, Integer.MIN_VALUE) ? 1 : 0, 1);
    House.due("end(1)", endThrows(h, 1) ? 1 : 0, 0);
    House.due("1", h.x.told(7), 1);
    House.due("end(0)", endThrows(h, 0) ? 1 : 0, 0);
    House.due("0", h.x.told(7), 0);
  }

  private static void endOfAnEmptyTape() {
    House h = new House();
    House.due("end(0)", endThrows(h, 0) ? 1 : 0, 0);
    House.due("end(1)", endThrows(h, 1) ? 1 : 0, 1);
    House.due("end(-1)", endThrows(h, -1) ? 1 : 0, 1);
    House.due("0", h.x.told(7), 0);
  }

  private static void endCutsBehindItsBytes() {
    House h = new House();
    h.tape("add(1,2)0123");
    h.x.end(8);
    House.due("its first bytes stay", h.x.value(), 3);
    h.tape("12");
    h.x.end(1);
    House.due("one byte", h.x.value(), 1);
    h.tape("12");
    h.x.end(1);
    h.x.feed(0x34202020, 0x20202020, 0x20202020, 0x20202020, 0x20202020);
    House.due("what comes is behind it", h.x.value(), 14);
  }

  /** feed, end and place are also called when DOWN. */
  private static void tapeWhileDown() {
    House h = new House();
    h.fault("a fault", h.value("  ;"), 1, 2);
    Blocks.goDown(h);
    for (int i = 1; i <= 100; i++) {
      House.due("feed when DOWN", h.x.feed(0x20202020, 0x20202020, 0x20202020, 0x20202020, 0x20202020), 20 * i);
    }
    House.due("too many when DOWN", feedThrows(h) ? 1 : 0, 1);
    House.due("end(2001) when DOWN", endThrows(h, 2001) ? 1 : 0, 1);
    House.due("end(-1) when DOWN", endThrows(h, -1) ? 1 : 0, 1);
    House.due("end(2000) when DOWN", endThrows(h, 2000) ? 1 : 0, 0);
    House.due("end(5) when DOWN", endThrows(h, 5) ? 1 : 0, 0);
    House.due("place() when DOWN", h.x.place(), 2);
    House.due("told(7) when DOWN", h.x.told(7), -5);
    House.due("start", h.x.start(), 0);
    House.due("the tape stays", h.x.told(7), 5);
    House.due("place() behind start()", h.x.place(), 2);
  }

  /** Promise 4: each number apart from the others. */
  private static void toldNumbers() {
    House h = new House();
    h.act("act up n -> n = add(a,1)");
    h.act("act down n -> n = sub(a,1)");
    h.ask("find n -> n; use up, 1;");
    h.x.find(1);
    for (int i = 0; i < 3; i++) {
      h.x.keep();
    }
    for (int i = 0; i < 4; i++) {
      h.example("a", "b");
    }
    for (int i = 0; i < 5; i++) {
      h.word("a".repeat(i), true);
    }
    House.due("own acts", h.x.told(0), 2);
    House.due("kept terms", h.x.told(1), 3);
    House.due("word rows", h.x.told(2), 4);
    House.due("words for machines", h.x.told(3), 5);
    House.due("records that wait", h.x.told(4), 14);
    House.due("their bytes", h.x.told(5), 2 * 3 + 24 + 26 + 3 * (3 + 1 + 1 + 1) + 4 * (3 + 3) + 5 * (3 + 1) + 10);
    House.due("blocks used", h.x.told(6), 0);
    h.tape("abc");
    House.due("bytes on the tape", h.x.told(7), 3);
    House.due("two blocks", h.x.sync(), 2);
    House.due("records that wait", h.x.told(4), 0);
    House.due("their bytes", h.x.told(5), 0);
    House.due("blocks used", h.x.told(6), 2);
    House.due("the tape is as it was", h.x.told(7), 3);
    House.due("own acts", h.x.told(0), 2);
    h.x.clear();
    House.due("a record", h.x.told(4), 1);
    House.due("its bytes", h.x.told(5), 3);
    House.due("no word rows", h.x.told(2), 0);
    House.due("words for machines", h.x.told(3), 5);
    h.x.forget();
    House.due("no words for machines", h.x.told(3), 0);
    House.due("two records", h.x.told(4), 2);
  }

  private static void toldOfTheAsk() {
    House h = new House();
    for (int what = 8; what <= 12; what++) {
      House.due("told(" + what + ") without an ask", h.x.told(what), -2);
    }
    h.ask("find n -> n; use foo;");
    House.due("a refused ask is none", h.x.told(8), -2);
    h.ask("find t -> n; use 1;");
    int[] least = {1, 1, 0, 0, 2};
    for (int k = 0; k < 5; k++) {
      House.due("told(" + (8 + k) + ")", h.x.told(8 + k), least[k]);
    }
    h.ask("find n t t -> n; use 1, 2, 3, add; row 1 true true = 1; row 1 true true = 1; law x:n -> x = x; law x:n -> 1 = 1; law x:n -> 2 = 2;");
    int[] more = {3, 4, 2, 3, 64};
    for (int k = 0; k < 5; k++) {
      House.due("told(" + (8 + k) + ")", h.x.told(8 + k), more[k]);
    }
    h.ask("find n -> n; use foo;");
    House.due("the ask that there was stays", h.x.told(12), 64);
    h.ask("find s -> s; use rev;");
    House.due("no POINTS", h.x.told(12), 0);
  }

  private static void toldOrder() {
    House h = new House();
    for (int what : new int[] {-1, 13, 14, Integer.MIN_VALUE, Integer.MAX_VALUE}) {
      House.due("told(" + what + ") without an ask", h.x.told(what), -1);
    }
    h.ask("find n -> n; use 1;");
    House.due("told(-1)", h.x.told(-1), -1);
    House.due("told(13)", h.x.told(13), -1);
    Blocks.goDown(h);
    for (int what : new int[] {-1, 0, 7, 8, 12, 13}) {
      House.due("told(" + what + ") when DOWN", h.x.told(what), -5);
    }
  }

  private static void placeOfTheLatest() {
    House h = new House();
    House.due("before any", h.x.place(), -1);
    h.value("1");
    House.due("before any fault", h.x.place(), -1);
    h.cheaper("1");
    House.due("a STATE is no fault", h.x.place(), -1);
    h.fault("of value", h.value("x"), 2, 0);
    h.fault("of ask", h.ask("find n -> n; use foo;"), 2, 17);
    h.fault("of act", h.act("act add n -> n = a"), 2, 4);
    h.fault("of cheaper", h.cheaper("  a"), 2, 2);
    h.fault("of sketch", h.sketch("   a"), 2, 3);
    h.fault("of mend", h.mend("     a", 1), 2, 5);
    h.fault("of loop", h.loop("loop n"), 1, 6);
    h.fault("of keeps", h.keeps("       a"), 2, 7);
    h.fault("of value again", h.value("8 8"), 1, 2);
  }

  private static void placeStays() {
    House h = new House();
    h.fault("a fault", h.value("    x"), 2, 4);
    h.value("1");
    h.ask("find n -> n; use 1;");
    h.mend("1", 0);
    h.learn("x1");
    h.example("a", "");
    h.word("c", true);
    h.apply("c1");
    h.x.find(0);
    h.x.keep();
    House.due("what is no FAULT leaves it", h.x.place(), 4);
    Blocks.goDown(h);
    h.tape("x");
    h.x.value();
    House.due("a call that is refused by DOWN leaves it", h.x.place(), 4);
    h.x.start();
    House.due("start() leaves it", h.x.place(), 4);
  }
}
