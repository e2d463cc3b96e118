/** Promises 1 to 5: a new object, the tape, told, place. */
public final class TapeTest {
  public static void main(String[] args) {
    newObject();
    feeding();
    ending();
    telling();
    House.finish();
  }

  private static void newObject() {
    House h = new House();
    for (int what = 0; what <= 7; what++) {
      House.due("told(" + what + ") of a new house", h.x.told(what), 0);
    }
    for (int what = 8; what <= 12; what++) {
      House.due("told(" + what + ") without an ask", h.x.told(what), FinderHouse.STATE);
    }
    House.due("place() before any", h.x.place(), FinderHouse.NONE);
    House.due("mended() before any", h.x.mended(), FinderHouse.NONE);
    House.due("worked() before any", h.x.worked(), 0);
    House.due("byteOf(0) without THE TERM", h.x.byteOf(0), FinderHouse.NONE);
    House.due("answer(0) without THE TERM", h.x.answer(0), -2);
    House.due("point(0, 0) without an ask", h.x.point(0, 0), -2);
    House.due("find(1) without an ask", h.x.find(1), FinderHouse.STATE);
    House.due("runs(0, 0) without a loop", h.x.runs(0, 0), FinderHouse.STATE);
    House.due("start() of a house that is not DOWN", h.x.start(), FinderHouse.STATE);
    House.due("sync() of nothing", h.x.sync(), 0);
    for (int i = 0; i < 128; i++) {
      House.due("octet(1, " + i + ")", h.x.octet(1, i), 0);
      House.due("octet(200, " + i + ")", h.x.octet(200, i), 0);
    }
  }

  private static void feeding() {
    House h = new House();
    for (int i = 1; i <= 100; i++) {
      House.due("feed", h.x.feed(0, 1, 2, 3, 4), 20 * i);
    }
    int thrown = 0;
    try {
      h.x.feed(0, 0, 0, 0, 0);
    } catch (IllegalStateException e) {
      thrown = 1;
    }
    House.due("feed beyond 2000 bytes throws", thrown, 1);
    House.due("bytes on the tape behind that", h.x.told(7), 2000);
    h.x.end(1981);
    thrown = 0;
    try {
      h.x.feed(0, 0, 0, 0, 0);
    } catch (IllegalStateException e) {
      thrown = 1;
    }
    House.due("feed of 20 bytes where 19 are left throws", thrown, 1);
    h.x.end(1980);
    House.due("feed of the last 20 bytes", h.x.feed(0, 0, 0, 0, 0), 2000);
    House.due("what is no text", h.x.value(), -11);
    House.due("the tape is used up", h.x.told(7), 0);
    h.tape("sub(12,3)");
    House.due("bytes come in their order", h.x.value(), 9);
  }

  private static void ending() {
    House h = new House();
    h.x.feed(1, 2, 3, 4, 5);
    int thrown = 0;
    for (int n : new int[] {21, -1, Integer.MAX_VALUE, Integer.MIN_VALUE}) {
      try {
        h.x.end(n);
      } catch (IllegalArgumentException e) {
        thrown++;
      }
    }
    House.due("end that throws", thrown, 4);
    House.due("bytes behind that", h.x.told(7), 20);
    h.x.end(20);
    House.due("end(20)", h.x.told(7), 20);
    h.x.end(7);
    House.due("end(7)", h.x.told(7), 7);
    h.x.end(0);
    House.due("end(0)", h.x.told(7), 0);
  }

  private static void telling() {
    House h = new House();
    House.due("told(-1)", h.x.told(-1), FinderHouse.NONE);
    House.due("told(13)", h.x.told(13), FinderHouse.NONE);
    House.due("ask", h.ask("find n t -> n; use add, 1, if:9; row 1 true = 2; row 2 false = error; law x:n -> f(x, true) = x;"), 32);
    House.due("parameters", h.x.told(8), 2);
    House.due("pieces", h.x.told(9), 3);
    House.due("rows", h.x.told(10), 2);
    House.due("laws", h.x.told(11), 1);
    House.due("points", h.x.told(12), 32);
    h.act("act inc n -> n = add(a,1)");
    House.due("own acts", h.x.told(0), 1);
    House.due("records that wait", h.x.told(4), 1);
    House.due("their bytes", h.x.told(5), 3 + 25);
    h.example("abc", "b");
    h.word("ab", true);
    House.due("word rows", h.x.told(2), 1);
    House.due("words for machines", h.x.told(3), 1);
    House.due("records that wait", h.x.told(4), 3);
    House.due("their bytes", h.x.told(5), 28 + 3 + 5 + 3 + 3);
    House.due("sync", h.x.sync(), 1);
    House.due("records that wait behind a sync", h.x.told(4), 0);
    House.due("their bytes behind a sync", h.x.told(5), 0);
    House.due("blocks used", h.x.told(6), 1);
    h.fault("a fault", h.value("add(1,)"), 1, 6);
    House.due("a term", h.value("add(1,2)"), 3);
    House.due("the latest fault stays", h.x.place(), 6);
    h.fault("another", h.value("  x"), 2, 2);
  }
}
