/** What README.md tells of the class's use: the calls that it shows answer what it says. */
public final class ReadmeTest {
  public static void main(String[] args) {
    texts();
    faults();
    exceptions();
    whatLasts();
    House.finish();
  }

  private static void lay(FinderHouse x, String text) {
    x.end(0);
    for (int i = 0; i < text.length(); i += 20) {
      int[] five = new int[5];
      for (int k = 0; k < 20 && i + k < text.length(); k++) {
        five[k / 4] |= text.charAt(i + k) << 24 - 8 * (k % 4);
      }
      x.feed(five[0], five[1], five[2], five[3], five[4]);
    }
    x.end(text.length());
  }

  private static void texts() {
    FinderHouse x = new FinderHouse();
    House.due("feed", x.feed(0x61646428, 0x312c3229, 0, 0, 0), 20);
    x.end(8);
    House.due("value", x.value(), 3);
    House.due("the tape is used up", x.told(7), 0);
    lay(x, "find n n -> n; use add, min, 1; row 3 4 = 8; row 0 0 = 1;");
    House.due("ask", x.ask(), 256);
    House.due("find", x.find(5), 5);
    String term = "add(a,add(b,1))";
    for (int i = 0; i < term.length(); i++) {
      House.due("byteOf " + i, x.byteOf(i), term.charAt(i));
    }
    House.due("byteOf behind the last", x.byteOf(term.length()), FinderHouse.NONE);
    House.due("answer", x.answer(2), 3);
  }

  private static void faults() {
    FinderHouse x = new FinderHouse();
    lay(x, "add(1,true)");
    House.due("a wrong kind", x.value(), -13);
    House.due("its place", x.place(), 6);
    House.due("the tape is used up", x.told(7), 0);
  }

  private static void exceptions() {
    FinderHouse x = new FinderHouse();
    for (int i = 0; i < 100; i++) {
      x.feed(i, i, i, i, i);
    }
    String thrown = "";
    try {
      x.feed(0, 0, 0, 0, 0);
    } catch (IllegalStateException e) {
      thrown += "feed ";
    }
    try {
      x.end(2001);
    } catch (IllegalArgumentException e) {
      thrown += "end ";
    }
    try {
      x.octet(201, 0);
    } catch (IndexOutOfBoundsException e) {
      thrown += "octet ";
    }
    try {
      x.poke(1, 128, 1);
    } catch (IndexOutOfBoundsException e) {
      thrown += "poke";
    }
    House.due("what throws", thrown, "feed end octet poke");
    House.due("the tape stays", x.told(7), 2000);
  }

  private static void whatLasts() {
    FinderHouse x = new FinderHouse();
    lay(x, "act up n -> n = add(a,1)");
    House.due("act", x.act(), 1);
    House.due("records that wait", x.told(4), 1);
    House.due("sync", x.sync(), 1);
    lay(x, "act down n -> n = sub(a,1)");
    House.due("act", x.act(), 2);
    House.due("cut", x.cut(0, 50), 1);
    House.due("sync without power", x.sync(), FinderHouse.LOST);
    House.due("told", x.told(0), FinderHouse.DOWN);
    lay(x, "up(4)");
    House.due("value", x.value(), FinderHouse.DOWN);
    House.due("start", x.start(), 1);
    House.due("own acts", x.told(0), 1);
    House.due("the tape stays", x.value(), 5);
    lay(x, "down(4)");
    House.due("what was lost", x.value(), -12);
    House.due("nothing waits", x.told(4), 0);
  }
}
