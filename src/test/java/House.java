import java.nio.charset.StandardCharsets;

/** A FinderHouse with texts for its tape, and the checks that all tests share. */
final class House {
  final Calls x = new Calls();
  private static int wrong;
  private static int checks;

  /** Lays a text on the tape, and nothing else. */
  House tape(String text) {
    byte[] bytes = text.getBytes(StandardCharsets.ISO_8859_1);
    x.end(0);
    for (int i = 0; i < bytes.length; i += 20) {
      x.feed(number(bytes, i), number(bytes, i + 4), number(bytes, i + 8), number(bytes, i + 12), number(bytes, i + 16));
    }
    x.end(bytes.length);
    return this;
  }

  private static int number(byte[] bytes, int from) {
    int n = 0;
    for (int i = from; i < from + 4; i++) {
      n = n << 8 | (i < bytes.length ? bytes[i] & 255 : 0);
    }
    return n;
  }

  int ask(String text) {
    tape(text);
    return x.ask();
  }

  int act(String text) {
    tape(text);
    return x.act();
  }

  int value(String text) {
    tape(text);
    return x.value();
  }

  int cheaper(String text) {
    tape(text);
    return x.cheaper();
  }

  int sketch(String text) {
    tape(text);
    return x.sketch();
  }

  int mend(String text, int p) {
    tape(text);
    return x.mend(p);
  }

  int learn(String name) {
    tape(name);
    return x.learn();
  }

  int loop(String text) {
    tape(text);
    return x.loop();
  }

  int keeps(String text) {
    tape(text);
    return x.keeps();
  }

  int example(String in, String out) {
    tape(in + out);
    return x.example(in.length());
  }

  int word(String letters, boolean good) {
    tape(letters);
    return x.word(good);
  }

  /** How many letters the program gives for a word, or the refusal. */
  int apply(String in) {
    tape(in);
    return x.apply();
  }

  /** THE TERM's text. */
  String term() {
    StringBuilder text = new StringBuilder();
    for (int b = x.byteOf(0); b >= 0; b = x.byteOf(text.length())) {
      text.append((char) b);
    }
    return text.toString();
  }

  String kept(int k) {
    StringBuilder text = new StringBuilder();
    int size = x.kept(k, -1);
    for (int i = 0; i < size; i++) {
      text.append((char) x.kept(k, i));
    }
    return text.toString();
  }

  String own(int k) {
    StringBuilder text = new StringBuilder();
    int size = x.own(k, -1);
    for (int i = 0; i < size; i++) {
      text.append((char) x.own(k, i));
    }
    return text.toString();
  }

  static void due(String what, long got, long want) {
    checks++;
    if (got != want) {
      wrong++;
      System.out.println(what + " answered " + got + ", due is " + want);
    }
  }

  static void due(String what, String got, String want) {
    checks++;
    if (!got.equals(want)) {
      wrong++;
      System.out.println(what + " answered " + got + ", due is " + want);
    }
  }

  static void wrong(String what) {
    checks++;
    wrong++;
    System.out.println(what);
  }

  /** A FAULT at a place. */
  void fault(String what, int answer, int fault, int place) {
    due(what, answer, -10 - fault);
    due(what + ", its place", x.place(), place);
  }

  static void finish() {
    System.out.println(checks + " checks, " + wrong + " wrong");
    if (wrong != 0 || checks == 0) {
      System.exit(1);
    }
  }
}
