/** A FinderHouse whose calls are counted: what it answers behind its 512th is not promised, so no test may look at that. */
final class Calls {
  private static final int MOST = 512;
  private final FinderHouse house = new FinderHouse();
  private int made;

  private void count() {
    made++;
    if (made == MOST + 1) {
      House.wrong("a test makes more than " + MOST + " calls on one object, by " + caller());
    }
  }

  /** The test's method that made the call too many. */
  private static String caller() {
    String name = "";
    for (StackTraceElement frame : new Throwable().getStackTrace()) {
      if (frame.getClassName().endsWith("Test") && !frame.getMethodName().equals("main")) {
        name = frame.getClassName() + "." + frame.getMethodName();
      }
    }
    return name;
  }

  /** How many calls are left. */
  int left() {
    return MOST - made;
  }

  int feed(int a, int b, int c, int d, int e) {
    count();
    return house.feed(a, b, c, d, e);
  }

  void end(int n) {
    count();
    house.end(n);
  }

  int told(int what) {
    count();
    return house.told(what);
  }

  int place() {
    count();
    return house.place();
  }

  int ask() {
    count();
    return house.ask();
  }

  int act() {
    count();
    return house.act();
  }

  int find(int p) {
    count();
    return house.find(p);
  }

  long count(int p) {
    count();
    return house.count(p);
  }

  int ith(int p, long i) {
    count();
    return house.ith(p, i);
  }

  int different(int p) {
    count();
    return house.different(p);
  }

  int question(int p) {
    count();
    return house.question(p);
  }

  int cheaper() {
    count();
    return house.cheaper();
  }

  int sketch() {
    count();
    return house.sketch();
  }

  int mend(int p) {
    count();
    return house.mend(p);
  }

  int mended() {
    count();
    return house.mended();
  }

  int byteOf(int i) {
    count();
    return house.byteOf(i);
  }

  int answer(int i) {
    count();
    return house.answer(i);
  }

  int point(int i, int k) {
    count();
    return house.point(i, k);
  }

  int value() {
    count();
    return house.value();
  }

  int worked() {
    count();
    return house.worked();
  }

  int keep() {
    count();
    return house.keep();
  }

  int kept(int k, int i) {
    count();
    return house.kept(k, i);
  }

  int learn() {
    count();
    return house.learn();
  }

  int own(int k, int i) {
    count();
    return house.own(k, i);
  }

  int loop() {
    count();
    return house.loop();
  }

  int runs(int i, int what) {
    count();
    return house.runs(i, what);
  }

  int span(int v, int what) {
    count();
    return house.span(v, what);
  }

  int keeps() {
    count();
    return house.keeps();
  }

  int example(int n) {
    count();
    return house.example(n);
  }

  int clear() {
    count();
    return house.clear();
  }

  int fit() {
    count();
    return house.fit();
  }

  long fitting(int m) {
    count();
    return house.fitting(m);
  }

  int part(int i, int what) {
    count();
    return house.part(i, what);
  }

  int apply() {
    count();
    return house.apply();
  }

  int word(boolean good) {
    count();
    return house.word(good);
  }

  int forget() {
    count();
    return house.forget();
  }

  int machine() {
    count();
    return house.machine();
  }

  int state(int i, int what) {
    count();
    return house.state(i, what);
  }

  int shortest(long goal, int most) {
    count();
    return house.shortest(goal, most);
  }

  int step(int i) {
    count();
    return house.step(i);
  }

  long goal(long acts, int n) {
    count();
    return house.goal(acts, n);
  }

  int sync() {
    count();
    return house.sync();
  }

  int cut(int n, int tear) {
    count();
    return house.cut(n, tear);
  }

  int start() {
    count();
    return house.start();
  }

  int octet(int block, int i) {
    count();
    return house.octet(block, i);
  }

  int poke(int block, int i, int mask) {
    count();
    return house.poke(block, i, mask);
  }
}
