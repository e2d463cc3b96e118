import java.util.Arrays;

/** A house that looks for programs: terms, loops, word programs and small machines; what is learnt lasts on a disk. */
public final class FinderHouse {
  public static final int NONE = -1, STATE = -2, ROOM = -3, LOST = -4, DOWN = -5;

  private static final int N = 1, T = 2, S = 3;
  private static final int ERROR = -1;
  private static final int LETTERS = 27;
  private static final int TAPE = 2000;
  private static final int POINTS = 256;
  private static final int OWN_ACTS = 10;
  private static final int PRICE = 12;
  private static final int DEPTH = 12;
  private static final int WEIGHT = 40;
  private static final int KEPT_SIZE = 30;
  /** A WEIGHT of 40 with three operands each is 121 terms. */
  private static final int TERM_SIZE = 121;
  private static final int NO_HOLES = -1;
  private static final int NO_NUMBERS = 4096;
  private static final int NOT_MENDED = 100;
  private static final long WORK = 1000000000L;

  private final byte[] tape = new byte[TAPE];
  private int tapeSize;
  private boolean down;
  private int faultPlace = NONE;
  private int mendPlace = NONE;
  private int workedActs;
  private long work;
  private final Acts acts = new Acts();
  private final Reader reader = new Reader(acts);
  private Ask asked = new Ask();
  private Ask spare = new Ask();
  private boolean hasAsk;
  private final Search search = new Search(acts);
  private final Shelf shelf = new Shelf(acts);
  private final Loops loops = new Loops(acts);
  private final WordRows wordRows = new WordRows();
  private final Machines machines = new Machines();
  private final Disk disk = new Disk();

  public FinderHouse() {
  }

  // ---- the tape

  public int feed(int a, int b, int c, int d, int e) throws IllegalStateException {
    if (tapeSize + 20 > TAPE) {
      throw new IllegalStateException("the tape has 2000 bytes at most");
    }
    feedNumber(a);
    feedNumber(b);
    feedNumber(c);
    feedNumber(d);
    feedNumber(e);
    return tapeSize;
  }

  private void feedNumber(int number) {
    for (int shift = 24; shift >= 0 && tapeSize < TAPE; shift -= 8) {
      tape[tapeSize] = (byte) (number >>> shift);
      tapeSize++;
    }
  }

  public void end(int n) throws IllegalArgumentException {
    if (n < 0 || n > tapeSize) {
      throw new IllegalArgumentException("the tape has not so many bytes");
    }
    tapeSize = n;
  }

  /** How many bytes there are to read; the tape is empty from then on. */
  private int takeTape() {
    int size = tapeSize;
    tapeSize = 0;
    return size;
  }

  public int told(int what) {
    if (down) {
      return DOWN;
    }
    switch (what) {
      case 0: return acts.owned;
      case 1: return shelf.keptCount;
      case 2: return wordRows.rows;
      case 3: return machines.words;
      case 4: return disk.waiting;
      case 5: return disk.waitingBytes;
      case 6: return disk.used;
      case 7: return tapeSize;
      default: return toldOfAsk(what);
    }
  }

  private int toldOfAsk(int what) {
    if (what < 8 || what > 12) {
      return NONE;
    }
    if (!hasAsk) {
      return STATE;
    }
    switch (what) {
      case 8: return asked.params;
      case 9: return asked.pieces;
      case 10: return asked.rows;
      case 11: return asked.laws;
      default: return asked.points;
    }
  }

  public int place() {
    return faultPlace;
  }

  /** The answer for the FAULT that the reader met, whose place is remembered. */
  private int refuseFault() {
    faultPlace = reader.faultAt;
    return -10 - reader.fault;
  }

  // ---- asks, terms

  public int ask() {
    if (down) {
      return DOWN;
    }
    reader.readAsk(tape, takeTape(), spare);
    if (reader.fault != 0) {
      return refuseFault();
    }
    Ask before = asked;
    asked = spare;
    spare = before;
    hasAsk = true;
    asked.layPoints();
    search.begin(asked);
    return asked.points;
  }

  public int act() {
    if (down) {
      return DOWN;
    }
    int answer = makeAct(tape, 0, takeTape(), true);
    return answer < -10 ? refuseFault() : answer;
  }

  /** Makes an own act of a text; what is done again has no record. */
  private int makeAct(byte[] text, int from, int size, boolean recorded) {
    reader.readAct(text, from, size);
    if (reader.fault != 0) {
      return -10 - reader.fault;
    }
    if (recorded && !disk.hasRoom(size)) {
      return ROOM;
    }
    acts.addOwn(reader.actName, reader.scopeKinds, reader.scope, reader.nodes, reader.kind);
    if (recorded) {
      disk.record(1, size);
      disk.putAll(text, from, size);
    }
    return acts.owned;
  }

  /** Why terms up to this price cannot be looked at; 0 if they can. */
  private int refusePrice(int p) {
    if (down) {
      return DOWN;
    }
    if (p < 1 || p > PRICE) {
      return NONE;
    }
    if (!hasAsk) {
      return STATE;
    }
    return search.reaches(p) ? 0 : ROOM;
  }

  public int find(int p) {
    int refusal = refusePrice(p);
    if (refusal != 0) {
      return refusal;
    }
    int entry = search.firstMeeting(p);
    if (entry < 0) {
      return 0;
    }
    return tellEntry(entry);
  }

  /** The first term of an entry becomes THE TERM: its price. */
  private int tellEntry(int entry) {
    search.writeEntry(entry);
    shelf.tell(search.term, asked, search.functions.table, search.rowOf(entry));
    return search.priceOf(entry);
  }

  public long count(int p) {
    int refusal = refusePrice(p);
    return refusal != 0 ? refusal : search.countMeeting(p);
  }

  public int ith(int p, long i) {
    int refusal = refusePrice(p);
    if (refusal != 0) {
      return refusal;
    }
    if (i < 0 || i >= search.countMeeting(p)) {
      return NONE;
    }
    int function = search.chooseMeeting(p, i);
    if (function < 0) {
      return NONE;
    }
    shelf.tell(search.term, asked, search.functions.table, function * POINTS);
    return shelf.textSize;
  }

  public int different(int p) {
    int refusal = refusePrice(p);
    return refusal != 0 ? refusal : search.listMeeting(p);
  }

  public int question(int p) {
    int refusal = refusePrice(p);
    return refusal != 0 ? refusal : search.partingPoint(p);
  }

  /** Reads the tape as a term of the ask's parameters, or of none where there is no ask. */
  private void readTold(int wanted, int holes) {
    reader.setScope(hasAsk ? asked.params : 0, asked.kinds);
    reader.readTold(tape, 0, takeTape(), hasAsk ? wanted : 0, holes);
  }

  public int cheaper() {
    if (down) {
      return DOWN;
    }
    readTold(0, NO_HOLES);
    if (reader.fault != 0) {
      return refuseFault();
    }
    if (!hasAsk) {
      return STATE;
    }
    int price = asked.priceOf(reader.nodes);
    if (price < 1 || price > PRICE) {
      return STATE;
    }
    if (!search.reaches(price)) {
      return ROOM;
    }
    int entry = search.firstAlike(reader.nodes, reader.kind);
    return entry < 0 ? STATE : tellEntry(entry);
  }

  public int sketch() {
    if (down) {
      return DOWN;
    }
    readTold(asked.kinds[3], 0);
    if (reader.fault != 0) {
      return refuseFault();
    }
    if (!hasAsk || reader.holes < 1) {
      return STATE;
    }
    long wanted = (1L << (4 * reader.holes)) * asked.points * reader.nodes.size;
    if (work + wanted > WORK) {
      return ROOM;
    }
    work += wanted;
    int numbers = search.fillHoles(reader.nodes, reader.holes);
    if (numbers != NO_NUMBERS) {
      shelf.tell(reader.nodes, asked, search.trial, 0);
    }
    return numbers;
  }

  public int mend(int p) {
    if (down) {
      return DOWN;
    }
    int size = takeTape();
    if (p < 1 || p > PRICE) {
      return NONE;
    }
    tapeSize = size;
    readTold(asked.kinds[3], NO_HOLES);
    if (reader.fault != 0) {
      return refuseFault();
    }
    if (!hasAsk) {
      return STATE;
    }
    if (!search.reaches(p)) {
      return ROOM;
    }
    long terms = reader.nodes.size;
    long wanted = search.functionsUpTo(p) * (long) asked.points * terms * terms;
    if (work + wanted > WORK) {
      return ROOM;
    }
    work += wanted;
    if (search.meetsAsItIs(reader.nodes)) {
      shelf.tell(reader.nodes, asked, search.trial, 0);
      return 0;
    }
    int entry = search.mendTerm(reader.nodes, p);
    if (entry < 0) {
      return NOT_MENDED;
    }
    mendPlace = search.mendPlace;
    shelf.tell(search.mended, asked, search.trial, 0);
    return search.priceOf(entry);
  }

  public int mended() {
    return mendPlace;
  }

  public int byteOf(int i) {
    return i >= 0 && i < shelf.textSize ? shelf.text[i] : NONE;
  }

  public int answer(int i) {
    return i >= 0 && i < shelf.points ? shelf.answers[i] : -2;
  }

  public int point(int i, int k) {
    if (!hasAsk || i < 0 || i >= asked.points || k < 0 || k >= asked.params) {
      return -2;
    }
    return asked.pointValues[k * POINTS + i];
  }

  public int value() {
    if (down) {
      return DOWN;
    }
    reader.setScope(0, asked.kinds);
    reader.readTold(tape, 0, takeTape(), 0, NO_HOLES);
    if (reader.fault != 0) {
      return refuseFault();
    }
    int answer = acts.answerOf(reader.nodes, 0, 0, 0);
    workedActs = acts.workedActs();
    return answer;
  }

  public int worked() {
    return workedActs;
  }

  // ---- kept terms, loops

  public int keep() {
    if (down) {
      return DOWN;
    }
    if (!shelf.canBeKept()) {
      return STATE;
    }
    int bytes = 1 + shelf.params + shelf.textSize;
    if (shelf.isFull() || !disk.hasRoom(bytes)) {
      return ROOM;
    }
    disk.record(2, bytes);
    disk.put(shelf.params);
    for (int k = 0; k < shelf.params; k++) {
      disk.put(kindLetter(shelf.kinds[k]));
    }
    disk.putAll(shelf.text, 0, shelf.textSize);
    return shelf.addKept(shelf.term);
  }

  private static int kindLetter(int kind) {
    return kind == N ? 'n' : kind == T ? 't' : kind == S ? 's' : 0;
  }

  private static int kindOfLetter(int letter) {
    return letter == 'n' ? N : letter == 't' ? T : letter == 's' ? S : 0;
  }

  public int kept(int k, int i) {
    if (down) {
      return DOWN;
    }
    if (k < 0 || k >= shelf.keptCount) {
      return NONE;
    }
    return shelf.byteOrSize(shelf.kept[k], i);
  }

  public int learn() {
    if (down) {
      return DOWN;
    }
    return learnName(tape, 0, takeTape(), true);
  }

  private int learnName(byte[] text, int from, int size, boolean recorded) {
    long name = Reader.nameIn(text, from, size);
    if (name == 0 || acts.isTaken(name)) {
      return NONE;
    }
    int saving = shelf.findBest();
    if (saving < 1) {
      return STATE;
    }
    if (acts.owned >= OWN_ACTS || recorded && !disk.hasRoom(size)) {
      return ROOM;
    }
    shelf.putBestInPlace(name);
    if (recorded) {
      disk.record(3, size);
      disk.putAll(text, from, size);
    }
    return saving;
  }

  public int own(int k, int i) {
    if (down) {
      return DOWN;
    }
    if (k < 0 || k >= acts.owned || i < -4) {
      return NONE;
    }
    int row = (Acts.KNOWN + k) * 4;
    switch (i) {
      case -2: return kindLetter(acts.kinds[row]);
      case -3: return kindLetter(acts.kinds[row + 1]);
      case -4: return kindLetter(acts.kinds[row + 3]);
      default: return shelf.byteOrSize(acts.terms[k], i);
    }
  }

  public int loop() {
    if (down) {
      return DOWN;
    }
    reader.readLoop(tape, takeTape(), loops);
    if (reader.fault != 0) {
      return refuseFault();
    }
    loops.runAll();
    return loops.met;
  }

  public int runs(int i, int what) {
    if (down) {
      return DOWN;
    }
    if (!loops.there) {
      return STATE;
    }
    return loops.tellRun(i, what);
  }

  public int span(int v, int what) {
    if (down) {
      return DOWN;
    }
    if (!loops.there) {
      return STATE;
    }
    return loops.tellSpan(v, what);
  }

  public int keeps() {
    if (down) {
      return DOWN;
    }
    reader.setScope(loops.there ? loops.vars : 0, loops.varKinds);
    reader.readTold(tape, 0, takeTape(), T, NO_HOLES);
    if (reader.fault != 0) {
      return refuseFault();
    }
    if (!loops.there) {
      return STATE;
    }
    return loops.firstBreak(reader.nodes);
  }

  // ---- words

  public int example(int n) {
    if (down) {
      return DOWN;
    }
    int size = takeTape();
    return addRow(tape, 0, size, n, true);
  }

  private int addRow(byte[] text, int from, int size, int n, boolean recorded) {
    if (n < 0 || n > 10 || size - n < 1 || size - n > 10 || !lettersIn(text, from, size, 'z')) {
      return NONE;
    }
    if (wordRows.isFull() || recorded && !disk.hasRoom(size + 1)) {
      return ROOM;
    }
    wordRows.addRow(text, from, n, size - n);
    if (recorded) {
      disk.record(6, size + 1);
      disk.put(n);
      disk.putAll(text, from, size);
    }
    return wordRows.rows;
  }

  /** Whether these bytes are letters from a to the last one named. */
  private static boolean lettersIn(byte[] text, int from, int size, int last) {
    if (from < 0 || size < 0 || from + size > text.length) {
      return false;
    }
    for (int i = from; i < from + size; i++) {
      if (text[i] < 'a' || text[i] > last) {
        return false;
      }
    }
    return true;
  }

  public int clear() {
    if (down) {
      return DOWN;
    }
    int many = wordRows.rows;
    if (many > 0) {
      if (!disk.hasRoom(0)) {
        return ROOM;
      }
      disk.record(7, 0);
      wordRows.empty();
    }
    return many;
  }

  public int fit() {
    if (down) {
      return DOWN;
    }
    if (wordRows.rows == 0) {
      return STATE;
    }
    return wordRows.solve() ? wordRows.takeFirst() : ROOM;
  }

  public long fitting(int m) {
    if (down) {
      return DOWN;
    }
    if (m < 1 || m > 4) {
      return NONE;
    }
    if (wordRows.rows == 0) {
      return STATE;
    }
    return wordRows.solve() ? wordRows.countPrograms(m) : ROOM;
  }

  public int part(int i, int what) {
    return wordRows.tellPart(i, what);
  }

  public int apply() {
    if (down) {
      return DOWN;
    }
    int size = takeTape();
    if (size > 10 || !lettersIn(tape, 0, size, 'z')) {
      return NONE;
    }
    if (wordRows.parts == 0) {
      return STATE;
    }
    int given = wordRows.giveFor(tape, size);
    if (given < 0) {
      return NONE;
    }
    tapeSize = given;
    return given;
  }

  public int word(boolean good) {
    if (down) {
      return DOWN;
    }
    return addWord(tape, 0, takeTape(), good ? 1 : 0, true);
  }

  private int addWord(byte[] text, int from, int size, int good, boolean recorded) {
    if (size < 0 || size > 8 || !lettersIn(text, from, size, 'b')) {
      return NONE;
    }
    int known = machines.wordTold(text, from, size);
    if (known >= 0) {
      return known == good ? machines.words : STATE;
    }
    if (machines.isFull() || recorded && !disk.hasRoom(size + 1)) {
      return ROOM;
    }
    machines.addWord(text, from, size, good);
    if (recorded) {
      disk.record(4, size + 1);
      disk.put(good);
      disk.putAll(text, from, size);
    }
    return machines.words;
  }

  public int forget() {
    if (down) {
      return DOWN;
    }
    int many = machines.words;
    if (many > 0) {
      if (!disk.hasRoom(0)) {
        return ROOM;
      }
      disk.record(5, 0);
      machines.words = 0;
    }
    return many;
  }

  public int machine() {
    return down ? DOWN : machines.findLeast();
  }

  public int state(int i, int what) {
    return machines.tellState(i, what);
  }

  public int shortest(long goal, int most) {
    if (down) {
      return DOWN;
    }
    if (most < 0 || most > 5) {
      return NONE;
    }
    return machines.findRow(goal, most);
  }

  public int step(int i) {
    return i >= 0 && i < machines.rowSize ? machines.row[i] : NONE;
  }

  public long goal(long acts, int n) {
    return Machines.goalOf(acts, n);
  }

  // ---- the disk

  public int sync() {
    if (down) {
      return DOWN;
    }
    int blocks = disk.writeWaiting();
    down = blocks == LOST;
    return blocks;
  }

  public int cut(int n, int tear) {
    if (down) {
      return DOWN;
    }
    if (n < -1 || n > 400 || tear < 0 || tear > 127) {
      return NONE;
    }
    disk.cutAt = n;
    disk.tear = tear;
    return 1;
  }

  public int start() {
    if (!down) {
      return STATE;
    }
    down = false;
    hasAsk = false;
    loops.there = false;
    acts.owned = 0;
    shelf.empty();
    wordRows.empty();
    machines.words = 0;
    disk.findUsed();
    int again = 0;
    for (int block = 1; block <= disk.used; block++) {
      if (!disk.gather(block)) {
        continue;
      }
      int size = disk.waitingBytes;
      int follow = 0;
      for (int at = 3; at <= size; at += follow + 3) {
        int number = disk.wait[at - 3];
        follow = (disk.wait[at - 2] & 255) * 256 + (disk.wait[at - 1] & 255);
        if (number < 1 || number > 7 || at + follow > size) {
          break;
        }
        again += redo(number, disk.wait, at, follow) ? 1 : 0;
      }
      disk.forgetWaiting();
    }
    return again;
  }

  /** Whether a record could be done again. */
  private boolean redo(int number, byte[] bytes, int at, int size) {
    switch (number) {
      case 1:
        return size <= TAPE && makeAct(bytes, at, size, false) >= 0;
      case 2:
        return size <= TAPE && redoKeep(bytes, at, size);
      case 3:
        return learnName(bytes, at, size, false) >= 0;
      case 4:
        return size >= 1 && (bytes[at] == 0 || bytes[at] == 1)
            && addWord(bytes, at + 1, size - 1, bytes[at], false) >= 0;
      case 6:
        return size >= 1 && addRow(bytes, at + 1, size - 1, bytes[at], false) >= 0;
      default:
        return size == 0 && redoEmptying(number);
    }
  }

  private boolean redoEmptying(int number) {
    if (number == 5) {
      machines.words = 0;
    } else {
      wordRows.empty();
    }
    return true;
  }

  private boolean redoKeep(byte[] bytes, int at, int size) {
    int params = size >= 1 ? bytes[at] : 0;
    if (params < 1 || params > 3 || size < 1 + params) {
      return false;
    }
    for (int k = 0; k < params; k++) {
      shelf.kinds[k] = kindOfLetter(bytes[at + 1 + k]);
      if (shelf.kinds[k] == 0) {
        return false;
      }
    }
    reader.setScope(params, shelf.kinds);
    reader.readTold(bytes, at + 1 + params, size - 1 - params, 0, NO_HOLES);
    if (reader.fault != 0 || reader.nodes.size > KEPT_SIZE || shelf.isFull()) {
      return false;
    }
    shelf.addKept(reader.nodes);
    return true;
  }

  public int octet(int block, int i) throws IndexOutOfBoundsException {
    if (!disk.has(block, i)) {
      throw new IndexOutOfBoundsException("no such byte on the disk");
    }
    return disk.blocks[Disk.at(block, i)] & 255;
  }

  public int poke(int block, int i, int mask) throws IndexOutOfBoundsException {
    if (!disk.has(block, i)) {
      throw new IndexOutOfBoundsException("no such byte on the disk");
    }
    int at = Disk.at(block, i);
    disk.blocks[at] = (byte) (disk.blocks[at] ^ mask);
    return disk.blocks[at] & 255;
  }

  /** A term: its nodes in the order of its text, each before its operands, and where each one's part ends. */
  private static final class Term {
    final int[] op;
    final int[] val;
    final int[] end;
    int size;

    Term(int most) {
      op = new int[most];
      val = new int[most];
      end = new int[most];
    }

    /** Adds a node without operands: its number, or -1 if there is no room. */
    int add(int newOp, int newVal) {
      if (size >= op.length) {
        return -1;
      }
      op[size] = newOp;
      val[size] = newVal;
      end[size] = size + 1;
      size++;
      return size - 1;
    }

    /** All that was added behind a node are its operands. */
    void close(int i) {
      if (i >= 0 && i < size) {
        end[i] = size;
      }
    }

    /** The node of operand k of node i, or -1. */
    int operand(int i, int k) {
      if (i < 0 || i >= size) {
        return -1;
      }
      int at = i + 1;
      for (int j = 0; j < k && at < end[i]; j++) {
        at = end[at];
      }
      return at < end[i] ? at : -1;
    }

    /** Adds a part of another term, if there is room. */
    void addPart(Term from, int i) {
      if (i < 0 || i >= from.size) {
        return;
      }
      int many = from.end[i] - i;
      if (size + many > op.length) {
        return;
      }
      for (int j = 0; j < many; j++) {
        op[size + j] = from.op[i + j];
        val[size + j] = from.val[i + j];
        end[size + j] = from.end[i + j] - i + size;
      }
      size += many;
    }

    void become(Term from) {
      size = 0;
      addPart(from, 0);
    }

    boolean samePart(int i, Term other, int j) {
      int many = end[i] - i;
      if (other.end[j] - j != many) {
        return false;
      }
      for (int k = 0; k < many; k++) {
        if (op[i + k] != other.op[j + k] || val[i + k] != other.val[j + k]) {
          return false;
        }
      }
      return true;
    }

    /** Becomes a told term with another one at one of its places. */
    void becomeMended(Term told, int place, Term put) {
      size = 0;
      if (place < 0 || place >= told.size) {
        return;
      }
      int behind = told.end[place];
      int more = put.size - (behind - place);
      for (int i = 0; i < place; i++) {
        int at = add(told.op[i], told.val[i]);
        if (at >= 0) {
          end[at] = told.end[i] > place ? told.end[i] + more : told.end[i];
        }
      }
      addPart(put, 0);
      for (int i = behind; i < told.size; i++) {
        int at = add(told.op[i], told.val[i]);
        if (at >= 0) {
          end[at] = told.end[i] + more;
        }
      }
    }

    /** Whether one of its terms stands within more others than that. */
    boolean isDeeperThan(int most) {
      for (int i = 0; i < size; i++) {
        int within = 0;
        for (int j = 0; j < i; j++) {
          if (end[j] > i) {
            within++;
          }
        }
        if (within > most) {
          return true;
        }
      }
      return false;
    }
  }

  /** The acts, known and own ones, and what they give. */
  private static final class Acts {
    static final int KNOWN = 26, ALL = 36;
    static final int ADD = 0, SUB = 1, MUL = 2, DIV = 3, REM = 4, MIN = 5, MAX = 6, AND = 7, OR = 8, XOR = 9;
    static final int LESS = 10, SAME = 11, NOT = 12, BOTH = 13, IF = 15, PICK = 16;
    static final int CAT = 17, LEN = 18, TAKE = 19, DROP = 20, HEAD = 22, LIKE = 23, CODE = 24, SIGN = 25;
    static final int[] POWERS = {1, 27, 729, 19683, 531441, 14348907, 387420489};
    /** What stands in a term and is no act; NUMBER + kind - 1 is a value of a kind. */
    static final int LEAF = 40, PARAMETER = 40, NUMBER = 41, TRUTH = 42, WORD = 43, HOLE = 44, UNKNOWN = 45;
    /** What is looked for, in laws: it has operands, but is no act. */
    static final int SOUGHT = 38;
    static final String NAMES = "add sub mul div rem min max and or xor less same not both any if pick cat len take drop rev head like code sign ";
    static final String KINDS = "nnn nnn nnn nnn nnn nnn nnn nnn nnn nnn nnt nnt tt ttt ttt tnnn tsss sss sn sns sns ss ss sst sn ns ";
    /** The terms that can be worked out within one another: a law's side, a told one and all own ones. */
    private static final int NESTED = OWN_ACTS + 1;
    private static final int ROOMS = (NESTED + 1) * TERM_SIZE;

    final long[] names = new long[ALL];
    /** Of each act the kinds of its three operands, 0 for none, and its own. */
    final int[] kinds = new int[ALL * 4];
    final int[] arity = new int[ALL];
    final int[] weight = new int[ALL];
    final Term[] terms = new Term[OWN_ACTS];
    int owned;
    /** Own acts of numbers and truths are worked out once for all operands: they are used at many points. */
    private final boolean[] tabled = new boolean[OWN_ACTS];
    private final int[] table = new int[OWN_ACTS * POINTS];
    private final int[] tableWorked = new int[OWN_ACTS * POINTS];
    private final int[] answers = new int[ROOMS];
    private final int[] worked = new int[ROOMS];
    /** What f stands for while laws are looked at: a term, or answers from a place on, by its operands' numbers of values. */
    private Term soughtTerm;
    private int[] sought;
    private int soughtAt;
    private int soughtSecond;
    private int soughtThird;

    Acts() {
      int nameAt = 0;
      int kindAt = 0;
      for (int k = 0; k < KNOWN; k++) {
        for (; nameAt < NAMES.length() && NAMES.charAt(nameAt) != ' '; nameAt++) {
          names[k] = names[k] * LETTERS + NAMES.charAt(nameAt) - 'a' + 1;
        }
        for (; kindAt < KINDS.length() && KINDS.charAt(kindAt) != ' '; kindAt++) {
          kinds[k * 4 + arity[k]] = kindOfLetter(KINDS.charAt(kindAt));
          arity[k]++;
        }
        arity[k]--;
        kinds[k * 4 + 3] = kinds[k * 4 + arity[k]];
        if (arity[k] < 3) {
          kinds[k * 4 + arity[k]] = 0;
        }
        weight[k] = 1;
        nameAt++;
        kindAt++;
      }
      for (int k = 0; k < OWN_ACTS; k++) {
        terms[k] = new Term(TERM_SIZE);
      }
    }

    /** The act of a name, or -1. */
    int named(long name) {
      for (int k = 0; k < KNOWN + owned; k++) {
        if (names[k] == name) {
          return k;
        }
      }
      return -1;
    }

    /** Whether no own act may have this name. */
    boolean isTaken(long name) {
      return named(name) >= 0 || Reader.isReserved(name) || name >= 1 && name <= 3;
    }

    static boolean isValue(int op) {
      return op == NUMBER || op == TRUTH || op == WORD;
    }

    int weightOf(Term term) {
      int sum = 0;
      for (int i = 0; i < term.size; i++) {
        if (term.op[i] < ALL) {
          sum += weight[term.op[i]];
        }
      }
      return sum;
    }

    void addOwn(long name, int[] operandKinds, int many, Term term, int kind) {
      if (owned >= OWN_ACTS || many < 1 || many > 2) {
        return;
      }
      int act = KNOWN + owned;
      names[act] = name;
      arity[act] = many;
      kinds[act * 4] = operandKinds[0];
      kinds[act * 4 + 1] = many == 2 ? operandKinds[1] : 0;
      kinds[act * 4 + 2] = 0;
      kinds[act * 4 + 3] = kind;
      terms[owned].become(term);
      weight[act] = 1 + weightOf(terms[owned]);
      int first = operandKinds[0];
      int second = many == 2 ? operandKinds[1] : 0;
      tabled[owned] = first != S && second != S;
      for (int a = 0; tabled[owned] && a < Ask.valuesOf(first); a++) {
        for (int b = 0; b < Ask.valuesOf(second); b++) {
          int at = owned * POINTS + a * 16 + b;
          table[at] = answerOf(terms[owned], a, b, 0);
          tableWorked[at] = worked[0];
        }
      }
      owned++;
    }

    /** What f stands for in the laws of an ask: a row of a table of answers. */
    void seek(Ask ask, int[] functions, int from) {
      soughtTerm = null;
      sought = functions;
      soughtAt = from;
      soughtSecond = ask.params > 1 ? Ask.valuesOf(ask.kinds[1]) : 1;
      soughtThird = ask.params > 2 ? Ask.valuesOf(ask.kinds[2]) : 1;
    }

    /** f stands for a term: where laws fail early, few of its answers are wanted. */
    void seekTerm(Term term) {
      soughtTerm = term;
    }

    /** A term's ANSWER for these values of its parameters. */
    int answerOf(Term term, int a, int b, int c) {
      if (term.size == 0) {
        return ERROR;
      }
      workOut(term, 0, a, b, c, 0);
      return answers[0];
    }

    /** How many acts were worked out for the latest answer. */
    int workedActs() {
      return worked[0];
    }

    /** The ANSWER of one of the terms within the one that was worked out last. */
    int answerWithin(int i) {
      return i >= 0 && i < ROOMS ? answers[i] : ERROR;
    }

    /**
     * Works out all terms within a term, the last one first. What if and pick leave out is worked
     * out, too, as it changes no answer; but it is not counted.
     */
    private void workOut(Term term, int base, int a, int b, int c, int depth) {
      if (depth > NESTED || base + term.size > ROOMS) {
        return;
      }
      for (int i = term.size - 1; i >= 0; i--) {
        int op = term.op[i];
        if (op >= LEAF) {
          int k = term.val[i];
          answers[base + i] = op != PARAMETER ? k : k == 0 ? a : k == 1 ? b : c;
          worked[base + i] = 0;
        } else {
          workAct(term, base, i, depth);
        }
      }
    }

    private void workAct(Term term, int base, int i, int depth) {
      int op = term.op[i];
      int first = i + 1;
      int second = first < term.end[i] ? term.end[first] : first;
      int third = second < term.end[i] ? term.end[second] : second;
      boolean two = second < term.end[i];
      boolean three = third < term.end[i];
      int x = first < term.end[i] ? answers[base + first] : 0;
      int y = two ? answers[base + second] : 0;
      int z = three ? answers[base + third] : 0;
      int wx = first < term.end[i] ? worked[base + first] : 0;
      int wy = two ? worked[base + second] : 0;
      int wz = three ? worked[base + third] : 0;
      int sum = 1 + wx + wy + wz;
      if (op == IF || op == PICK) {
        sum = 1 + wx + (x < 0 ? 0 : x != 0 ? wy : wz);
      }
      answers[base + i] = give(op, x, y, z, base + term.size, depth);
      if (op >= KNOWN && op < ALL && x >= 0 && y >= 0) {
        sum += ownWorked(op - KNOWN, x, y, base + term.size);
      }
      worked[base + i] = sum;
    }

    /** What an act gives for its operands' ANSWERS, worked out from a base on. */
    private int give(int op, int x, int y, int z, int base, int depth) {
      if (op == IF || op == PICK) {
        return x < 0 ? ERROR : x != 0 ? y : z;
      }
      if (x < 0 || y < 0 || z < 0) {
        return ERROR;
      }
      if (op < IF) {
        return giveNumber(op, x, y);
      }
      if (op < KNOWN) {
        return giveWord(op, x, y);
      }
      if (op < ALL && tabled[op - KNOWN]) {
        return table[(op - KNOWN) * POINTS + (x & 15) * 16 + (y & 15)];
      }
      if (op == SOUGHT && soughtTerm == null) {
        int at = soughtAt + (x * soughtSecond + y) * soughtThird + z;
        return sought != null && at >= 0 && at < sought.length ? sought[at] : ERROR;
      }
      Term inner = op < ALL ? terms[op - KNOWN] : soughtTerm;
      if (inner == null || depth >= NESTED || base >= ROOMS) {
        return ERROR;
      }
      workOut(inner, base, x, y, z, depth + 1);
      return answers[base];
    }

    /** How many acts an own act had worked out in it just before. */
    private int ownWorked(int own, int x, int y, int base) {
      if (tabled[own]) {
        return tableWorked[own * POINTS + (x & 15) * 16 + (y & 15)];
      }
      return base < ROOMS ? worked[base] : 0;
    }

    private static int giveNumber(int op, int x, int y) {
      switch (op) {
        case ADD: return x + y & 15;
        case SUB: return x - y & 15;
        case MUL: return x * y & 15;
        case DIV: return y == 0 ? ERROR : x / y;
        case REM: return y == 0 ? ERROR : x % y;
        case MIN: return x < y ? x : y;
        case MAX: return x > y ? x : y;
        case AND: return x & y;
        case OR: return x | y;
        case XOR: return x ^ y;
        case LESS: return x < y ? 1 : 0;
        case SAME: return x == y ? 1 : 0;
        case NOT: return 1 - x;
        case BOTH: return x & y;
        default: return x | y;
      }
    }

    /** A word's letters are digits from 1 on to the base 27: it has as many as there are powers up to it. */
    private static int giveWord(int op, int x, int y) {
      int size = 0;
      while (size < 6 && x >= POWERS[size]) {
        size++;
      }
      int otherSize = 0;
      while (otherSize < 6 && y >= POWERS[otherSize]) {
        otherSize++;
      }
      switch (op) {
        case CAT: return size + otherSize > 6 ? ERROR : x * POWERS[otherSize] + y;
        case LEN: return size;
        case TAKE: return y >= size ? x : x / POWERS[size - y];
        case DROP: return y >= size ? 0 : x % POWERS[size - y];
        case HEAD: return size == 0 ? ERROR : x / POWERS[size - 1];
        case LIKE: return x == y ? 1 : 0;
        case CODE: return size == 0 ? ERROR : x / POWERS[size - 1] - 1 & 15;
        case SIGN: return x + 1;
        default: break;
      }
      int turned = 0;
      int rest = x;
      for (int i = 0; i < size; i++) {
        turned = turned * LETTERS + rest % LETTERS;
        rest /= LETTERS;
      }
      return turned;
    }

    /** Writes a term as a text of the fewest bytes: how many. */
    int write(Term term, byte[] text, int[] open) {
      int size = 0;
      int depth = 0;
      for (int i = 0; i < term.size; i++) {
        size = writeHead(term.op[i], term.val[i], text, size);
        if (term.op[i] < LEAF && depth < open.length) {
          size = put(text, size, '(');
          open[depth] = term.end[i];
          depth++;
          continue;
        }
        while (depth > 0 && open[depth - 1] == i + 1) {
          size = put(text, size, ')');
          depth--;
        }
        if (depth > 0) {
          size = put(text, size, ',');
        }
      }
      return size;
    }

    private int writeHead(int op, int val, byte[] text, int size) {
      switch (op) {
        case PARAMETER: return put(text, size, 'a' + val);
        case NUMBER: return val < 10 ? put(text, size, '0' + val) : put(text, put(text, size, '1'), '0' + val - 10);
        case TRUTH: return writeLetters(val != 0 ? Reader.TRUE : Reader.FALSE, text, size);
        case WORD: return put(text, writeLetters(val, text, put(text, size, '"')), '"');
        default: return op >= 0 && op < ALL ? writeLetters(names[op], text, size) : size;
      }
    }

    private static int writeLetters(long word, byte[] text, int from) {
      int many = 0;
      for (long rest = word; rest > 0 && many < 8; rest /= LETTERS) {
        many++;
      }
      long rest = word;
      for (int i = from + many - 1; i >= from; i--) {
        if (i >= 0 && i < text.length) {
          text[i] = (byte) (rest % LETTERS + 'a' - 1);
        }
        rest /= LETTERS;
      }
      return from + many;
    }

    private static int put(byte[] text, int at, int letter) {
      if (at >= 0 && at < text.length) {
        text[at] = (byte) letter;
      }
      return at + 1;
    }
  }

  /** Reads texts: tokens, terms, asks, acts and loops, and the FAULTS in them. */
  private static final class Reader {
    static final long TRUE = 407354L, FALSE = 3217595L, ERROR_NAME = 3025044L, SOUGHT_NAME = 6L;
    /** The sorts of tokens; a sign's sort is its byte. */
    private static final int END = 0, NAME = 1, NUMBER = 2, WORD = 3, ARROW = 4, BAD = 5;

    private final Acts acts;
    private byte[] text;
    private int from;
    private int size;
    private int pos;
    private int sort;
    private int at;
    private int number;
    private long name;
    int fault;
    int faultAt;
    /** The terms read so far, one behind the other. */
    final Term nodes = new Term(TAPE + 1);
    int scope;
    final int[] scopeKinds = new int[3];
    private final long[] scopeNames = new long[3];
    private Ask lawOf;
    /** How many ? there were, or NO_HOLES where none may stand. */
    int holes;
    int kind;
    private int weight;
    long actName;

    Reader(Acts known) {
      acts = known;
    }

    static boolean isReserved(long name) {
      return name == SOUGHT_NAME || name == TRUE || name == FALSE || name == ERROR_NAME;
    }

    private static long codeOf(String word) {
      long code = 0;
      for (int i = 0; i < word.length(); i++) {
        code = code * LETTERS + word.charAt(i) - 'a' + 1;
      }
      return code;
    }

    /** The name that these bytes are as a number to the base 27, or 0. */
    static long nameIn(byte[] bytes, int from, int size) {
      if (size < 1 || size > 8 || from < 0 || from + size > bytes.length) {
        return 0;
      }
      long code = 0;
      for (int i = from; i < from + size; i++) {
        if (bytes[i] < 'a' || bytes[i] > 'z') {
          return 0;
        }
        code = code * LETTERS + bytes[i] - 'a' + 1;
      }
      return code;
    }

    // tokens

    private void begin(byte[] bytes, int first, int many) {
      boolean whole = first >= 0 && many >= 0 && first + many <= bytes.length;
      text = bytes;
      from = whole ? first : 0;
      size = whole ? many : 0;
      pos = 0;
      fault = 0;
      faultAt = 0;
      nodes.size = 0;
      holes = NO_HOLES;
      lawOf = null;
      next();
    }

    private void next() {
      while (pos < size && (text[from + pos] == ' ' || text[from + pos] == '\n')) {
        pos++;
      }
      at = pos;
      if (pos >= size) {
        sort = END;
        return;
      }
      int b = text[from + pos];
      if (b >= 'a' && b <= 'z') {
        readName();
      } else if (b >= '0' && b <= '9') {
        readNumber();
      } else if (b == '"') {
        readWord();
      } else {
        readSign(b);
      }
    }

    private void readName() {
      name = 0;
      while (pos < size && text[from + pos] >= 'a' && text[from + pos] <= 'z') {
        name = name * LETTERS + text[from + pos] - 'a' + 1;
        pos++;
      }
      sort = pos - at <= 8 ? NAME : BAD;
    }

    private void readNumber() {
      number = 0;
      while (pos < size && text[from + pos] >= '0' && text[from + pos] <= '9') {
        number = pos - at < 2 ? number * 10 + text[from + pos] - '0' : 16;
        pos++;
      }
      sort = number <= 15 ? NUMBER : BAD;
    }

    private void readWord() {
      number = 0;
      pos++;
      while (pos < size && pos - at <= 6 && text[from + pos] >= 'a' && text[from + pos] <= 'z') {
        number = number * LETTERS + text[from + pos] - 'a' + 1;
        pos++;
      }
      sort = pos < size && text[from + pos] == '"' ? WORD : BAD;
      pos++;
    }

    private void readSign(int b) {
      boolean arrow = b == '-' && pos + 1 < size && text[from + pos + 1] == '>';
      boolean sign = b == '(' || b == ')' || b == ',' || b == ';' || b == ':' || b == '=' || b == '?';
      sort = arrow ? ARROW : sign ? b : BAD;
      pos += arrow ? 2 : 1;
    }

    // FAULTS

    /** The token cannot stand there: this comes before all other FAULTS. */
    private boolean stop() {
      if (fault != 1) {
        fault = 1;
        faultAt = at;
      }
      return false;
    }

    private void note(int place, int which) {
      if (fault == 0 || fault != 1 && (place < faultAt || place == faultAt && which < fault)) {
        fault = which;
        faultAt = place;
      }
    }

    private boolean take(int wanted) {
      if (sort != wanted) {
        return stop();
      }
      next();
      return true;
    }

    private boolean isNamed(String wanted) {
      return sort == NAME && name == codeOf(wanted);
    }

    private boolean takeNamed(String wanted) {
      if (!isNamed(wanted)) {
        return stop();
      }
      next();
      return true;
    }

    /** The kind that the token tells, or 0. */
    private int kindTold() {
      return sort != NAME ? 0 : name == 14 ? N : name == 20 ? T : name == 19 ? S : 0;
    }

    /** Reads a kind: 0 if there is none. */
    private int takeKind() {
      int told = kindTold();
      if (told == 0) {
        stop();
      } else {
        next();
      }
      return told;
    }

    /** Reads kinds, one at least: how many, 0 if there is none. */
    private int takeKinds(int[] kinds, int most) {
      int many = 0;
      while (many < most && many < kinds.length && kindTold() != 0) {
        kinds[many] = kindTold();
        many++;
        next();
      }
      if (many == 0) {
        stop();
      }
      return many;
    }

    /** The kind of the value that the token is, told by number, or 0. */
    private int valueTold() {
      if (sort == NUMBER) {
        return N;
      }
      if (sort == WORD) {
        return S;
      }
      if (sort == NAME && (name == TRUE || name == FALSE)) {
        number = name == TRUE ? 1 : 0;
        return T;
      }
      return 0;
    }

    // terms

    /** The terms that are read have these parameters, a, b, c. */
    void setScope(int many, int[] kinds) {
      scope = 0;
      for (int k = 0; k < many && k < 3 && k < kinds.length; k++) {
        addToScope(k + 1, kinds[k]);
      }
    }

    private void addToScope(long told, int toldKind) {
      if (scope < 3) {
        scopeNames[scope] = told;
        scopeKinds[scope] = toldKind;
        scope++;
      }
    }

    /** Reads a text that is a term, of a wanted kind if that is not 0. */
    void readTold(byte[] bytes, int first, int many, int wanted, int holesBefore) {
      begin(bytes, first, many);
      holes = holesBefore;
      if (readWhole(wanted) >= 0 && sort != END) {
        stop();
      }
    }

    /** Reads a term that stands within no other: its place, or -1 if it cannot be read. */
    private int readWhole(int wanted) {
      int place = at;
      if (!readTerm(0)) {
        return -1;
      }
      if (wanted != 0 && kind != 0 && kind != wanted) {
        note(place, 3);
      }
      if (weight > WEIGHT) {
        note(place, 5);
      }
      return place;
    }

    /** Reads a term, and tells its kind (0 if that is not known) and WEIGHT. */
    private boolean readTerm(int depth) {
      if (depth > DEPTH) {
        return stop();
      }
      int told = valueTold();
      weight = 0;
      if (told != 0) {
        nodes.add(Acts.NUMBER + told - 1, number);
        kind = told;
        next();
        return true;
      }
      if (sort == '?' && holes != NO_HOLES) {
        addHole();
        next();
        return true;
      }
      if (sort != NAME) {
        return stop();
      }
      int place = at;
      long named = name;
      next();
      if (sort == '(') {
        return readOperands(named, place, depth);
      }
      readParameter(named, place);
      return true;
    }

    private void addHole() {
      nodes.add(Acts.HOLE, 0);
      holes++;
      if (holes == 4) {
        note(at, 5);
      }
      kind = N;
    }

    private void readParameter(long named, int place) {
      for (int k = 0; k < scope; k++) {
        if (scopeNames[k] == named) {
          nodes.add(Acts.PARAMETER, k);
          kind = scopeKinds[k];
          return;
        }
      }
      nodes.add(Acts.UNKNOWN, 0);
      note(place, 2);
      kind = 0;
    }

    private boolean readOperands(long named, int place, int depth) {
      int op = named == SOUGHT_NAME && lawOf != null ? Acts.SOUGHT : acts.named(named);
      if (op < 0) {
        note(place, 2);
      }
      int node = nodes.add(op < 0 ? Acts.UNKNOWN : op, 0);
      int sum = op >= 0 && op < Acts.ALL ? acts.weight[op] : 1;
      int many = 0;
      do {
        next();
        int start = at;
        if (!readTerm(depth + 1)) {
          return false;
        }
        int wanted = operandKind(op, many);
        if (wanted != 0 && kind != 0 && kind != wanted) {
          note(start, 3);
        }
        sum += weight;
        many++;
      } while (sort == ',' && many < TAPE);
      if (sort != ')') {
        return stop();
      }
      next();
      nodes.close(node);
      if (op >= 0 && many != arityOf(op)) {
        note(place, 4);
      }
      kind = op == Acts.SOUGHT ? lawOf.kinds[3] : op >= 0 ? acts.kinds[op * 4 + 3] : 0;
      weight = sum;
      return true;
    }

    private int arityOf(int op) {
      return op == Acts.SOUGHT ? lawOf == null ? 0 : lawOf.params : acts.arity[op];
    }

    /** The kind wanted of an operand, 0 if there is none such. */
    private int operandKind(int op, int k) {
      if (op < 0 || k >= arityOf(op)) {
        return 0;
      }
      return op == Acts.SOUGHT ? lawOf.kinds[k] : acts.kinds[op * 4 + k];
    }

    // asks

    void readAsk(byte[] bytes, int many, Ask ask) {
      begin(bytes, 0, many);
      ask.empty();
      if (!takeNamed("find")) {
        return;
      }
      ask.params = takeKinds(ask.kinds, 3);
      if (ask.params == 0 || !take(ARROW)) {
        return;
      }
      ask.kinds[3] = takeKind();
      if (ask.kinds[3] == 0 || !take(';') || !takeNamed("use") || !readPieces(ask)) {
        return;
      }
      int rows = 0;
      int laws = 0;
      for (int i = 0; i < TAPE && sort != END; i++) {
        boolean read;
        if (isNamed("row")) {
          rows++;
          read = readRow(ask, rows);
        } else if (isNamed("law")) {
          laws++;
          read = readLaw(ask, laws);
        } else {
          read = stop();
        }
        if (!read) {
          return;
        }
      }
    }

    private boolean readPieces(Ask ask) {
      for (int many = 1; many <= TAPE; many++) {
        if (!readPiece(ask, many)) {
          return false;
        }
        if (sort != ',') {
          break;
        }
        next();
      }
      return take(';');
    }

    private boolean readPiece(Ask ask, int many) {
      int place = at;
      int told = valueTold();
      int op = told != 0 ? Acts.NUMBER + told - 1 : sort == NAME ? acts.named(name) : -1;
      int val = told != 0 ? number : 0;
      if (told == 0 && sort != NAME) {
        return stop();
      }
      if (op < 0) {
        note(place, 2);
      } else if (ask.pieceOf(op, val) >= 0) {
        note(place, 3);
      }
      if (many > Ask.PIECES) {
        note(place, 5);
      }
      next();
      int price = 1;
      if (sort == ':') {
        next();
        price = number;
        if (sort != NUMBER || price < 1 || price > 9) {
          return stop();
        }
        next();
      }
      ask.addPiece(op, val, price);
      return true;
    }

    private boolean readRow(Ask ask, int many) {
      int place = at;
      next();
      int values = 0;
      for (int told = valueTold(); told != 0 && values < TAPE; told = valueTold()) {
        if (values < ask.params && told != ask.kinds[values]) {
          note(at, 3);
        }
        ask.setRowValue(values, number);
        values++;
        next();
      }
      if (values == 0 || !take('=')) {
        return stop();
      }
      if (values != ask.params) {
        note(place, 4);
      }
      if (many > Ask.ROWS) {
        note(place, 5);
      }
      int told = valueTold();
      boolean error = sort == NAME && name == ERROR_NAME;
      if (told == 0 && !error) {
        return stop();
      }
      if (!error && told != ask.kinds[3]) {
        note(at, 3);
      }
      ask.addRow(error ? ERROR : number);
      next();
      return take(';');
    }

    private boolean readLaw(Ask ask, int many) {
      if (many > Ask.LAWS) {
        note(at, 5);
      }
      if (ask.hasNoLaws()) {
        note(at, 6);
      }
      next();
      scope = 0;
      if (!readLawName() || sort == NAME && !readLawName() || !take(ARROW)) {
        return false;
      }
      lawOf = ask;
      int first = nodes.size;
      if (readWhole(0) < 0 || !take('=')) {
        return false;
      }
      int firstKind = kind;
      int second = nodes.size;
      if (readWhole(firstKind) < 0 || !take(';')) {
        return false;
      }
      lawOf = null;
      ask.addLaw(scope, scopeKinds, nodes, first, second);
      return true;
    }

    private boolean readLawName() {
      int place = at;
      long told = name;
      if (sort != NAME) {
        return stop();
      }
      next();
      if (!take(':')) {
        return false;
      }
      if (isReserved(told) || scope == 1 && scopeNames[0] == told) {
        note(place, 2);
      }
      int toldKind = takeKind();
      if (toldKind == S) {
        note(place, 6);
      }
      addToScope(told, toldKind);
      return toldKind != 0;
    }

    // own acts, loops

    void readAct(byte[] bytes, int first, int many) {
      begin(bytes, first, many);
      if (!takeNamed("act")) {
        return;
      }
      actName = name;
      if (sort == NAME && acts.isTaken(name)) {
        note(at, 2);
      }
      if (acts.owned >= OWN_ACTS) {
        note(0, 5);
      }
      if (!take(NAME)) {
        return;
      }
      scope = takeKinds(scopeKinds, 2);
      setScope(scope, scopeKinds);
      if (scope == 0 || !take(ARROW)) {
        return;
      }
      int wanted = takeKind();
      if (wanted != 0 && take('=') && readWhole(wanted) >= 0 && sort != END) {
        stop();
      }
    }

    void readLoop(byte[] bytes, int many, Loops loop) {
      begin(bytes, 0, many);
      loop.beginReading();
      if (!takeNamed("loop") || !readLoopKinds(loop) || !takeNamed("from") || !readFrom(loop)) {
        return;
      }
      setScope(loop.newVars, loop.newVarKinds);
      if (!takeNamed("while") || !readLoopTerm(loop, Loops.WHILE, T)) {
        return;
      }
      int place = at;
      if (!takeNamed("do") || !readDo(loop, place)) {
        return;
      }
      if (takeNamed("give") && readLoopTerm(loop, Loops.GIVE, 0) && sort != END) {
        stop();
      }
    }

    private boolean readLoopKinds(Loops loop) {
      int many = 0;
      while (many < 2 && (kindTold() == N || kindTold() == T)) {
        loop.newKinds[many] = kindTold();
        many++;
        next();
      }
      loop.newInputs = many;
      setScope(many, loop.newKinds);
      return many > 0 || stop();
    }

    private boolean readLoopTerm(Loops loop, int which, int wanted) {
      int first = nodes.size;
      if (readWhole(wanted) < 0) {
        return false;
      }
      loop.setTerm(which, nodes, first);
      return true;
    }

    private boolean readFrom(Loops loop) {
      int many = 0;
      do {
        if (many > 0) {
          next();
        }
        int place = at;
        if (!readLoopTerm(loop, many < 3 ? Loops.FROM + many : -1, 0)) {
          return false;
        }
        if (kind == S) {
          note(place, 3);
        }
        if (many == 3) {
          note(place, 4);
        }
        loop.setVarKind(many, kind);
        many++;
      } while (sort == ',' && many < TAPE);
      loop.newVars = many;
      return true;
    }

    private boolean readDo(Loops loop, int place) {
      int many = 0;
      do {
        if (many > 0) {
          next();
        }
        int wanted = many < loop.newVars && many < 3 ? loop.newVarKinds[many] : 0;
        if (!readLoopTerm(loop, many < 3 ? Loops.DO + many : -1, wanted)) {
          return false;
        }
        many++;
      } while (sort == ',' && many < TAPE);
      if (many != loop.newVars) {
        note(place, 4);
      }
      return true;
    }
  }

  /** An ask: what is looked for, what may be used, what must hold. */
  private static final class Ask {
    static final int PIECES = 12, ROWS = 12, LAWS = 4;

    int params;
    /** The kinds of its parameters, and at 3 its last one. */
    final int[] kinds = new int[4];
    int pieces;
    final int[] pieceOp = new int[PIECES];
    final int[] pieceVal = new int[PIECES];
    final int[] piecePrice = new int[PIECES];
    int rows;
    final int[] rowValues = new int[(ROWS + 1) * 3];
    final int[] rowAnswer = new int[ROWS];
    final int[] rowPoint = new int[ROWS];
    int laws;
    private final int[] lawNames = new int[LAWS];
    private final int[] lawKinds = new int[LAWS * 2];
    private final Term[] sides = new Term[LAWS * 2];
    int points;
    final int[] pointValues = new int[3 * POINTS];

    Ask() {
      for (int i = 0; i < sides.length; i++) {
        sides[i] = new Term(TERM_SIZE);
      }
    }

    void empty() {
      params = 0;
      pieces = 0;
      rows = 0;
      laws = 0;
      points = 0;
    }

    static int valuesOf(int kind) {
      return kind == N ? 16 : 2;
    }

    /** How many rows of values its parameters have; 0 if one is a word. */
    private int allRows() {
      int many = 1;
      for (int k = 0; k < params; k++) {
        many *= kinds[k] == S ? 0 : valuesOf(kinds[k]);
      }
      return many;
    }

    private boolean hasAllPoints() {
      int many = allRows();
      return many > 0 && many <= POINTS;
    }

    boolean hasNoLaws() {
      return !hasAllPoints() || kinds[3] == S;
    }

    /** The piece that is told by this, or -1. */
    int pieceOf(int op, int val) {
      for (int j = 0; j < pieces; j++) {
        if (pieceOp[j] == op && pieceVal[j] == val) {
          return j;
        }
      }
      return -1;
    }

    void addPiece(int op, int val, int price) {
      if (pieces < PIECES) {
        pieceOp[pieces] = op;
        pieceVal[pieces] = val;
        piecePrice[pieces] = price;
        pieces++;
      }
    }

    /** A value of the row that is added next. */
    void setRowValue(int k, int val) {
      if (k >= 0 && k < 3 && rows <= ROWS) {
        rowValues[rows * 3 + k] = val;
      }
    }

    void addRow(int answer) {
      if (rows < ROWS) {
        rowAnswer[rows] = answer;
        rows++;
      }
    }

    void addLaw(int names, int[] nameKinds, Term nodes, int first, int second) {
      if (laws >= LAWS || names < 1 || names > 2) {
        return;
      }
      lawNames[laws] = names;
      lawKinds[laws * 2] = nameKinds[0];
      lawKinds[laws * 2 + 1] = nameKinds[1];
      sides[laws * 2].size = 0;
      sides[laws * 2].addPart(nodes, first);
      sides[laws * 2 + 1].size = 0;
      sides[laws * 2 + 1].addPart(nodes, second);
      laws++;
    }

    /** The number of a row of values among all of them. */
    int pointOf(int x, int y, int z) {
      int at = x;
      if (params > 1) {
        at = at * valuesOf(kinds[1]) + y;
      }
      if (params > 2) {
        at = at * valuesOf(kinds[2]) + z;
      }
      return at;
    }

    void layPoints() {
      boolean all = hasAllPoints();
      points = all ? allRows() : rows;
      for (int i = 0; i < points; i++) {
        int rest = i;
        for (int k = params - 1; k >= 0; k--) {
          int many = valuesOf(kinds[k]);
          pointValues[k * POINTS + i] = all ? rest % many : rowValues[i * 3 + k];
          rest /= many;
        }
      }
      for (int r = 0; r < rows; r++) {
        rowPoint[r] = all ? pointOf(rowValues[r * 3], rowValues[r * 3 + 1], rowValues[r * 3 + 2]) : r;
      }
    }

    /** A term's ANSWER at a point. */
    int answerAt(Acts acts, Term term, int i) {
      return acts.answerOf(term, pointValues[i], pointValues[POINTS + i], pointValues[2 * POINTS + i]);
    }

    /** Whether answers at all points are as the rows tell. */
    boolean hasRowsMet(int[] answers, int from) {
      for (int r = 0; r < rows; r++) {
        if (answers[from + rowPoint[r]] != rowAnswer[r]) {
          return false;
        }
      }
      return true;
    }

    /** Whether all laws hold for what f stands for now. */
    boolean hasLawsMet(Acts acts) {
      for (int law = 0; law < laws; law++) {
        int second = lawNames[law] == 2 ? valuesOf(lawKinds[law * 2 + 1]) : 1;
        int all = valuesOf(lawKinds[law * 2]) * second;
        for (int i = 0; i < all; i++) {
          int first = acts.answerOf(sides[law * 2], i / second, i % second, 0);
          if (first != acts.answerOf(sides[law * 2 + 1], i / second, i % second, 0)) {
            return false;
          }
        }
      }
      return true;
    }

    /** The price of a told term, or -1 if something in it is no piece. */
    int priceOf(Term term) {
      int sum = 0;
      for (int i = 0; i < term.size; i++) {
        if (term.op[i] == Acts.PARAMETER) {
          sum++;
        } else {
          int j = pieceOf(term.op[i], term.val[i]);
          if (j < 0) {
            return -1;
          }
          sum += piecePrice[j];
        }
      }
      return sum;
    }
  }

  /** The different FUNCTIONS of an ask's terms, and what the pieces make of them. */
  private static final class Functions {
    static final int MOST = 120;
    /** One row more than there may be: what comes anew is worked out there. */
    static final int SPAN = MOST + 1;
    /** Conditions times what may follow them are never more, of 120 in all. */
    private static final int SLABS = 60 * 60;

    private final Acts acts;
    private Ask ask;
    final int[] table = new int[SPAN * POINTS];
    final int[] kind = new int[SPAN];
    private final int[] hash = new int[SPAN];
    /** Where a hash leads: a function's number and 1, or 0. */
    private final int[] slots = new int[POINTS];
    int many;
    /** How many pieces the ask has: all that was remembered is forgotten with the next one. */
    private int pieces;
    /** What a piece gives for one or two functions: its number and 1, or 0 if it is not known yet. */
    private final byte[] pairs = new byte[Ask.PIECES * SPAN * SPAN];
    /** For if and pick: the slab of a condition and what follows, and in it what comes of the third. */
    private final short[] slabOf = new short[SPAN * SPAN];
    private byte[] slabs = new byte[0];
    private int slabCount;

    Functions(Acts known) {
      acts = known;
    }

    void begin(Ask newAsk) {
      for (int i = 0; i < many * many; i++) {
        int at = i / many * SPAN + i % many;
        slabOf[at] = 0;
        for (int j = 0; j < pieces; j++) {
          pairs[j * SPAN * SPAN + at] = 0;
        }
      }
      Arrays.fill(slots, 0);
      pieces = newAsk.pieces;
      slabCount = 0;
      many = 0;
      ask = newAsk;
    }

    /** The function of a parameter, or -1 if there are too many. */
    int ofParameter(int k) {
      System.arraycopy(ask.pointValues, k * POINTS, table, many * POINTS, ask.points);
      return enter(ask.kinds[k]);
    }

    /** The function of a piece that is a value. */
    int ofValue(int j) {
      for (int i = 0; i < ask.points; i++) {
        table[many * POINTS + i] = ask.pieceVal[j];
      }
      return enter(ask.pieceOp[j] - Acts.NUMBER + 1);
    }

    /** The function with these answers, or -1. */
    int alike(int[] answers, int itsKind) {
      System.arraycopy(answers, 0, table, many * POINTS, ask.points);
      return slots[slotFor(itsKind, hashOf(itsKind))] - 1;
    }

    /** What a piece that is an act gives for functions; -1 if there would be too many of them. */
    int of(int j, int first, int second, int third) {
      int op = ask.pieceOp[j];
      boolean three = op == Acts.IF || op == Acts.PICK;
      int at = three ? slabPlace(first, second) + third : (j * SPAN + first) * SPAN + second;
      byte[] known = three ? slabs : pairs;
      boolean remembered = at >= 0 && at < known.length;
      if (remembered && known[at] != 0) {
        return known[at] - 1;
      }
      boolean two = acts.arity[op] > 1;
      for (int i = 0; i < ask.points; i++) {
        int y = two ? table[second * POINTS + i] : 0;
        int z = three ? table[third * POINTS + i] : 0;
        table[many * POINTS + i] = acts.give(op, table[first * POINTS + i], y, z, 0, 0);
      }
      int function = enter(acts.kinds[op * 4 + 3]);
      if (remembered) {
        known[at] = (byte) (function + 1);
      }
      return function;
    }

    /** Where the slab of two functions begins; it is made where there is none. */
    private int slabPlace(int first, int second) {
      if (slabs.length == 0) {
        slabs = new byte[SLABS * SPAN];
      }
      int at = first * SPAN + second;
      if (slabOf[at] == 0) {
        if (slabCount >= SLABS) {
          return -SPAN;
        }
        for (int i = 0; i < SPAN; i++) {
          slabs[slabCount * SPAN + i] = 0;
        }
        slabCount++;
        slabOf[at] = (short) slabCount;
      }
      return (slabOf[at] - 1) * SPAN;
    }

    /** The number of the function in the row behind all; it becomes a new one if there is none such. */
    private int enter(int itsKind) {
      int h = hashOf(itsKind);
      int slot = slotFor(itsKind, h);
      if (slots[slot] != 0) {
        return slots[slot] - 1;
      }
      if (many >= MOST) {
        return -1;
      }
      kind[many] = itsKind;
      hash[many] = h;
      many++;
      slots[slot] = many;
      return many - 1;
    }

    private int hashOf(int itsKind) {
      int h = itsKind;
      for (int i = 0; i < ask.points; i++) {
        h = h * 31 + table[many * POINTS + i];
      }
      return h ^ h >>> 15;
    }

    /** The slot of the function in the row behind all, or the free one that it would have. */
    private int slotFor(int itsKind, int h) {
      int slot = h & POINTS - 1;
      for (int tries = 0; tries < POINTS && slots[slot] != 0; tries++) {
        int other = slots[slot] - 1;
        int alike = hash[other] == h && kind[other] == itsKind ? 0 : -1;
        while (alike >= 0 && alike < ask.points && table[other * POINTS + alike] == table[many * POINTS + alike]) {
          alike++;
        }
        if (alike == ask.points) {
          return slot;
        }
        slot = slot + 1 & POINTS - 1;
      }
      return slot;
    }
  }

  /** The terms of an ask by their prices: of each FUNCTION and price the first in ORDER, and how many there are. */
  private static final class Search {
    private static final int SPAN = Functions.SPAN;
    private static final int PARAMS = 3;
    /** What an entry has: its function, what stands first (a parameter, or PARAMS and a piece), its operands' entries. */
    private static final int FUNCTION = 0, HEAD = 1, OPERANDS = 2, FIELDS = 5;

    private final Acts acts;
    final Functions functions;
    private Ask ask;
    /** Entry price * SPAN + i: the i-th FUNCTION, in ORDER of its first term, that terms of that price have. */
    private final int[] entries = new int[(PRICE + 1) * SPAN * FIELDS];
    private final int[] entryCount = new int[PRICE + 1];
    private final long[] entryTerms = new long[(PRICE + 1) * SPAN];
    /** The first entry of a function, or -1; and 1 if it meets, 2 if not, 0 if that was not looked at. */
    private final int[] firstEntry = new int[SPAN];
    private final int[] meeting = new int[SPAN];
    /** A function's entry at the price that is being looked at, or -1. */
    private final int[] entryNow = new int[SPAN];
    private final int[] picked = new int[3];
    private int lookedAt;
    private int roomEnds;
    private final int[] listed = new int[SPAN];
    private final int[] seen = new int[SPAN];
    /** By depth and function: how often a term counts, when the i-th is looked for. */
    private final long[] shares = new long[(PRICE + 2) * SPAN];
    private long left;
    final Term term = new Term(PRICE + 1);
    /** Answers at all points: of what was filled in or mended, and of all terms within a told one. */
    final int[] trial = new int[POINTS];
    private final int[] within = new int[TERM_SIZE * POINTS];
    final Term mended = new Term(TERM_SIZE + PRICE + 1);
    int mendPlace;

    Search(Acts known) {
      acts = known;
      functions = new Functions(known);
    }

    void begin(Ask newAsk) {
      ask = newAsk;
      functions.begin(newAsk);
      lookedAt = 0;
      roomEnds = PRICE + 1;
      Arrays.fill(meeting, 0);
      Arrays.fill(firstEntry, -1);
    }

    /** Looks at all terms up to a price: whether they have not too many functions. */
    boolean reaches(int p) {
      while (lookedAt < p && lookedAt < PRICE && roomEnds > PRICE) {
        lookedAt++;
        if (!lookAt(lookedAt)) {
          roomEnds = lookedAt;
        }
      }
      return p < roomEnds;
    }

    private boolean lookAt(int q) {
      entryCount[q] = 0;
      Arrays.fill(entryNow, -1);
      for (int k = 0; q == 1 && k < ask.params; k++) {
        if (!enter(q, k, functions.ofParameter(k), 1)) {
          return false;
        }
      }
      for (int j = 0; j < ask.pieces; j++) {
        int rest = q - ask.piecePrice[j];
        boolean isAct = ask.pieceOp[j] < Acts.LEAF;
        if (!isAct && rest == 0 && !enter(q, PARAMS + j, functions.ofValue(j), 1)) {
          return false;
        }
        if (isAct && !combine(q, j, 0, rest, 1)) {
          return false;
        }
      }
      return true;
    }

    /** Puts all operands from the k-th on, of prices that make up the rest, behind those picked. */
    private boolean combine(int q, int j, int k, int rest, long terms) {
      int op = ask.pieceOp[j];
      int arity = acts.arity[op];
      if (k >= arity || k >= 3) {
        int second = arity > 1 ? functionOf(picked[1]) : 0;
        int third = arity > 2 ? functionOf(picked[2]) : 0;
        return enter(q, PARAMS + j, functions.of(j, functionOf(picked[0]), second, third), terms);
      }
      int behind = arity - 1 - k;
      for (int x = behind == 0 ? rest : 1; x >= 1 && x <= rest - behind; x++) {
        for (int i = 0; i < entryCount[x]; i++) {
          int entry = x * SPAN + i;
          if (functions.kind[functionOf(entry)] != acts.kinds[op * 4 + k]) {
            continue;
          }
          picked[k] = entry;
          if (!combine(q, j, k + 1, rest - x, terms * entryTerms[entry])) {
            return false;
          }
        }
      }
      return true;
    }

    /** Adds terms of a function to those of a price; what comes first is remembered. */
    private boolean enter(int q, int head, int function, long terms) {
      if (function < 0) {
        return false;
      }
      int entry = entryNow[function];
      if (entry < 0) {
        entry = q * SPAN + entryCount[q];
        entryCount[q]++;
        entryNow[function] = entry;
        entries[entry * FIELDS + FUNCTION] = function;
        entries[entry * FIELDS + HEAD] = head;
        System.arraycopy(picked, 0, entries, entry * FIELDS + OPERANDS, 3);
        entryTerms[entry] = 0;
        if (firstEntry[function] < 0) {
          firstEntry[function] = entry;
        }
      }
      entryTerms[entry] += terms;
      return true;
    }

    private int functionOf(int entry) {
      return entries[entry * FIELDS + FUNCTION];
    }

    int priceOf(int entry) {
      return entry / SPAN;
    }

    /** Where the answers of an entry's function begin in the table. */
    int rowOf(int entry) {
      return functionOf(entry) * POINTS;
    }

    private boolean meets(int function) {
      if (functions.kind[function] != ask.kinds[3]) {
        return false;
      }
      if (meeting[function] == 0) {
        acts.seek(ask, functions.table, function * POINTS);
        meeting[function] = ask.hasRowsMet(functions.table, function * POINTS) && ask.hasLawsMet(acts) ? 1 : 2;
      }
      return meeting[function] == 1;
    }

    /** The entry of the first term in ORDER that meets, or -1. */
    int firstMeeting(int p) {
      for (int q = 1; q <= p; q++) {
        for (int i = 0; i < entryCount[q]; i++) {
          if (meets(functionOf(q * SPAN + i))) {
            return q * SPAN + i;
          }
        }
      }
      return -1;
    }

    long countMeeting(int p) {
      long sum = 0;
      for (int i = 0; i < entryCount[p]; i++) {
        if (meets(functionOf(p * SPAN + i))) {
          sum += entryTerms[p * SPAN + i];
        }
      }
      return sum;
    }

    /** How many functions terms up to a price have. */
    int functionsUpTo(int p) {
      int sum = 0;
      for (int f = 0; f < functions.many; f++) {
        if (isUpTo(f, p)) {
          sum++;
        }
      }
      return sum;
    }

    private boolean isUpTo(int function, int p) {
      return firstEntry[function] >= 0 && priceOf(firstEntry[function]) <= p;
    }

    /** Lists the functions up to a price that meet: how many. */
    int listMeeting(int p) {
      int sum = 0;
      for (int f = 0; f < functions.many; f++) {
        if (isUpTo(f, p) && meets(f)) {
          listed[sum] = f;
          sum++;
        }
      }
      return sum;
    }

    /** The point at which the functions that meet differ most, times 1000, and in how many answers; or 0. */
    int partingPoint(int p) {
      int sum = listMeeting(p);
      int most = 1;
      int best = 0;
      for (int i = 0; i < ask.points; i++) {
        int answers = answersAt(i, sum);
        if (answers > most) {
          most = answers;
          best = i * 1000 + answers;
        }
      }
      return best;
    }

    private int answersAt(int i, int sum) {
      int different = 0;
      for (int k = 0; k < sum; k++) {
        int answer = functions.table[listed[k] * POINTS + i];
        int j = 0;
        while (j < different && seen[j] != answer) {
          j++;
        }
        if (j == different) {
          seen[j] = answer;
          different++;
        }
      }
      return different;
    }

    /** The entry of the first term in ORDER with the function of a told term of the ask, or -1. */
    int firstAlike(Term told, int kind) {
      fillTrial(told);
      int function = functions.alike(trial, kind);
      return function < 0 ? -1 : firstEntry[function];
    }

    /** Writes the first term of an entry. */
    void writeEntry(int entry) {
      term.size = 0;
      writePart(entry, 0);
    }

    private void writePart(int entry, int depth) {
      if (depth > PRICE) {
        return;
      }
      int node = addHead(entries[entry * FIELDS + HEAD]);
      int op = node < 0 ? Acts.LEAF : term.op[node];
      for (int k = 0; op < Acts.LEAF && k < acts.arity[op]; k++) {
        writePart(entries[entry * FIELDS + OPERANDS + k], depth + 1);
      }
      term.close(node);
    }

    private int addHead(int head) {
      if (head < PARAMS) {
        return term.add(Acts.PARAMETER, head);
      }
      return term.add(ask.pieceOp[head - PARAMS], ask.pieceVal[head - PARAMS]);
    }

    // the i-th

    /** Writes the i-th term in ORDER of a price that meets: its function, or -1. */
    int chooseMeeting(int p, long i) {
      term.size = 0;
      left = i;
      for (int f = 0; f < functions.many; f++) {
        shares[f] = isUpTo(f, p) && meets(f) ? 1 : 0;
      }
      return choose(p, 0);
    }

    /**
     * Writes the term of a price in whose share the place that is left falls, where each term has
     * the share of its function at this depth; what is left then is the place within its share.
     */
    private int choose(int q, int depth) {
      if (depth > PRICE) {
        return -1;
      }
      for (int k = 0; q == 1 && k < ask.params; k++) {
        int function = functions.ofParameter(k);
        if (isIn(function, depth)) {
          addHead(k);
          return function;
        }
      }
      for (int j = 0; j < ask.pieces; j++) {
        if (ask.pieceOp[j] < Acts.LEAF) {
          int function = chooseOperands(q, j, depth);
          if (function >= 0) {
            return function;
          }
        } else if (ask.piecePrice[j] == q) {
          int function = functions.ofValue(j);
          if (isIn(function, depth)) {
            addHead(PARAMS + j);
            return function;
          }
        }
      }
      return -1;
    }

    /** Whether the place that is left falls in the share of one term; if not, that is passed by. */
    private boolean isIn(int function, int depth) {
      long share = function < 0 ? 0 : shares[depth * SPAN + function];
      if (left < share) {
        return true;
      }
      left -= share;
      return false;
    }

    private int chooseOperands(int q, int j, int depth) {
      int arity = acts.arity[ask.pieceOp[j]];
      int rest = q - ask.piecePrice[j];
      int node = -1;
      int first = 0;
      int second = 0;
      int third = 0;
      for (int k = 0; k < arity; k++) {
        int x = operandPrice(j, k, first, second, rest, depth);
        if (x == 0) {
          return -1;
        }
        node = k == 0 ? addHead(PARAMS + j) : node;
        int function = choose(x, depth + 1);
        if (function < 0) {
          return -1;
        }
        first = k == 0 ? function : first;
        second = k == 1 ? function : second;
        third = k == 2 ? function : third;
        rest -= x;
      }
      term.close(node);
      return functions.of(j, first, second, third);
    }

    /** The price of operand k in whose terms' shares the place that is left falls, or 0; their shares are laid out. */
    private int operandPrice(int j, int k, int first, int second, int rest, int depth) {
      int op = ask.pieceOp[j];
      int behind = acts.arity[op] - 1 - k;
      int below = (depth + 1) * SPAN;
      for (int x = behind == 0 ? rest : 1; x >= 1 && x <= rest - behind; x++) {
        long sum = 0;
        for (int f = 0; f < functions.many; f++) {
          shares[below + f] = 0;
        }
        for (int i = 0; i < entryCount[x]; i++) {
          int function = functionOf(x * SPAN + i);
          if (functions.kind[function] == acts.kinds[op * 4 + k]) {
            int one = k == 0 ? function : first;
            int two = k == 1 ? function : second;
            long share = shareOf(j, k + 1, one, two, k == 2 ? function : 0, rest - x, depth);
            shares[below + function] = share;
            sum += share * entryTerms[x * SPAN + i];
          }
        }
        if (left < sum) {
          return x;
        }
        left -= sum;
      }
      return 0;
    }

    /** The share of all terms of a piece with these functions as its first k operands and the others of prices that make up the rest. */
    private long shareOf(int j, int k, int first, int second, int third, int rest, int depth) {
      int op = ask.pieceOp[j];
      int behind = acts.arity[op] - 1 - k;
      if (behind < 0) {
        int function = functions.of(j, first, second, third);
        return function < 0 ? 0 : shares[depth * SPAN + function];
      }
      long sum = 0;
      for (int x = behind == 0 ? rest : 1; x >= 1 && x <= rest - behind; x++) {
        for (int i = 0; i < entryCount[x]; i++) {
          int function = functionOf(x * SPAN + i);
          if (functions.kind[function] == acts.kinds[op * 4 + k]) {
            int two = k == 1 ? function : second;
            sum += entryTerms[x * SPAN + i] * shareOf(j, k + 1, first, two, k == 2 ? function : third, rest - x, depth);
          }
        }
      }
      return sum;
    }

    // sketches, mending

    /** Puts numbers for ? into a sketch so that it meets: the first ones, as one number. */
    int fillHoles(Term sketch, int holes) {
      int many = 0;
      for (int i = 0; i < sketch.size && many < 3; i++) {
        if (sketch.op[i] == Acts.HOLE) {
          sketch.op[i] = Acts.NUMBER;
          picked[many] = i;
          many++;
        }
      }
      for (int numbers = 0; numbers < 1 << 4 * many; numbers++) {
        for (int k = 0; k < many; k++) {
          sketch.val[picked[k]] = numbers >> 4 * (many - 1 - k) & 15;
        }
        if (meets(sketch)) {
          fillTrial(sketch);
          return numbers;
        }
      }
      return NO_NUMBERS;
    }

    /** Most sketches that do not meet fail at the rows or early in a law: only what is wanted is worked out. */
    private boolean meets(Term sketch) {
      for (int r = 0; r < ask.rows; r++) {
        if (ask.answerAt(acts, sketch, ask.rowPoint[r]) != ask.rowAnswer[r]) {
          return false;
        }
      }
      acts.seekTerm(sketch);
      return ask.hasLawsMet(acts);
    }

    private void fillTrial(Term told) {
      for (int i = 0; i < ask.points; i++) {
        trial[i] = ask.answerAt(acts, told, i);
      }
    }

    /** Whether a told term meets; the answers of all terms within it are remembered. */
    boolean meetsAsItIs(Term told) {
      for (int i = 0; i < ask.points; i++) {
        trial[i] = ask.answerAt(acts, told, i);
        for (int node = 0; node < told.size && node < TERM_SIZE; node++) {
          within[node * POINTS + i] = acts.answerWithin(node);
        }
      }
      acts.seek(ask, trial, 0);
      return ask.hasRowsMet(trial, 0) && ask.hasLawsMet(acts);
    }

    /** Mends the told term that was looked at last: the entry of what is put in, or -1. */
    int mendTerm(Term told, int p) {
      for (int q = 1; q <= p; q++) {
        for (int place = 0; place < told.size && place < TERM_SIZE; place++) {
          int entry = mendAt(told, place, q);
          if (entry >= 0) {
            mendPlace = place;
            writeEntry(entry);
            mended.becomeMended(told, place, term);
            return entry;
          }
        }
      }
      return -1;
    }

    /** A function that was there for a lesser price has failed at all places before. */
    private int mendAt(Term told, int place, int q) {
      int kind = kindAt(told, place);
      for (int i = 0; i < entryCount[q]; i++) {
        int entry = q * SPAN + i;
        int function = functionOf(entry);
        if (functions.kind[function] == kind && firstEntry[function] == entry && meetsWith(told, place, function)) {
          return entry;
        }
      }
      return -1;
    }

    private int kindAt(Term told, int node) {
      int op = told.op[node];
      if (op == Acts.PARAMETER) {
        return ask.kinds[told.val[node]];
      }
      return Acts.isValue(op) ? op - Acts.NUMBER + 1 : acts.kinds[op * 4 + 3];
    }

    private boolean meetsWith(Term told, int place, int function) {
      for (int r = 0; r < ask.rows; r++) {
        int i = ask.rowPoint[r];
        climb(told, place, function, i, i + 1);
        if (trial[i] != ask.rowAnswer[r]) {
          return false;
        }
      }
      climb(told, place, function, 0, ask.points);
      acts.seek(ask, trial, 0);
      return ask.hasLawsMet(acts);
    }

    /** The told term's answers at some points, with a function at one of its places: only what is above that place changes. */
    private void climb(Term told, int place, int function, int from, int to) {
      System.arraycopy(functions.table, function * POINTS + from, trial, from, to - from);
      int at = place;
      while (at > 0) {
        int above = at - 1;
        while (above > 0 && told.end[above] <= at) {
          above--;
        }
        int op = told.op[above];
        int first = above + 1;
        int second = told.end[first];
        int third = second < told.end[above] ? told.end[second] : second;
        for (int i = from; i < to; i++) {
          int x = operandAt(told, above, first, at, i);
          int y = operandAt(told, above, second, at, i);
          int z = operandAt(told, above, third, at, i);
          trial[i] = acts.give(op, x, y, z, 0, 0);
        }
        at = above;
      }
    }

    private int operandAt(Term told, int above, int node, int changed, int i) {
      if (node >= told.end[above]) {
        return 0;
      }
      return node == changed ? trial[i] : within[node * POINTS + i];
    }
  }

  /** THE TERM, the kept ones, and the patterns in them. */
  private static final class Shelf {
    private static final int KEPT = 12;
    private static final int TEXT = 2048;

    private final Acts acts;
    final Term term = new Term(TERM_SIZE + PRICE + 1);
    final byte[] text = new byte[TEXT];
    int textSize;
    int params;
    final int[] kinds = new int[3];
    final int[] answers = new int[POINTS];
    int points;
    final Term[] kept = new Term[KEPT];
    int keptCount;
    private final int[] open = new int[64];
    private final byte[] otherText = new byte[TEXT];
    private final byte[] bestText = new byte[TEXT];
    private int bestTextSize;
    /** The pattern that is tried, with the two operands that each of its parameters stands for. */
    private final Term pattern = new Term(KEPT_SIZE);
    private int patternParams;
    private final int[] patternKinds = new int[2];
    private final int[] standsFor = new int[4];
    private final Term best = new Term(KEPT_SIZE);
    private final int[] bestKinds = new int[3];
    private final int[] bound = new int[2];
    private final Term rewritten = new Term(KEPT_SIZE);

    Shelf(Acts known) {
      acts = known;
      for (int k = 0; k < KEPT; k++) {
        kept[k] = new Term(KEPT_SIZE);
      }
    }

    void empty() {
      textSize = 0;
      term.size = 0;
      points = 0;
      keptCount = 0;
    }

    /** A term of an ask becomes THE TERM. */
    void tell(Term found, Ask ask, int[] table, int from) {
      term.become(found);
      textSize = acts.write(term, text, open);
      params = ask.params;
      System.arraycopy(ask.kinds, 0, kinds, 0, 3);
      points = ask.points;
      System.arraycopy(table, from, answers, 0, points);
    }

    boolean canBeKept() {
      return term.size > 0 && term.size <= KEPT_SIZE && acts.weightOf(term) <= WEIGHT && !term.isDeeperThan(DEPTH);
    }

    boolean isFull() {
      return keptCount >= KEPT;
    }

    int addKept(Term told) {
      if (isFull()) {
        return ROOM;
      }
      kept[keptCount].become(told);
      keptCount++;
      return keptCount - 1;
    }

    /** Byte i of a term's text, or how many there are for i = NONE. */
    int byteOrSize(Term told, int i) {
      int size = acts.write(told, otherText, open);
      if (i == NONE) {
        return size;
      }
      return i >= 0 && i < size && i < TEXT ? otherText[i] : NONE;
    }

    // patterns

    /** Finds the best pattern: what it saves, or 0 if there is none. */
    int findBest() {
      int most = 0;
      for (int k = 0; k < keptCount; k++) {
        for (int l = k; l < keptCount; l++) {
          for (int i = 0; i < kept[k].size; i++) {
            for (int j = l == k ? i + 1 : 0; j < kept[l].size; j++) {
              if (kept[k].op[i] == kept[l].op[j] && isPattern(kept[k], i, kept[l], j)) {
                most = takeBest(savingOf(), most);
              }
            }
          }
        }
      }
      return most;
    }

    private boolean isPattern(Term x, int i, Term y, int j) {
      pattern.size = 0;
      patternParams = 0;
      if (x.op[i] >= Acts.LEAF) {
        return false;
      }
      if (!generalize(x, i, y, j, 0) || patternParams < 1 || acts.weightOf(pattern) > WEIGHT) {
        return false;
      }
      int arity = acts.arity[pattern.op[0]];
      return pattern.size != arity + 1 || patternParams != arity;
    }

    /** Adds what two places have in common to the pattern; false if it has too many parameters. */
    private boolean generalize(Term x, int i, Term y, int j, int depth) {
      if (depth > DEPTH) {
        return false;
      }
      int op = x.op[i];
      int node = pattern.add(op, 0);
      for (int k = 0; k < acts.arity[op]; k++) {
        int p = x.operand(i, k);
        int q = y.operand(j, k);
        if (p < 0 || q < 0) {
          return false;
        }
        boolean sameOp = x.op[p] == y.op[q];
        boolean fine = true;
        if (sameOp && x.op[p] < Acts.LEAF) {
          fine = generalize(x, p, y, q, depth + 1);
        } else if (sameOp && Acts.isValue(x.op[p]) && x.val[p] == y.val[q]) {
          pattern.add(x.op[p], x.val[p]);
        } else {
          fine = addParameter(x, p, y, q, acts.kinds[op * 4 + k]);
        }
        if (!fine) {
          return false;
        }
      }
      pattern.close(node);
      return true;
    }

    private boolean addParameter(Term x, int p, Term y, int q, int kind) {
      for (int k = 0; k < patternParams; k++) {
        if (x.samePart(p, x, standsFor[2 * k]) && y.samePart(q, y, standsFor[2 * k + 1])) {
          pattern.add(Acts.PARAMETER, k);
          return true;
        }
      }
      if (patternParams == 2) {
        return false;
      }
      standsFor[2 * patternParams] = p;
      standsFor[2 * patternParams + 1] = q;
      patternKinds[patternParams] = kind;
      pattern.add(Acts.PARAMETER, patternParams);
      patternParams++;
      return true;
    }

    /** Makes the pattern the best one if it is: what the best one saves. */
    private int takeBest(int saving, int most) {
      if (saving < 1 || saving < most) {
        return most;
      }
      int size = acts.write(pattern, otherText, open);
      if (saving == most && !isBefore(otherText, size, bestText, bestTextSize)) {
        return most;
      }
      best.become(pattern);
      System.arraycopy(patternKinds, 0, bestKinds, 0, 2);
      bestKinds[2] = patternParams;
      System.arraycopy(otherText, 0, bestText, 0, size < TEXT ? size : TEXT);
      bestTextSize = size;
      return saving;
    }

    private static boolean isBefore(byte[] x, int xSize, byte[] y, int ySize) {
      for (int i = 0; i < xSize && i < ySize && i < TEXT; i++) {
        if (x[i] != y[i]) {
          return x[i] < y[i];
        }
      }
      return xSize < ySize;
    }

    private int savingOf() {
      int saved = -pattern.size;
      for (int k = 0; k < keptCount; k++) {
        rewritten.size = 0;
        rewrite(kept[k], 0, 0);
        saved += kept[k].size - rewritten.size;
      }
      return saved;
    }

    /** Adds a part of a kept term to what is rewritten, with the next own act in place of the pattern. */
    private void rewrite(Term old, int i, int depth) {
      if (depth > DEPTH || i < 0) {
        return;
      }
      if (isMatch(old, i)) {
        int first = bound[0];
        int second = bound[1];
        int node = rewritten.add(Acts.KNOWN + acts.owned, 0);
        rewrite(old, first, depth + 1);
        if (patternParams == 2) {
          rewrite(old, second, depth + 1);
        }
        rewritten.close(node);
        return;
      }
      int op = old.op[i];
      int node = rewritten.add(op, old.val[i]);
      for (int k = 0; op < Acts.LEAF && k < acts.arity[op]; k++) {
        rewrite(old, old.operand(i, k), depth + 1);
      }
      rewritten.close(node);
    }

    /** Whether a place is the pattern with some terms for its parameters, which are remembered. */
    private boolean isMatch(Term old, int i) {
      int at = i;
      bound[0] = -1;
      bound[1] = -1;
      for (int node = 0; node < pattern.size; node++) {
        if (at >= old.end[i]) {
          return false;
        }
        if (pattern.op[node] == Acts.PARAMETER) {
          int k = pattern.val[node];
          if (bound[k] < 0) {
            bound[k] = at;
          } else if (!old.samePart(at, old, bound[k])) {
            return false;
          }
          at = old.end[at];
        } else {
          if (old.op[at] != pattern.op[node] || old.val[at] != pattern.val[node]) {
            return false;
          }
          at++;
        }
      }
      return true;
    }

    /** The best pattern becomes an own act, in its place in all kept terms. */
    void putBestInPlace(long name) {
      pattern.become(best);
      patternParams = bestKinds[2];
      for (int k = 0; k < keptCount; k++) {
        rewritten.size = 0;
        rewrite(kept[k], 0, 0);
        kept[k].become(rewritten);
      }
      acts.addOwn(name, bestKinds, patternParams, best, acts.kinds[best.op[0] * 4 + 3]);
    }
  }

  /** The loop, and its STATES in all MEETINGS; a STATE is its variables' values as digits to the base 16. */
  private static final class Loops {
    static final int FROM = 0, WHILE = 3, DO = 4, GIVE = 7;
    private static final int STATES = 4096;
    /** How a run goes on from a STATE: to another one, or so. */
    private static final int ENDS = -1, FAILS = -2;
    private static final int UNMET = -1, ENDLESS = 0, ENDED = 1, FAILED = 2;

    private final Acts acts;
    boolean there;
    int vars;
    final int[] varKinds = new int[3];
    int met;
    /** What is read becomes the loop only when it has no FAULT. */
    int newInputs;
    final int[] newKinds = new int[2];
    int newVars;
    final int[] newVarKinds = new int[3];
    private final Term[] terms = new Term[8];
    private int inputs;
    private final int[] firstState = new int[POINTS];
    private final int[] goesOn = new int[STATES];
    private final int[] outcome = new int[STATES];
    private final int[] meetings = new int[STATES];
    private final int[] given = new int[STATES];
    /** The STATES of the run that is followed, and the place of each one in it, from 1 on. */
    private final int[] path = new int[STATES];
    private final int[] placeOf = new int[STATES];

    Loops(Acts known) {
      acts = known;
      for (int i = 0; i < terms.length; i++) {
        terms[i] = new Term(TERM_SIZE);
      }
    }

    void beginReading() {
      newInputs = 0;
      newVars = 0;
    }

    void setTerm(int which, Term nodes, int first) {
      if (which >= 0 && which < terms.length) {
        terms[which].size = 0;
        terms[which].addPart(nodes, first);
      }
    }

    void setVarKind(int v, int kind) {
      if (v < 3) {
        newVarKinds[v] = kind;
      }
    }

    /** What was read becomes the loop, and is run with all inputs. */
    void runAll() {
      there = true;
      vars = newVars;
      System.arraycopy(newVarKinds, 0, varKinds, 0, 3);
      int second = newInputs == 2 ? Ask.valuesOf(newKinds[1]) : 1;
      inputs = Ask.valuesOf(newKinds[0]) * second;
      met = 0;
      Arrays.fill(outcome, UNMET);
      Arrays.fill(placeOf, 0);
      for (int i = 0; i < inputs && i < POINTS; i++) {
        firstState[i] = stateFrom(FROM, i / second, i % second, 0);
        if (firstState[i] >= 0) {
          follow(firstState[i]);
        }
      }
    }

    /** The STATE that the terms of from or do give, or FAILS. */
    private int stateFrom(int which, int a, int b, int c) {
      int state = 0;
      boolean error = false;
      for (int v = 0; v < 3; v++) {
        int answer = v < vars ? acts.answerOf(terms[which + v], a, b, c) : 0;
        error = error || answer < 0;
        state = state * 16 + (answer & 15);
      }
      return error ? FAILS : state;
    }

    private int answerIn(Term term, int state) {
      return acts.answerOf(term, state >> 8, state >> 4 & 15, state & 15);
    }

    /** Follows a run from a STATE on till it is over, comes again, or comes to what was followed before. */
    private void follow(int first) {
      int size = 0;
      int state = first;
      while (state >= 0 && size < STATES && outcome[state] == UNMET && placeOf[state] == 0) {
        path[size] = state;
        size++;
        placeOf[state] = size;
        goesOn[state] = goOn(state);
        state = goesOn[state];
      }
      int end = state == ENDS ? ENDED : state == FAILS ? FAILED : ENDLESS;
      int answer = state == ENDS && size > 0 ? given[path[size - 1]] : ERROR;
      int behind = 0;
      int circle = state >= 0 && placeOf[state] > 0 ? placeOf[state] - 1 : size;
      if (state >= 0 && outcome[state] != UNMET) {
        end = outcome[state];
        answer = given[state];
        behind = meetings[state];
      }
      for (int i = 0; i < size; i++) {
        outcome[path[i]] = end;
        given[path[i]] = answer;
        meetings[path[i]] = size - Math.min(i, circle) + behind;
        placeOf[path[i]] = 0;
      }
      met += size;
    }

    private int goOn(int state) {
      int condition = answerIn(terms[WHILE], state);
      given[state] = ERROR;
      if (condition < 0) {
        return FAILS;
      }
      if (condition == 0) {
        given[state] = answerIn(terms[GIVE], state);
        return given[state] < 0 ? FAILS : ENDS;
      }
      return stateFrom(DO, state >> 8, state >> 4 & 15, state & 15);
    }

    int tellRun(int i, int what) {
      if (i < 0 || i >= inputs || what < 0 || what > 2) {
        return NONE;
      }
      int first = firstState[i];
      if (first < 0) {
        return what == 0 ? FAILED : what == 1 ? 0 : ERROR;
      }
      return what == 0 ? outcome[first] : what == 1 ? meetings[first] : given[first];
    }

    int tellSpan(int v, int what) {
      if (v < 0 || v >= vars || what < 0 || what > 1) {
        return NONE;
      }
      int found = NONE;
      for (int state = 0; state < STATES; state++) {
        int val = state >> 4 * (2 - v) & 15;
        if (outcome[state] != UNMET && (found == NONE || (what == 0 ? val < found : val > found))) {
          found = val;
        }
      }
      return found;
    }

    /** The first input, times 10000, and its first meeting in which a term is not true; -1 if there is none. */
    int firstBreak(Term told) {
      Arrays.fill(placeOf, 0);
      int found = -1;
      for (int i = 0; i < inputs && found < 0; i++) {
        int state = firstState[i];
        for (int meeting = 0; meeting < STATES && state >= 0 && placeOf[state] == 0; meeting++) {
          placeOf[state] = 1;
          if (answerIn(told, state) != 1) {
            found = i * 10000 + meeting;
            break;
          }
          state = goesOn[state];
        }
      }
      Arrays.fill(placeOf, 0);
      return found;
    }
  }

  /** Word rows, and the programs that make each OUT of its IN. */
  private static final class WordRows {
    private static final int ROWS = 8, LENGTH = 10, PARTS = 4, PLACES = 400;
    private static final int SPOTS = 178, BACK = 11, BEFORE = 22, BEHIND = 100;
    /** Front and back 0 .. 10, and before and behind each of at most ten letters. */
    private static final int USABLE = 42;
    private static final int STEPS = 3 + USABLE * USABLE;
    private static final int SLOTS = 1024;
    private static final int DEAR = 1000000;

    int rows;
    private final byte[] ins = new byte[ROWS * LENGTH];
    private final byte[] outs = new byte[ROWS * LENGTH];
    private final int[] inSize = new int[ROWS];
    private final int[] outSize = new int[ROWS];
    /** The spots that are there in all rows, in their order, and where they are in each. */
    private int usable;
    private final int[] spots = new int[USABLE];
    private final int[] spotAt = new int[USABLE * ROWS];
    /** Rows of places in the OUTs, four bits for each, in the order in which they are met, and by how many parts. */
    private int places;
    private final int[] placeKey = new int[PLACES + 1];
    private final int[] placeDepth = new int[PLACES + 1];
    private final int[] slots = new int[SLOTS];
    /** Parts that lead on from a place, in their order: a word as -1 less its number, a cut as its spots. */
    private final int[] stepPart = new int[STEPS];
    private final int[] stepKey = new int[STEPS];
    /** By how many parts are left and place: the least price, how many programs. */
    private final int[] least = new int[(PARTS + 1) * (PLACES + 1)];
    private final long[] many = new long[(PARTS + 1) * (PLACES + 1)];
    private boolean isSolved;
    private boolean hasRoom;
    int parts;
    private final int[] program = new int[PARTS];
    private final byte[] made = new byte[PARTS * LENGTH];

    void empty() {
      rows = 0;
      isSolved = false;
    }

    boolean isFull() {
      return rows >= ROWS;
    }

    void addRow(byte[] text, int from, int in, int out) {
      if (isFull() || in > LENGTH || out > LENGTH) {
        return;
      }
      System.arraycopy(text, from, ins, rows * LENGTH, in);
      System.arraycopy(text, from + in, outs, rows * LENGTH, out);
      inSize[rows] = in;
      outSize[rows] = out;
      rows++;
      isSolved = false;
    }

    /** Where a spot is in a word, or -1. */
    private static int placeOf(int spot, byte[] word, int from, int size) {
      if (spot < BACK) {
        return spot <= size ? spot : -1;
      }
      if (spot < BEFORE) {
        return spot - BACK <= size ? size - (spot - BACK) : -1;
      }
      int behind = spot >= BEHIND ? 1 : 0;
      int which = spot - (behind == 1 ? BEHIND : BEFORE);
      int wanted = which % 3 + 1;
      for (int i = 0; i < size; i++) {
        if (word[from + i] == 'a' + which / 3) {
          wanted--;
          if (wanted == 0) {
            return i + behind;
          }
        }
      }
      return -1;
    }

    private static int priceOfSpot(int spot) {
      return spot < BEFORE ? 1 : 2;
    }

    private void listSpots() {
      usable = 0;
      for (int spot = 0; spot < SPOTS && usable < USABLE; spot++) {
        boolean there = true;
        for (int r = 0; r < rows && there; r++) {
          int at = placeOf(spot, ins, r * LENGTH, inSize[r]);
          spotAt[usable * ROWS + r] = at;
          there = at >= 0;
        }
        if (there) {
          spots[usable] = spot;
          usable++;
        }
      }
    }

    /** Works out all programs: false if there are too many rows of places. */
    boolean solve() {
      if (!isSolved) {
        isSolved = true;
        listSpots();
        hasRoom = meetPlaces();
        if (hasRoom) {
          weighPlaces();
        }
      }
      return hasRoom;
    }

    private boolean meetPlaces() {
      Arrays.fill(slots, 0);
      places = 0;
      meet(0, 0);
      for (int p = 0; p < places; p++) {
        if (placeDepth[p] == PARTS) {
          continue;
        }
        int steps = listSteps(placeKey[p]);
        for (int i = 0; i < steps; i++) {
          if (!meet(stepKey[i], placeDepth[p] + 1)) {
            return false;
          }
        }
      }
      return true;
    }

    /** The slot of a row of places, or the free one that it would have. */
    private int slotFor(int key) {
      int slot = (key * 0x9E3779B1 >>> 20) & SLOTS - 1;
      for (int tries = 0; tries < SLOTS && slots[slot] != 0 && placeKey[slots[slot] - 1] != key; tries++) {
        slot = slot + 1 & SLOTS - 1;
      }
      return slot;
    }

    private boolean meet(int key, int depth) {
      int slot = slotFor(key);
      if (slots[slot] != 0) {
        return true;
      }
      if (places >= PLACES) {
        return false;
      }
      placeKey[places] = key;
      placeDepth[places] = depth;
      places++;
      slots[slot] = places;
      return true;
    }

    /** Lists the parts that lead on from a row of places: how many. */
    private int listSteps(int key) {
      int steps = 0;
      int word = 0;
      int next = key;
      for (int size = 1; size <= 3; size++) {
        int letter = commonLetter(next);
        if (letter == 0) {
          break;
        }
        word = word * LETTERS + letter;
        for (int r = 0; r < rows; r++) {
          next += 1 << 4 * r;
        }
        stepPart[steps] = -1 - word;
        stepKey[steps] = next;
        steps++;
      }
      for (int i = 0; i < usable; i++) {
        steps = listCuts(key, i, steps);
      }
      return steps;
    }

    /** The letter, from 1 on, that stands at these places in all OUTs, or 0. */
    private int commonLetter(int key) {
      int letter = 0;
      for (int r = 0; r < rows; r++) {
        int at = key >> 4 * r & 15;
        int here = at < outSize[r] ? outs[r * LENGTH + at] - 'a' + 1 : 0;
        if (here == 0 || r > 0 && here != letter) {
          return 0;
        }
        letter = here;
      }
      return letter;
    }

    private int listCuts(int key, int i, int before) {
      int steps = before;
      for (int j = 0; j < usable && steps < STEPS; j++) {
        int next = key;
        boolean fits = true;
        for (int r = 0; r < rows && fits; r++) {
          int size = spotAt[j * ROWS + r] - spotAt[i * ROWS + r];
          fits = size > 0 && isAt(r, spotAt[i * ROWS + r], key >> 4 * r & 15, size);
          next += size << 4 * r;
        }
        if (fits) {
          stepPart[steps] = spots[i] * SPOTS + spots[j];
          stepKey[steps] = next;
          steps++;
        }
      }
      return steps;
    }

    /** Whether these letters of an IN stand at a place of its OUT. */
    private boolean isAt(int r, int in, int out, int size) {
      if (out + size > outSize[r] || in + size > inSize[r]) {
        return false;
      }
      for (int i = 0; i < size; i++) {
        if (ins[r * LENGTH + in + i] != outs[r * LENGTH + out + i]) {
          return false;
        }
      }
      return true;
    }

    private static int sizeOf(int word) {
      return word < LETTERS ? 1 : word < LETTERS * LETTERS ? 2 : 3;
    }

    private static int priceOfPart(int part) {
      if (part < 0) {
        return 2 * sizeOf(-1 - part);
      }
      return priceOfSpot(part / SPOTS) + priceOfSpot(part % SPOTS);
    }

    /** Each part leads on in the first OUT: so places further on there are weighed first. */
    private void weighPlaces() {
      int end = 0;
      for (int r = 0; r < rows; r++) {
        end += outSize[r] << 4 * r;
      }
      for (int further = LENGTH; further >= 0; further--) {
        for (int p = 0; p < places; p++) {
          if ((placeKey[p] & 15) == further) {
            weigh(p, placeKey[p] == end);
          }
        }
      }
    }

    private void weigh(int p, boolean isEnd) {
      for (int m = 0; m <= PARTS; m++) {
        least[m * (PLACES + 1) + p] = m == 0 && isEnd ? 0 : DEAR;
        many[m * (PLACES + 1) + p] = m == 0 && isEnd ? 1 : 0;
      }
      int steps = placeDepth[p] < PARTS ? listSteps(placeKey[p]) : 0;
      for (int i = 0; i < steps; i++) {
        int next = slots[slotFor(stepKey[i])] - 1;
        int price = priceOfPart(stepPart[i]);
        for (int m = 1; next >= 0 && m <= PARTS; m++) {
          int from = (m - 1) * (PLACES + 1) + next;
          int to = m * (PLACES + 1) + p;
          many[to] += many[from];
          least[to] = Math.min(least[to], least[from] + price);
        }
      }
    }

    long countPrograms(int m) {
      return many[m * (PLACES + 1)];
    }

    /** Takes the first program: its price, or 0 if there is none. */
    int takeFirst() {
      int best = 0;
      int price = DEAR;
      for (int m = 1; m <= PARTS; m++) {
        if (least[m * (PLACES + 1)] < price) {
          best = m;
          price = least[m * (PLACES + 1)];
        }
      }
      if (best == 0) {
        return 0;
      }
      int p = 0;
      int rest = price;
      for (int m = best; m > 0 && p >= 0; m--) {
        p = takePart(p, m, rest, best - m);
        rest -= priceOfPart(program[best - m]);
      }
      parts = best;
      return price;
    }

    /** Takes the first part that leads to the end with m parts for the rest of the price: the place behind it. */
    private int takePart(int p, int m, int rest, int which) {
      int steps = listSteps(placeKey[p]);
      for (int i = 0; i < steps; i++) {
        int next = slots[slotFor(stepKey[i])] - 1;
        if (next >= 0 && least[(m - 1) * (PLACES + 1) + next] + priceOfPart(stepPart[i]) == rest) {
          program[which] = stepPart[i];
          return next;
        }
      }
      return -1;
    }

    int tellPart(int i, int what) {
      if (parts == 0) {
        return NONE;
      }
      if (what == 0) {
        return parts;
      }
      if (i < 0 || i >= parts || what < 1 || what > 4) {
        return NONE;
      }
      boolean cut = program[i] >= 0;
      switch (what) {
        case 1: return cut ? 1 : 0;
        case 2: return cut ? NONE : -1 - program[i];
        case 3: return cut ? program[i] / SPOTS : NONE;
        default: return cut ? program[i] % SPOTS : NONE;
      }
    }

    /** Makes what the program gives for a word of it: how many letters, or -1 if a part is not there. */
    int giveFor(byte[] word, int size) {
      int given = 0;
      for (int i = 0; i < parts; i++) {
        int part = program[i];
        if (part < 0) {
          given = addLetters(-1 - part, given);
          continue;
        }
        int from = placeOf(part / SPOTS, word, 0, size);
        int to = placeOf(part % SPOTS, word, 0, size);
        if (from < 0 || to <= from) {
          return -1;
        }
        for (int k = from; k < to; k++) {
          made[given] = word[k];
          given++;
        }
      }
      System.arraycopy(made, 0, word, 0, given);
      return given;
    }

    private int addLetters(int word, int from) {
      int size = sizeOf(word);
      int rest = word;
      for (int i = size - 1; i >= 0; i--) {
        made[from + i] = (byte) (rest % LETTERS + 'a' - 1);
        rest /= LETTERS;
      }
      return from + size;
    }
  }

  /** The least machine for words of a and b; the shortest row of acts of a small machine. */
  private static final class Machines {
    private static final int WORDS = 20, LETTERS_MOST = 8, STATES = 5;
    private static final int ACTS = 18, ROW = 5;
    /** Sixteen lanes of four bits, one for each input: all but their highest bits, these, and their lowest. */
    private static final long LOW = 0x7777777777777777L, HIGH = 0x8888888888888888L, ONES = 0x1111111111111111L;
    private static final long INPUTS = 0xFEDCBA9876543210L;
    private static final int NOT_FOUND = 100;

    int words;
    /** A word's letters as bits, its first one lowest. */
    private final int[] letters = new int[WORDS];
    private final int[] sizes = new int[WORDS];
    private final int[] goods = new int[WORDS];
    private int states;
    private final int[] leads = new int[2 * STATES];
    private int goodStates;
    /** By how many moves are set: how far each word has come, and in which state. */
    private final int[] come = new int[(2 * STATES + 1) * WORDS];
    private final int[] stands = new int[(2 * STATES + 1) * WORDS];
    private final int[] trial = new int[2 * STATES];
    final int[] row = new int[ROW];
    int rowSize;
    private final long[] pastA = new long[ROW + 1];
    private final long[] pastB = new long[ROW + 1];
    private long wanted;

    boolean isFull() {
      return words >= WORDS;
    }

    private static int bitsOf(byte[] text, int from, int size) {
      int bits = 0;
      for (int i = size - 1; i >= 0; i--) {
        bits = bits * 2 + (text[from + i] == 'b' ? 1 : 0);
      }
      return bits;
    }

    /** Whether a word was told as good, 1, or not, 0; -1 if it was not told. */
    int wordTold(byte[] text, int from, int size) {
      int bits = bitsOf(text, from, size);
      for (int w = 0; w < words; w++) {
        if (sizes[w] == size && letters[w] == bits) {
          return goods[w];
        }
      }
      return -1;
    }

    void addWord(byte[] text, int from, int size, int good) {
      if (!isFull() && size <= LETTERS_MOST) {
        letters[words] = bitsOf(text, from, size);
        sizes[words] = size;
        goods[words] = good;
        words++;
      }
    }

    /** Finds the least machine: how many states it has, or 0. */
    int findLeast() {
      for (int n = 1; n <= STATES; n++) {
        for (int w = 0; w < words; w++) {
          come[w] = 0;
          stands[w] = 0;
        }
        if (!isClash(0) && setMoves(n, 0, 0)) {
          states = n;
          System.arraycopy(trial, 0, leads, 0, 2 * n);
          goodStates = endsOf(2 * n, 1);
          return n;
        }
      }
      return 0;
    }

    /** Sets all moves from one on, the least first, where states up to the greatest are met. */
    private boolean setMoves(int n, int move, int greatest) {
      if (move >= 2 * n) {
        return greatest == n - 1;
      }
      if (move / 2 > greatest || greatest + 2 * n - move < n - 1) {
        return false;
      }
      for (int to = 0; to <= greatest + 1 && to < n; to++) {
        trial[move] = to;
        advance(move);
        if (!isClash(move + 1) && setMoves(n, move + 1, Math.max(greatest, to))) {
          return true;
        }
      }
      return false;
    }

    /** The words that waited for a move go on as far as moves are set. */
    private void advance(int move) {
      int old = move * WORDS;
      int now = old + WORDS;
      for (int w = 0; w < words; w++) {
        int i = come[old + w];
        int state = stands[old + w];
        while (i < sizes[w] && 2 * state + (letters[w] >> i & 1) <= move) {
          state = trial[2 * state + (letters[w] >> i & 1)];
          i++;
        }
        come[now + w] = i;
        stands[now + w] = state;
      }
    }

    /** The states, as bits, in which words end that were told so. */
    private int endsOf(int moves, int good) {
      int ends = 0;
      for (int w = 0; w < words; w++) {
        if (goods[w] == good && come[moves * WORDS + w] == sizes[w]) {
          ends |= 1 << stands[moves * WORDS + w];
        }
      }
      return ends;
    }

    private boolean isClash(int moves) {
      return (endsOf(moves, 0) & endsOf(moves, 1)) != 0;
    }

    int tellState(int i, int what) {
      if (i < 0 || i >= states || what < 0 || what > 2) {
        return NONE;
      }
      return what == 2 ? goodStates >> i & 1 : leads[2 * i + what];
    }

    // rows of acts: A and B of all sixteen inputs at once, a lane for each

    private static long sum(long x, long y) {
      return (x & LOW) + (y & LOW) ^ (x ^ y) & HIGH;
    }

    private static long less(long x, long y) {
      return sum(x, sum(~y, ONES));
    }

    private static long product(long x, long y) {
      long result = 0;
      long shifted = x;
      for (int bit = 0; bit < 4; bit++) {
        result = sum(result, shifted & (y >>> bit & ONES) * 15);
        shifted = (shifted & LOW) << 1;
      }
      return result;
    }

    /** What an act makes of A. */
    private static long nextA(int act, long a, long b) {
      switch (act) {
        case 0: return sum(a, b);
        case 2: return less(a, b);
        case 4: return a ^ b;
        case 6: return a & b;
        case 8: return ~a;
        case 10: return b;
        case 11: return sum(a, ONES);
        case 13: return (a & LOW) << 1;
        case 14: return a >>> 1 & LOW;
        case 15: return b;
        case 16: return less(0, a);
        case 17: return product(a, b);
        default: return a;
      }
    }

    /** What an act makes of B. */
    private static long nextB(int act, long a, long b) {
      switch (act) {
        case 1: return sum(a, b);
        case 3: return less(b, a);
        case 5: return a ^ b;
        case 7: return a | b;
        case 9: return a;
        case 12: return sum(b, ONES);
        case 15: return a;
        default: return b;
      }
    }

    static long goalOf(long acts, int n) {
      if (n < 0 || n > 8) {
        return 0;
      }
      long a = INPUTS;
      long b = 0;
      for (int i = 0; i < n; i++) {
        int act = (int) (acts >>> 5 * i) & 31;
        if (act >= ACTS) {
          return 0;
        }
        long next = nextA(act, a, b);
        b = nextB(act, a, b);
        a = next;
      }
      return a;
    }

    /** Finds the shortest row of acts: how many it has. */
    int findRow(long goal, int most) {
      wanted = goal;
      pastA[0] = INPUTS;
      pastB[0] = 0;
      for (int n = 0; n <= most && n <= ROW; n++) {
        if (goOn(0, n)) {
          rowSize = n;
          return n;
        }
      }
      rowSize = 0;
      return NOT_FOUND;
    }

    /** Puts just so many acts, the first ones that lead to the goal, behind those that were put. */
    private boolean goOn(int put, int rest) {
      if (rest == 0) {
        return pastA[put] == wanted;
      }
      for (int act = 0; act < ACTS && put < ROW; act++) {
        long a = nextA(act, pastA[put], pastB[put]);
        if (rest == 1 && a != wanted) {
          continue;
        }
        pastA[put + 1] = a;
        pastB[put + 1] = nextB(act, pastA[put], pastB[put]);
        row[put] = act;
        if (!cameBefore(put + 1) && goOn(put + 1, rest - 1)) {
          return true;
        }
      }
      return false;
    }

    /** A row that comes to the same A and B again is not the shortest. */
    private boolean cameBefore(int put) {
      for (int i = 0; i < put; i++) {
        if (pastA[i] == pastA[put] && pastB[i] == pastB[put]) {
          return true;
        }
      }
      return false;
    }
  }

  /** The disk, and the records that wait for it. */
  private static final class Disk {
    static final int BLOCKS = 200, SIZE = 128, CONTENT = 121;
    private static final int SUMMED = 124, TORN = 2;

    final byte[] blocks = new byte[BLOCKS * SIZE];
    int used;
    final byte[] wait = new byte[BLOCKS * CONTENT];
    int waiting;
    int waitingBytes;
    /** How many blocks are written before power goes, or -1; and how many bytes of the next one. */
    int cutAt = -1;
    int tear;

    boolean has(int block, int i) {
      return block >= 1 && block <= BLOCKS && i >= 0 && i < SIZE;
    }

    static int at(int block, int i) {
      return (block - 1) * SIZE + i;
    }

    /** Whether a record with so many bytes behind its number and length can wait. */
    boolean hasRoom(int bytes) {
      return waitingBytes + 3 + bytes <= (BLOCKS - used) * CONTENT;
    }

    /** Begins a record. */
    void record(int number, int bytes) {
      put(number);
      put(bytes >> 8);
      put(bytes);
      waiting++;
    }

    void put(int octet) {
      if (waitingBytes < wait.length) {
        wait[waitingBytes] = (byte) octet;
        waitingBytes++;
      }
    }

    void putAll(byte[] bytes, int from, int size) {
      for (int i = from; i < from + size && i < bytes.length; i++) {
        put(bytes[i]);
      }
    }

    void forgetWaiting() {
      waiting = 0;
      waitingBytes = 0;
    }

    /** Writes all records that wait: how many blocks, or LOST. */
    int writeWaiting() {
      int many = (waitingBytes + CONTENT - 1) / CONTENT;
      for (int k = 0; k < many && used + k < BLOCKS; k++) {
        boolean torn = cutAt == 0;
        writeBlock(used + k + 1, k * CONTENT, k == many - 1, torn ? tear : SIZE);
        if (torn) {
          blocks[at(used + k + 1, 1)] = TORN;
          cutAt = -1;
          return LOST;
        }
        if (cutAt > 0) {
          cutAt--;
        }
      }
      used += many;
      forgetWaiting();
      return many;
    }

    /** Writes the first bytes of a block, with the records' bytes from a place on. */
    private void writeBlock(int block, int from, boolean last, int bytes) {
      int content = Math.min(CONTENT, waitingBytes - from);
      int sum = 0;
      for (int i = 0; i < SIZE; i++) {
        int octet;
        if (i < 3) {
          octet = i == 0 ? block : i == 1 ? last ? 1 : 0 : content;
        } else if (i < SUMMED) {
          octet = i - 3 < content ? wait[from + i - 3] & 255 : 0;
        } else {
          octet = sum >>> 8 * (SIZE - 1 - i) & 255;
        }
        if (i < SUMMED) {
          sum = addToSum(sum, octet);
        }
        if (i < bytes) {
          blocks[at(block, i)] = (byte) octet;
        }
      }
    }

    private static int addToSum(int sum, int octet) {
      int mixed = sum ^ octet;
      return (mixed << 5 | mixed >>> 27) * 0x9E3779B1;
    }

    private boolean isRight(int block) {
      int kind = blocks[at(block, 1)];
      int content = blocks[at(block, 2)] & 255;
      boolean told = kind == 0 ? content == CONTENT : kind == 1 && content >= 1 && content <= CONTENT;
      if (!told || (blocks[at(block, 0)] & 255) != block) {
        return false;
      }
      int sum = 0;
      for (int i = 0; i < SUMMED; i++) {
        sum = addToSum(sum, blocks[at(block, i)] & 255);
      }
      for (int i = SUMMED; i < SIZE; i++) {
        if ((blocks[at(block, i)] & 255) != (sum >>> 8 * (SIZE - 1 - i) & 255)) {
          return false;
        }
      }
      return true;
    }

    /** Finds the blocks that are used: those of whole syncs. */
    void findUsed() {
      forgetWaiting();
      cutAt = -1;
      used = 0;
      for (int block = 1; block <= BLOCKS && isRight(block); block++) {
        if (blocks[at(block, 1)] == 1) {
          used = block;
        }
      }
    }

    /** Gathers the records' bytes of a block behind those before: whether it is the last one of its sync. */
    boolean gather(int block) {
      putAll(blocks, at(block, 3), blocks[at(block, 2)] & 255);
      return blocks[at(block, 1)] == 1;
    }
  }
}
