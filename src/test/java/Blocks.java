import java.nio.charset.StandardCharsets;

/** Records and blocks as the document tells them, and a disk that is written by hand. */
final class Blocks {
  private Blocks() {
  }

  static int sum(int[] block) {
    int s = 0;
    for (int i = 0; i < 124; i++) {
      s = Integer.rotateLeft(s ^ block[i], 5) * 0x9E3779B1;
    }
    return s;
  }

  /** A block as a sync writes it. */
  static int[] block(int number, int last, byte[] content, int from, int size) {
    int[] block = new int[128];
    block[0] = number;
    block[1] = last;
    block[2] = size;
    for (int i = 0; i < size; i++) {
      block[3 + i] = content[from + i] & 255;
    }
    return summed(block);
  }

  /** The block with the SUM that its other bytes have. */
  static int[] summed(int[] block) {
    int s = sum(block);
    for (int i = 0; i < 4; i++) {
      block[124 + i] = s >>> 24 - 8 * i & 255;
    }
    return block;
  }

  /** The blocks of one sync. */
  static int[][] sync(int first, byte[] all) {
    int many = (all.length + 120) / 121;
    int[][] blocks = new int[many][];
    for (int k = 0; k < many; k++) {
      blocks[k] = block(first + k, k == many - 1 ? 1 : 0, all, 121 * k, Math.min(121, all.length - 121 * k));
    }
    return blocks;
  }

  static void dueBlock(String what, House h, int[] block) {
    for (int i = 0; i < 128; i++) {
      House.due(what + ", byte " + i, h.x.octet(block[0], i), block[i]);
    }
  }

  static byte[] record(int number, String bytes) {
    byte[] text = bytes.getBytes(StandardCharsets.ISO_8859_1);
    byte[] record = new byte[3 + text.length];
    record[0] = (byte) number;
    record[1] = (byte) (text.length >> 8);
    record[2] = (byte) text.length;
    System.arraycopy(text, 0, record, 3, text.length);
    return record;
  }

  static byte[] join(byte[]... parts) {
    int size = 0;
    for (byte[] part : parts) {
      size += part.length;
    }
    byte[] all = new byte[size];
    int at = 0;
    for (byte[] part : parts) {
      System.arraycopy(part, 0, all, at, part.length);
      at += part.length;
    }
    return all;
  }

  /** The text of an own act with so many bytes. */
  static String longAct(String name, int size) {
    String head = "act " + name + " n -> n =";
    return head + " ".repeat(size - head.length() - 1) + "a";
  }

  /** Makes a block, whose bytes are known, another one. */
  static void rewrite(House h, int[] have, int[] want) {
    for (int i = 0; i < 128; i++) {
      if (have[i] != want[i]) {
        House.due("block " + want[0] + " by hand, byte " + i, h.x.poke(want[0], i, have[i] ^ want[i]), want[i]);
      }
    }
  }

  /** Makes a house DOWN by a record that is lost; of a new one's disk only the second byte of block 1 is not 0 then. */
  static void goDown(House h) {
    h.x.cut(0, 0);
    h.x.end(0);
    h.x.word(true);
    h.x.forget();
    House.due("power goes", h.x.sync(), FinderHouse.LOST);
  }

  /** Writes a block on the disk of a house that went DOWN when it was new. */
  static void write(House h, int[] block) {
    int[] empty = new int[128];
    empty[1] = block[0] == 1 ? 2 : 0;
    rewrite(h, empty, block);
  }

  /** A new house whose disk has one sync of these records from block 1 on, just before start(). */
  static House withSync(byte[]... records) {
    House h = new House();
    goDown(h);
    for (int[] block : sync(1, join(records))) {
      write(h, block);
    }
    return h;
  }
}
