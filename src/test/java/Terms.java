/** Answers of terms of numbers and truths, worked out from their texts as the document tells it. */
final class Terms {
  private final String text;
  private final int[] params;
  private int at;

  private Terms(String text, int[] params) {
    this.text = text;
    this.params = params;
  }

  /** The ANSWER of a term without blanks for these values of a, b, c; -1 for ERROR. */
  static int answer(String text, int... params) {
    return new Terms(text, params).work();
  }

  private int work() {
    int from = at;
    while (at < text.length() && "(),".indexOf(text.charAt(at)) < 0) {
      at++;
    }
    String head = text.substring(from, at);
    int[] operands = new int[3];
    int many = 0;
    if (at < text.length() && text.charAt(at) == '(') {
      do {
        at++;
        operands[many] = work();
        many++;
      } while (text.charAt(at) == ',');
      at++;
      return give(head, operands, many);
    }
    if (head.equals("true") || head.equals("false")) {
      return head.equals("true") ? 1 : 0;
    }
    return Character.isDigit(head.charAt(0)) ? Integer.parseInt(head) : params[head.charAt(0) - 'a'];
  }

  private static int give(String act, int[] operand, int many) {
    int x = operand[0];
    int y = operand[1];
    if (act.equals("if")) {
      return x < 0 ? -1 : x == 1 ? y : operand[2];
    }
    if (x < 0 || many > 1 && y < 0) {
      return -1;
    }
    switch (act) {
      case "add": return (x + y) % 16;
      case "sub": return (x - y + 16) % 16;
      case "mul": return x * y % 16;
      case "div": return y == 0 ? -1 : x / y;
      case "rem": return y == 0 ? -1 : x % y;
      case "min": return Math.min(x, y);
      case "max": return Math.max(x, y);
      case "and": return x & y;
      case "or": return x | y;
      case "xor": return x ^ y;
      case "less": return x < y ? 1 : 0;
      case "same": return x == y ? 1 : 0;
      case "not": return 1 - x;
      case "both": return x & y;
      case "any": return x | y;
      default: throw new IllegalArgumentException(act);
    }
  }
}
