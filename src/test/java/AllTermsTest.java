import java.util.ArrayList;
import java.util.Arrays;
import java.util.List;

/** FIND, COUNT, THE i-TH, DIFFERENT, THE QUESTION, CHEAPER and MEND against all terms of an ask, made one by one in ORDER. */
public final class AllTermsTest {
  private static final class Made {
    final String text;
    final char kind;
    final int[] answers;

    Made(String text, char kind, int[] answers) {
      this.text = text;
      this.kind = kind;
      this.answers = answers;
    }
  }

  private final String kinds;
  private final char last;
  private final String[] pieces;
  private final int[] prices;
  private final int[][] points;
  /** By price, in ORDER. */
  private final List<List<Made>> terms = new ArrayList<>();
  private final int[][] rows;
  private final String ask;

  public static void main(String[] args) {
    new AllTermsTest("nt", 'n', "if add less:2 1 0:3", new int[][] {{3, 1, 4}, {3, 0, 3}}).compare(7);
    new AllTermsTest("nt", 'n', "if add less:2 1 0:3", new int[][] {}).compare(6);
    new AllTermsTest("nt", 'n', "add sub less if 1 0:3", new int[][] {{3, 1, 4}, {3, 0, 3}}).compare(6);
    new AllTermsTest("tt", 'n', "less:3 not if add:2 1 2", new int[][] {{1, 0, 2}, {0, 0, 1}}).compare(7);
    new AllTermsTest("t", 't', "not both any:2 true:3", new int[][] {{0, 1}}).compare(8);
    new AllTermsTest("n", 'n', "div sub:2 1 0", new int[][] {{0, -1}}).compare(6);
    new AllTermsTest("n", 't', "less not 7", new int[][] {{0, 1}, {15, 0}}).compare(7);
    new AllTermsTest("tnt", 'n', "if:3 add 1", new int[][] {{1, 5, 0, 6}}).compare(8);
    new AllTermsTest("nn", 'n', "sub add 1:2", new int[][] {{3, 4, 6}, {0, 0, 15}}).compare(7);
    House.finish();
  }

  private AllTermsTest(String kinds, char last, String told, int[][] rows) {
    this.kinds = kinds;
    this.last = last;
    this.rows = rows;
    String[] each = told.split(" ");
    pieces = new String[each.length];
    prices = new int[each.length];
    for (int i = 0; i < each.length; i++) {
      String[] two = each[i].split(":");
      pieces[i] = two[0];
      prices[i] = two.length > 1 ? Integer.parseInt(two[1]) : 1;
    }
    StringBuilder text = new StringBuilder("find");
    int many = 1;
    for (char kind : kinds.toCharArray()) {
      text.append(' ').append(kind);
      many *= kind == 'n' ? 16 : 2;
    }
    text.append(" -> ").append(last).append("; use ").append(told.replace(" ", ", ")).append(';');
    points = new int[many][kinds.length()];
    for (int i = 0; i < many; i++) {
      int rest = i;
      for (int k = kinds.length() - 1; k >= 0; k--) {
        int values = kinds.charAt(k) == 'n' ? 16 : 2;
        points[i][k] = rest % values;
        rest /= values;
      }
    }
    for (int[] row : rows) {
      text.append(" row");
      for (int k = 0; k < row.length; k++) {
        char kind = k < kinds.length() ? kinds.charAt(k) : last;
        text.append(k == kinds.length() ? " = " : " ").append(row[k] < 0 ? "error" : kind == 'n' ? "" + row[k] : row[k] == 1 ? "true" : "false");
      }
      text.append(';');
    }
    ask = text.toString();
  }

  /** The operands' kinds of an act, and its own. */
  private static String act(String name) {
    switch (name) {
      case "add": case "sub": case "div": return "nnn";
      case "less": return "nnt";
      case "not": return "tt";
      case "both": case "any": return "ttt";
      case "if": return "tnnn";
      default: return "";
    }
  }

  private static int give(String act, int x, int y, int z) {
    if (act.equals("if")) {
      return x < 0 ? -1 : x == 1 ? y : z;
    }
    if (x < 0 || y < 0) {
      return -1;
    }
    switch (act) {
      case "add": return (x + y) % 16;
      case "sub": return (x - y + 16) % 16;
      case "div": return y == 0 ? -1 : x / y;
      case "less": return x < y ? 1 : 0;
      case "not": return 1 - x;
      case "both": return x & y;
      default: return x | y;
    }
  }

  private void makeAll(int most) {
    terms.add(new ArrayList<>());
    for (int q = 1; q <= most; q++) {
      List<Made> now = new ArrayList<>();
      terms.add(now);
      for (int k = 0; q == 1 && k < kinds.length(); k++) {
        int[] answers = new int[points.length];
        for (int i = 0; i < points.length; i++) {
          answers[i] = points[i][k];
        }
        now.add(new Made("" + (char) ('a' + k), kinds.charAt(k), answers));
      }
      for (int j = 0; j < pieces.length; j++) {
        if (!act(pieces[j]).isEmpty()) {
          combine(now, j, q - prices[j], new ArrayList<>());
        } else if (prices[j] == q) {
          boolean truth = pieces[j].equals("true") || pieces[j].equals("false");
          int[] answers = new int[points.length];
          Arrays.fill(answers, truth ? pieces[j].equals("true") ? 1 : 0 : Integer.parseInt(pieces[j]));
          now.add(new Made(pieces[j], truth ? 't' : 'n', answers));
        }
      }
    }
  }

  private void combine(List<Made> now, int j, int rest, List<Made> picked) {
    String act = act(pieces[j]);
    int arity = act.length() - 1;
    if (picked.size() == arity) {
      if (rest == 0) {
        now.add(join(j, act, picked));
      }
      return;
    }
    for (int x = 1; x <= rest; x++) {
      for (int i = 0; i < terms.get(x).size() && x < terms.size() - 1; i++) {
        Made operand = terms.get(x).get(i);
        if (operand.kind == act.charAt(picked.size())) {
          picked.add(operand);
          combine(now, j, rest - x, picked);
          picked.remove(picked.size() - 1);
        }
      }
    }
  }

  private Made join(int j, String act, List<Made> picked) {
    int[] answers = new int[points.length];
    StringBuilder text = new StringBuilder(pieces[j]).append('(');
    for (int k = 0; k < picked.size(); k++) {
      text.append(k > 0 ? "," : "").append(picked.get(k).text);
    }
    for (int i = 0; i < points.length; i++) {
      int y = picked.size() > 1 ? picked.get(1).answers[i] : 0;
      int z = picked.size() > 2 ? picked.get(2).answers[i] : 0;
      answers[i] = give(pieces[j], picked.get(0).answers[i], y, z);
    }
    return new Made(text.append(')').toString(), act.charAt(act.length() - 1), answers);
  }

  private boolean meets(Made term) {
    for (int[] row : rows) {
      int at = 0;
      for (int k = 0; k < kinds.length(); k++) {
        at = at * (kinds.charAt(k) == 'n' ? 16 : 2) + row[k];
      }
      if (term.answers[at] != row[kinds.length()]) {
        return false;
      }
    }
    return term.kind == last;
  }

  /** The different functions of terms up to a price, in the order in which they come. */
  private List<Made> functions(int p) {
    List<Made> found = new ArrayList<>();
    for (int q = 1; q <= p; q++) {
      for (Made term : terms.get(q)) {
        if (first(found, term) == null) {
          found.add(term);
        }
      }
    }
    return found;
  }

  private static Made first(List<Made> found, Made term) {
    for (Made other : found) {
      if (other.kind == term.kind && Arrays.equals(other.answers, term.answers)) {
        return other;
      }
    }
    return null;
  }

  private int question(List<Made> functions) {
    int best = 0;
    int most = 1;
    for (int i = 0; i < points.length; i++) {
      List<Integer> seen = new ArrayList<>();
      for (Made function : functions) {
        if (meets(function) && !seen.contains(function.answers[i])) {
          seen.add(function.answers[i]);
        }
      }
      if (seen.size() > most) {
        most = seen.size();
        best = i * 1000 + most;
      }
    }
    return best;
  }

  private void compare(int most) {
    makeAll(most);
    for (int p = 1; p <= most; p++) {
      List<Made> functions = functions(p);
      List<Made> meeting = new ArrayList<>();
      for (Made term : terms.get(p)) {
        if (meets(term)) {
          meeting.add(term);
        }
      }
      String what = ask + " p " + p + ": ";
      House h = new House();
      House.due(ask, h.ask(ask), points.length);
      if (functions.size() > 120) {
        House.due(what + "find", h.x.find(p), -3);
        House.due(what + "count", h.x.count(p), -3);
        House.due(what + "ith", h.x.ith(p, 0), -3);
        House.due(what + "different", h.x.different(p), -3);
        House.due(what + "question", h.x.question(p), -3);
        continue;
      }
      House.due(what + "count", h.x.count(p), meeting.size());
      int different = 0;
      for (Made function : functions) {
        different += meets(function) ? 1 : 0;
      }
      House.due(what + "different", h.x.different(p), different);
      House.due(what + "question", h.x.question(p), question(functions));
      compareFirst(h, what, p);
      for (int k = 0; k < 9 && !meeting.isEmpty(); k++) {
        int i = k < 3 ? Math.min(k, meeting.size() - 1) : k > 5 ? Math.max(0, meeting.size() - 9 + k) : meeting.size() * (k - 2) / 4 % meeting.size();
        House.due(what + "ith " + i, h.x.ith(p, i), meeting.get(i).text.length());
        House.due(what + "ith " + i, h.term(), meeting.get(i).text);
      }
      House.due(what + "behind the last", h.x.ith(p, meeting.size()), -1);
      compareCheaper(what, p, functions);
    }
    for (int p = 1; p <= 4; p++) {
      compareMend(p);
    }
  }

  private void compareFirst(House h, String what, int p) {
    for (int q = 1; q <= p; q++) {
      for (Made term : terms.get(q)) {
        if (meets(term)) {
          House.due(what + "find", h.x.find(p), q);
          House.due(what + "find", h.term(), term.text);
          for (int i = 0; i < points.length; i += 1 + points.length / 20) {
            House.due(what + "answer " + i, h.x.answer(i), term.answers[i]);
          }
          return;
        }
      }
    }
    House.due(what + "find", h.x.find(p), 0);
  }

  private long seed = 5;

  private int next(int below) {
    seed = seed * 6364136223846793005L + 1442695040888963407L;
    return (int) ((seed >>> 33) % below);
  }

  /** A told term of a kind, of all acts and values. */
  private String told(char kind, int depth) {
    List<String> leaves = new ArrayList<>();
    for (int k = 0; k < kinds.length(); k++) {
      if (kinds.charAt(k) == kind) {
        leaves.add("abc".substring(k, k + 1));
      }
    }
    if (depth == 0 || next(4) == 0) {
      int which = next(leaves.size() + 1);
      return which < leaves.size() ? leaves.get(which) : kind == 'n' ? "" + next(16) : next(2) == 0 ? "true" : "false";
    }
    String[] acts = kind == 'n' ? new String[] {"add", "sub", "div", "if"} : new String[] {"less", "not", "both", "any"};
    String name = acts[next(4)];
    StringBuilder text = new StringBuilder(name);
    for (int k = 0; k < act(name).length() - 1; k++) {
      text.append(k == 0 ? '(' : ',').append(told(act(name).charAt(k), depth - 1));
    }
    return text.append(')').toString();
  }

  /** The places of a text's terms, each before its operands: where each one begins and ends, and its kind. */
  private static int places(String text, int from, char kind, List<int[]> found) {
    int at = from;
    while (at < text.length() && "(),".indexOf(text.charAt(at)) < 0) {
      at++;
    }
    int[] place = {from, at, kind};
    found.add(place);
    if (at < text.length() && text.charAt(at) == '(') {
      String act = act(text.substring(from, at));
      for (int k = 0; k < act.length() - 1; k++) {
        at = places(text, at + 1, act.charAt(k), found);
      }
      at++;
      place[1] = at;
    }
    return at;
  }

  private boolean meets(String text) {
    for (int[] row : rows) {
      if (Terms.answer(text, row) != row[kinds.length()]) {
        return false;
      }
    }
    return true;
  }

  /** The least price of what is put in, then the place, then ORDER. */
  private void compareMend(int p) {
    House h = new House();
    h.ask(ask);
    if (functions(p).size() > 120) {
      House.due(ask + " mend " + p, h.mend(told(last, 1), p), -3);
      return;
    }
    for (int i = 0; i < 6 && h.x.left() > 110; i++) {
      String text = told(last, 3);
      String what = ask + " mend " + p + " of " + text;
      int answer = h.mend(text, p);
      if (meets(text)) {
        House.due(what, answer, 0);
        continue;
      }
      String best = null;
      int place = -1;
      int price = 100;
      List<int[]> found = new ArrayList<>();
      places(text, 0, last, found);
      for (int q = 1; q <= p && best == null; q++) {
        for (int k = 0; k < found.size() && best == null; k++) {
          for (Made put : terms.get(q)) {
            String made = text.substring(0, found.get(k)[0]) + put.text + text.substring(found.get(k)[1]);
            if (put.kind == found.get(k)[2] && meets(made)) {
              best = made;
              place = k;
              price = q;
              break;
            }
          }
        }
      }
      House.due(what, answer, price);
      if (best != null) {
        House.due(what + ", its place", h.x.mended(), place);
        String told = h.term();
        House.due(what + ", its text", told, best);
      }
    }
  }

  private void compareCheaper(String what, int p, List<Made> functions) {
    House h = new House();
    h.ask(ask);
    List<Made> now = terms.get(p);
    for (int i = 0; i < now.size() && h.x.left() > 100; i += 1 + now.size() / 7) {
      Made cheap = first(functions, now.get(i));
      House.due(what + "cheaper " + now.get(i).text, h.cheaper(now.get(i).text) > 0 ? 1 : 0, 1);
      House.due(what + "cheaper " + now.get(i).text, h.term(), cheap.text);
    }
  }
}
