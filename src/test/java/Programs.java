import java.util.ArrayList;
import java.util.HashMap;
import java.util.HashSet;
import java.util.List;
import java.util.Map;
import java.util.Set;

/** PROGRAMS for word rows as the document tells them, looked at place by place. */
final class Programs {
  /** A part: a word (its letters), or a cut (its spots). */
  static final class Part {
    final String word;
    final int first;
    final int second;

    Part(String word, int first, int second) {
      this.word = word;
      this.first = first;
      this.second = second;
    }

    int price() {
      return word != null ? 2 * word.length() : (first < 22 ? 1 : 2) + (second < 22 ? 1 : 2);
    }
  }

  static final class Best {
    final int price;
    final List<Part> parts;

    Best(int price, List<Part> parts) {
      this.price = price;
      this.parts = parts;
    }
  }

  private final List<String> ins = new ArrayList<>();
  private final List<String> outs = new ArrayList<>();
  private final Map<String, Best> bests = new HashMap<>();
  private final Map<String, Long> counts = new HashMap<>();

  void add(String in, String out) {
    ins.add(in);
    outs.add(out);
  }

  /** Where a spot is in a word, -1 for nowhere. */
  static int place(int spot, String in) {
    if (spot <= 10) {
      return spot <= in.length() ? spot : -1;
    }
    if (spot <= 21) {
      return spot - 11 <= in.length() ? in.length() - (spot - 11) : -1;
    }
    boolean behind = spot >= 100;
    int which = spot - (behind ? 100 : 22);
    int at = -1;
    for (int j = 0; j <= which % 3; j++) {
      at = in.indexOf('a' + which / 3, at + 1);
      if (at < 0) {
        return -1;
      }
    }
    return behind ? at + 1 : at;
  }

  private static String given(Part part, String in) {
    if (part.word != null) {
      return part.word;
    }
    int from = place(part.first, in);
    int to = place(part.second, in);
    return from < 0 || to < 0 || to <= from ? null : in.substring(from, to);
  }

  /** What a program gives for a word, or null. */
  static String give(List<Part> parts, String in) {
    StringBuilder all = new StringBuilder();
    for (Part part : parts) {
      String each = given(part, in);
      if (each == null) {
        return null;
      }
      all.append(each);
    }
    return all.toString();
  }

  /** The parts that can stand at these places in the OUTs, in their order, and where they lead. */
  private List<Part> parts(int[] places, List<int[]> next) {
    List<Part> found = new ArrayList<>();
    for (int size = 1; size <= 3 && places[0] + size <= outs.get(0).length(); size++) {
      try1(new Part(outs.get(0).substring(places[0], places[0] + size), 0, 0), places, found, next);
    }
    for (int first = 0; first < 178; first++) {
      if (place(first, ins.get(0)) < 0) {
        continue;
      }
      for (int second = 0; second < 178; second++) {
        try1(new Part(null, first, second), places, found, next);
      }
    }
    return found;
  }

  private void try1(Part part, int[] places, List<Part> found, List<int[]> next) {
    int[] then = new int[places.length];
    for (int r = 0; r < places.length; r++) {
      String each = given(part, ins.get(r));
      if (each == null || !outs.get(r).startsWith(each, places[r])) {
        return;
      }
      then[r] = places[r] + each.length();
    }
    found.add(part);
    next.add(then);
  }

  private boolean isEnd(int[] places) {
    for (int r = 0; r < places.length; r++) {
      if (places[r] != outs.get(r).length()) {
        return false;
      }
    }
    return true;
  }

  private static String key(int[] places, int m) {
    StringBuilder key = new StringBuilder();
    for (int p : places) {
      key.append(p).append(' ');
    }
    return key.append(m).toString();
  }

  long count(int m) {
    return count(new int[ins.size()], m);
  }

  private long count(int[] places, int m) {
    if (m == 0) {
      return isEnd(places) ? 1 : 0;
    }
    Long known = counts.get(key(places, m));
    if (known != null) {
      return known;
    }
    long sum = 0;
    List<int[]> next = new ArrayList<>();
    for (int i = 0, many = parts(places, next).size(); i < many; i++) {
      sum += count(next.get(i), m - 1);
    }
    counts.put(key(places, m), sum);
    return sum;
  }

  /** THE FIRST, or null. */
  Best first() {
    Best best = null;
    for (int m = 1; m <= 4; m++) {
      Best each = first(new int[ins.size()], m);
      if (each != null && (best == null || each.price < best.price)) {
        best = each;
      }
    }
    return best;
  }

  private Best first(int[] places, int m) {
    if (m == 0) {
      return isEnd(places) ? new Best(0, new ArrayList<>()) : null;
    }
    String key = key(places, m);
    if (bests.containsKey(key)) {
      return bests.get(key);
    }
    Best best = null;
    List<int[]> next = new ArrayList<>();
    List<Part> parts = parts(places, next);
    for (int i = 0; i < parts.size(); i++) {
      Best rest = first(next.get(i), m - 1);
      if (rest != null && (best == null || rest.price + parts.get(i).price() < best.price)) {
        List<Part> all = new ArrayList<>();
        all.add(parts.get(i));
        all.addAll(rest.parts);
        best = new Best(rest.price + parts.get(i).price(), all);
      }
    }
    bests.put(key, best);
    return best;
  }

  /** How many rows of places four parts lead to. */
  int places() {
    Set<String> met = new HashSet<>();
    List<int[]> now = new ArrayList<>();
    now.add(new int[ins.size()]);
    met.add(key(now.get(0), 0));
    for (int m = 0; m < 4; m++) {
      List<int[]> then = new ArrayList<>();
      for (int[] places : now) {
        List<int[]> next = new ArrayList<>();
        parts(places, next);
        for (int[] each : next) {
          if (met.add(key(each, 0))) {
            then.add(each);
          }
        }
      }
      now = then;
    }
    return met.size();
  }
}
