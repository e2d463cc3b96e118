import java.util.ArrayList;
import java.util.HashMap;
import java.util.List;
import java.util.Map;

/** Kept terms and THE BEST PATTERN as the document tells them, by trees and texts. */
final class Patterns {
  private static final class Tree {
    final String head;
    final List<Tree> under = new ArrayList<>();

    Tree(String head) {
      this.head = head;
    }

    boolean isAct() {
      return !under.isEmpty();
    }

    boolean isParameter() {
      return !isAct() && head.length() == 1 && head.charAt(0) >= 'a' && head.charAt(0) <= 'c';
    }

    int size() {
      int sum = 1;
      for (Tree each : under) {
        sum += each.size();
      }
      return sum;
    }

    String text() {
      if (!isAct()) {
        return head;
      }
      List<String> texts = new ArrayList<>();
      for (Tree each : under) {
        texts.add(each.text());
      }
      return head + "(" + String.join(",", texts) + ")";
    }

    void gather(List<Tree> acts) {
      if (isAct()) {
        acts.add(this);
      }
      for (Tree each : under) {
        each.gather(acts);
      }
    }
  }

  private List<Tree> kept = new ArrayList<>();
  private final Map<String, Integer> weights = new HashMap<>();
  String best;
  private Tree bestTree;

  void tellWeight(String own, int weight) {
    weights.put(own, weight);
  }

  void keep(String text) {
    kept.add(parse(text, new int[1]));
  }

  String kept(int k) {
    return kept.get(k).text();
  }

  int size() {
    return kept.size();
  }

  private static Tree parse(String text, int[] at) {
    int from = at[0];
    while (at[0] < text.length() && "(),".indexOf(text.charAt(at[0])) < 0) {
      at[0]++;
    }
    Tree tree = new Tree(text.substring(from, at[0]));
    if (at[0] < text.length() && text.charAt(at[0]) == '(') {
      do {
        at[0]++;
        tree.under.add(parse(text, at));
      } while (text.charAt(at[0]) == ',');
      at[0]++;
    }
    return tree;
  }

  private int weight(Tree tree) {
    int sum = tree.isAct() ? weights.getOrDefault(tree.head, 1) : 0;
    for (Tree each : tree.under) {
      sum += weight(each);
    }
    return sum;
  }

  private static Tree pattern(Tree x, Tree y, List<String> parameters) {
    Tree made = new Tree(x.head);
    for (int k = 0; k < x.under.size(); k++) {
      Tree p = x.under.get(k);
      Tree q = y.under.get(k);
      boolean same = p.head.equals(q.head);
      if (p.isAct() && q.isAct() && same) {
        made.under.add(pattern(p, q, parameters));
      } else if (!p.isAct() && !q.isAct() && same && !p.isParameter()) {
        made.under.add(new Tree(p.head));
      } else {
        String two = p.text() + " " + q.text();
        if (!parameters.contains(two)) {
          parameters.add(two);
        }
        made.under.add(new Tree("#" + parameters.indexOf(two)));
      }
    }
    return made;
  }

  private static boolean matches(Tree pattern, Tree term, Map<String, Tree> bound) {
    if (pattern.head.startsWith("#")) {
      Tree before = bound.putIfAbsent(pattern.head, term);
      return before == null || before.text().equals(term.text());
    }
    if (!pattern.head.equals(term.head) || pattern.under.size() != term.under.size()) {
      return false;
    }
    for (int k = 0; k < pattern.under.size(); k++) {
      if (!matches(pattern.under.get(k), term.under.get(k), bound)) {
        return false;
      }
    }
    return true;
  }

  private static Tree rewrite(Tree term, Tree pattern, int parameters, String name) {
    Map<String, Tree> bound = new HashMap<>();
    boolean there = matches(pattern, term, bound);
    Tree made = new Tree(there ? name : term.head);
    for (int k = 0; there && k < parameters; k++) {
      made.under.add(rewrite(bound.get("#" + k), pattern, parameters, name));
    }
    for (int k = 0; !there && k < term.under.size(); k++) {
      made.under.add(rewrite(term.under.get(k), pattern, parameters, name));
    }
    return made;
  }

  private static String named(Tree pattern) {
    return pattern.text().replace("#0", "a").replace("#1", "b");
  }

  /** What THE BEST saves; it becomes an own act of this name, in its place. -2 if there is none. */
  int learn(String name) {
    List<Tree> places = new ArrayList<>();
    for (Tree each : kept) {
      each.gather(places);
    }
    int most = 0;
    int bestParameters = 0;
    for (int i = 0; i < places.size(); i++) {
      for (int j = i + 1; j < places.size(); j++) {
        if (!places.get(i).head.equals(places.get(j).head)) {
          continue;
        }
        List<String> parameters = new ArrayList<>();
        Tree pattern = pattern(places.get(i), places.get(j), parameters);
        int many = parameters.size();
        boolean alone = pattern.size() == many + 1 && pattern.under.size() == many;
        if (many < 1 || many > 2 || alone || weight(pattern) > 40) {
          continue;
        }
        int saving = -pattern.size();
        for (Tree each : kept) {
          saving += each.size() - rewrite(each, pattern, many, name).size();
        }
        if (saving >= 1 && (saving > most || saving == most && named(pattern).compareTo(best) < 0)) {
          most = saving;
          best = named(pattern);
          bestTree = pattern;
          bestParameters = many;
        }
      }
    }
    if (most == 0) {
      return -2;
    }
    List<Tree> now = new ArrayList<>();
    for (Tree each : kept) {
      now.add(rewrite(each, bestTree, bestParameters, name));
    }
    kept = now;
    weights.put(name, 1 + weight(bestTree));
    return most;
  }
}
