import java.util.ArrayList;
import java.util.Arrays;
import java.util.HashSet;
import java.util.LinkedHashMap;
import java.util.List;
import java.util.Map;
import java.util.Set;
import java.util.regex.Matcher;
import java.util.regex.Pattern;

/** The document told a second time, with the Java library and without a thought of cost, for OracleTest. */
final class Model {
  record AWay(int number, int kind, int figure, int weight) {
    int cost() {
      return new int[] {0, 8, 5, figure, 12, 4, 12 + figure, 2 * figure + 1}[kind];
    }
  }

  record Kid(int way, int slips, int first) {}

  record State(List<AWay> ways, List<Kid> kids, Map<String, Integer> sayings) {
    State copied() {
      return new State(new ArrayList<>(ways), new ArrayList<>(kids), new LinkedHashMap<>(sayings));
    }
  }

  record Sum(int a, int b) {}

  static final class Row {
    final int sort;
    final long[] cells;

    Row(int sort, int n) {
      this.sort = sort;
      cells = new long[n];
    }

    void put(int i, int v) {
      cells[i] = sort == 0 ? (byte) v : sort == 1 ? (short) v : v;
    }
  }

  /** A refusal, thrown from wherever it is found. */
  static final class Refused extends RuntimeException {
    final int answer;

    Refused(int answer) {
      this.answer = answer;
    }
  }

  private static final Pattern CLASS =
      Pattern.compile("(y\\d\\d([1-9]\\d?|0);|k\\d([1-9]\\d?|0);|t\\d\\d\\d?;)+");

  State now = new State(new ArrayList<>(), new ArrayList<>(), new LinkedHashMap<>());
  State image;
  final Object[] shelves = new Object[8];
  private final boolean[] stuckAt = new boolean[4];
  private int z;

  private static void need(boolean so, int refusal) {
    if (!so) {
      throw new Refused(refusal);
    }
  }

  // ---- working

  private static int[] digits(int n) {
    return new int[] {n % 10, n / 10 % 10, n / 100 % 10, n / 1000 % 10};
  }

  private static boolean sum(int a, int b) {
    return 0 <= b && b <= a && a <= 9999;
  }

  private int borrow(int[] up, int[] low, int c, int between) {
    int from = c + 1;
    while (from < 4 && up[from] == 0) {
      from++;
    }
    if (from == 4) {
      return 0;
    }
    up[from]--;
    if (between >= 0) {
      Arrays.fill(up, c + 1, from, between);
    }
    return 10 + up[c] - low[c];
  }

  private int stuckDigit(int kind, int figure, int[] up, int[] low, int c) {
    switch (kind) {
      case 0: return borrow(up, low, c, 9);
      case 1: return low[c] - up[c];
      case 2: return 0;
      case 3: return up[c] + 10 - low[c];
      case 4: return borrow(up, low, c, -1);
      case 5: return stuckDigit(up[c] == 0 ? 1 : 0, figure, up, low, c);
      case 6:
        if (c < 3 && up[c + 1] > 0) {
          return stuckDigit(4, figure, up, low, c);
        }
        return figure % 4 == 3 ? low[c] : stuckDigit(new int[] {2, 1, 3}[figure % 4], figure, up, low, c);
      default: return stuckDigit(c == 3 ? 2 : 3, figure, up, low, c);
    }
  }

  int answer(AWay w, int a, int b) {
    int[] up = digits(a);
    int[] low = digits(b);
    String written = "";
    for (int c = 0; c < 4; c++) {
      stuckAt[c] = low[c] > up[c];
      written = (stuckAt[c] ? stuckDigit(w.kind, w.figure, up, low, c) : up[c] - low[c]) + written;
    }
    return Integer.parseInt(written);
  }

  private boolean stuck() {
    return stuckAt[0] || stuckAt[1] || stuckAt[2] || stuckAt[3];
  }

  private int own(int w, Sum s) {
    return answer(now.ways.get(w), s.a, s.b);
  }

  private void needWay(int w) {
    need(0 <= w && w < now.ways.size(), -1);
  }

  private void needKid(int c) {
    need(0 <= c && c < now.kids.size(), -1);
  }

  private void needWays(int bits) {
    need(0 <= bits && bits < 1 << now.ways.size(), -1);
  }

  private void needTwo(int what) {
    need(what == 0 || what == 1, -1);
  }

  private Object shelf(int d) {
    need(0 <= d && d < 8, -1);
    return shelves[d];
  }

  private Row rowOf(int d) {
    Object held = shelf(d);
    need(held != null, -11);
    need(held instanceof Row, -12);
    return (Row) held;
  }

  private Row rowOf(int d, int sort) {
    Row row = rowOf(d);
    need(row.sort == sort, -12);
    return row;
  }

  private AWay wayOn(int d) {
    Object held = shelf(d);
    need(held != null, -11);
    need(held instanceof AWay, -12);
    return (AWay) held;
  }

  private List<Sum> sheet(int d) {
    Row row = rowOf(d, 2);
    need(row.cells.length % 2 == 0 && row.cells.length <= 24, -13);
    List<Sum> sums = new ArrayList<>();
    for (int i = 0; i < row.cells.length; i += 2) {
      need(sum((int) row.cells[i], (int) row.cells[i + 1]), -13);
      sums.add(new Sum((int) row.cells[i], (int) row.cells[i + 1]));
    }
    return sums;
  }

  private long[] answers(int e, List<Sum> sums) {
    Row row = rowOf(e, 2);
    need(row.cells.length == sums.size(), -13);
    return row.cells;
  }

  // ---- classes

  int group(int d) {
    Row row = rowOf(d, 0);
    StringBuilder text = new StringBuilder();
    for (long cell : row.cells) {
      text.append((char) (cell & 255));
    }
    for (int end = 0; end <= text.length(); end++) {
      Matcher m = CLASS.matcher(text.substring(0, end));
      if (!m.matches() && !m.hitEnd()) {
        return -1000 - (end - 1);
      }
    }
    if (!CLASS.matcher(text).matches()) {
      return -1000 - text.length();
    }
    State then = now.copied();
    int place = 0;
    int many = 0;
    for (String statement : text.toString().split(";")) {
      if (!take(then, statement)) {
        return -2000 - place;
      }
      place += statement.length() + 1;
      many++;
    }
    now = then;
    return many;
  }

  private static boolean take(State s, String t) {
    int first = t.charAt(1) - '0';
    if (t.charAt(0) == 'y') {
      int weight = Integer.parseInt(t.substring(3));
      return first < 8 && weight > 0 && s.ways.size() < 10
          && s.ways.add(new AWay(s.ways.size(), first, t.charAt(2) - '0', weight));
    }
    if (first >= s.ways.size()) {
      return false;
    }
    if (t.charAt(0) == 'k') {
      int slips = Integer.parseInt(t.substring(2));
      return slips <= 50 && s.kids.size() < 8 && s.kids.add(new Kid(first, slips, first));
    }
    if (t.charAt(2) - '0' >= s.ways.size()) {
      return false;
    }
    s.sayings.put((t.length() == 4 ? t.charAt(3) - '0' : 0) + ":" + first, t.charAt(2) - '0');
    return true;
  }

  int way(int way, int what) {
    needWay(way);
    need(0 <= what && what <= 3, -1);
    AWay w = now.ways.get(way);
    return new int[] {w.kind, w.figure, w.weight, w.cost()}[what];
  }

  int child(int child, int what) {
    needKid(child);
    need(0 <= what && what <= 2, -1);
    Kid k = now.kids.get(child);
    return new int[] {k.way, k.slips, k.first}[what];
  }

  int told(int saying, int way) {
    needWay(way);
    need(0 <= saying && saying <= 9, -1);
    return now.sayings.getOrDefault(saying + ":" + way, way);
  }

  int slips(int child, int n) {
    needKid(child);
    need(0 <= n && n <= 50, -1);
    Kid k = now.kids.get(child);
    now.kids.set(child, new Kid(k.way, n, k.first));
    return k.slips;
  }

  // ---- sums

  int work(int way, int a, int b) {
    needWay(way);
    need(sum(a, b), -1);
    return own(way, new Sum(a, b));
  }

  int column(int way, int a, int b, int column, int what) {
    int answer = work(way, a, b);
    need(0 <= column && column <= 3, -1);
    needTwo(what);
    return what == 0 ? digits(answer)[column] : stuckAt[column] ? 1 : 0;
  }

  int right(int a, int b) {
    need(sum(a, b), -1);
    return whoseOf(new Sum(a, b), a - b);
  }

  private int whoseOf(Sum s, long answer) {
    int bits = 0;
    for (AWay w : now.ways) {
      bits |= answer(w, s.a, s.b) == answer ? 1 << w.number : 0;
    }
    return bits;
  }

  private int partsOf(Sum s, int ways) {
    Set<Integer> answers = new HashSet<>();
    for (AWay w : now.ways) {
      if ((ways & 1 << w.number) != 0) {
        answers.add(answer(w, s.a, s.b));
      }
    }
    return answers.size();
  }

  int parts(int a, int b, int ways) {
    need(sum(a, b), -1);
    needWays(ways);
    return partsOf(new Sum(a, b), ways);
  }

  int whose(int a, int b, int answer) {
    need(sum(a, b), -1);
    need(0 <= answer && answer <= 9999, -1);
    return whoseOf(new Sum(a, b), answer);
  }

  // ---- sheets, answers

  private int slipsOf(int way, List<Sum> sums, long[] answers) {
    int n = 0;
    for (int s = 0; s < answers.length; s++) {
      n += answers[s] != -1 && answers[s] != own(way, sums.get(s)) ? 1 : 0;
    }
    return n;
  }

  int slip(int way, int d, int e) {
    needWay(way);
    List<Sum> sums = sheet(d);
    return slipsOf(way, sums, answers(e, sums));
  }

  int fits(int d, int e, int n) {
    need(0 <= n && n <= 12, -1);
    List<Sum> sums = sheet(d);
    long[] answers = answers(e, sums);
    int bits = 0;
    for (int w = 0; w < now.ways.size(); w++) {
      bits |= slipsOf(w, sums, answers) <= n ? 1 << w : 0;
    }
    return bits;
  }

  int likely(int d, int e) {
    List<Sum> sums = sheet(d);
    long[] answers = answers(e, sums);
    AWay best = null;
    for (AWay w : now.ways) {
      int less = best == null ? -1 : slipsOf(w.number, sums, answers) - slipsOf(best.number, sums, answers);
      if (less < 0 || less == 0 && w.weight > best.weight) {
        best = w;
      }
    }
    return best == null ? -4 : best.number;
  }

  private static int lowest(long above, long below, int part) {
    for (long k = below; k > 1; k--) {
      if (above % k == 0 && below % k == 0) {
        return (int) ((part == 0 ? above : below) / k);
      }
    }
    return (int) (part == 0 ? above : below);
  }

  int odds(int way, int d, int e, int part) {
    needWay(way);
    needTwo(part);
    List<Sum> sums = sheet(d);
    long[] answers = answers(e, sums);
    long all = 0;
    for (AWay w : now.ways) {
      all += w.weight * (1L << 12 - slipsOf(w.number, sums, answers));
    }
    return lowest(now.ways.get(way).weight * (1L << 12 - slipsOf(way, sums, answers)), all, part);
  }

  int held(int d, int e, int ab, int answer, int part) {
    need(ab >= 0 && sum(ab / 10000, ab % 10000), -1);
    need(0 <= answer && answer <= 9999, -1);
    needTwo(part);
    int fitting = fits(d, e, 0);
    int above = 0;
    int below = 0;
    for (AWay w : now.ways) {
      if ((fitting & 1 << w.number) != 0) {
        below += w.weight;
        above += answer(w, ab / 10000, ab % 10000) == answer ? w.weight : 0;
      }
    }
    return below == 0 ? -4 : lowest(above, below, part);
  }

  int most(int d, int ways) {
    needWays(ways);
    List<Sum> sums = sheet(d);
    int best = -4;
    for (int s = sums.size() - 1; s >= 0; s--) {
      if (best < 0 || partsOf(sums.get(s), ways) >= partsOf(sums.get(best), ways)) {
        best = s;
      }
    }
    return best;
  }

  private Set<String> pairs(List<Sum> sums, int ways, int chosen) {
    Set<String> pairs = new HashSet<>();
    for (int s = 0; s < sums.size(); s++) {
      for (int v = 0; v < now.ways.size(); v++) {
        for (int w = 0; w < v; w++) {
          boolean told = (ways >> v & 1) == 1 && (ways >> w & 1) == 1 && (chosen >> s & 1) == 1;
          if (told && own(v, sums.get(s)) != own(w, sums.get(s))) {
            pairs.add(v + "," + w);
          }
        }
      }
    }
    return pairs;
  }

  int apart(int d, int ways, int what) {
    needWays(ways);
    needTwo(what);
    List<Sum> sums = sheet(d);
    need(sums.size() <= 10, -13);
    Set<String> all = pairs(sums, ways, -1);
    List<Set<String>> one = new ArrayList<>();
    for (int s = 0; s < sums.size(); s++) {
      one.add(pairs(sums, ways, 1 << s));
    }
    for (int many = 0; many <= 10; many++) {
      for (int bits = 0; bits < 1 << sums.size(); bits++) {
        if (Integer.bitCount(bits) == many) {
          Set<String> parted = new HashSet<>();
          for (int s = 0; s < sums.size(); s++) {
            if ((bits >> s & 1) == 1) {
              parted.addAll(one.get(s));
            }
          }
          if (parted.equals(all)) {
            return what == 0 ? many : bits;
          }
        }
      }
    }
    throw new AssertionError();
  }

  int never(int d, int ways) {
    needWays(ways);
    List<Sum> sums = sheet(d);
    int n = Integer.bitCount(ways);
    return n * (n - 1) / 2 - pairs(sums, ways, -1).size();
  }

  private int marks(int way, List<Sum> sums, boolean lucky) {
    int n = 0;
    for (Sum s : sums) {
      n += own(way, s) == s.a - s.b && (!lucky || stuck()) ? 1 : 0;
    }
    return n;
  }

  int luck(int way, int d, int what) {
    needWay(way);
    needTwo(what);
    return marks(way, sheet(d), what == 0);
  }

  int clash(int way) {
    needWay(way);
    for (int ab = 0; ab < 10000; ab++) {
      if (ab % 100 <= ab / 100 && own(way, new Sum(ab / 100, ab % 100)) > ab / 100) {
        return ab;
      }
    }
    return -4;
  }

  int comes(int way, int n) {
    needWay(way);
    need(1 <= n && n <= 40, -1);
    int wrong = 0;
    for (int b = 0; b < n; b++) {
      for (int a = b; a < n; a++) {
        wrong += own(way, new Sum(a, b)) != a - b ? 1 : 0;
      }
    }
    return wrong;
  }

  // ---- children

  private int draw(int n) {
    z = (int) ((z & 0xffffffffL) * 1103515245L + 12345L);
    return (z & Integer.MAX_VALUE) / 65536 % n;
  }

  int day(int child, int d, int e, int seed) {
    needKid(child);
    shelf(e);
    List<Sum> sums = sheet(d);
    z = seed;
    Row row = new Row(2, sums.size());
    int slipped = 0;
    for (int s = 0; s < sums.size(); s++) {
      int answer = own(now.kids.get(child).way, sums.get(s));
      if (draw(100) < now.kids.get(child).slips) {
        slipped++;
        int[] written = digits(answer);
        int c = draw(4);
        written[c] = (written[c] + (draw(2) == 0 ? 1 : -1) + 10) % 10;
        answer = written[0] + 10 * written[1] + 100 * written[2] + 1000 * written[3];
      }
      row.put(s, answer);
    }
    shelves[e] = row;
    return slipped;
  }

  int say(int child, int saying) {
    needKid(child);
    Kid k = now.kids.get(child);
    int way = told(saying, k.way);
    now.kids.set(child, new Kid(way, k.slips, k.first));
    return way;
  }

  int bestSaying(int d) {
    List<Sum> sums = sheet(d);
    int best = -4;
    int most = 0;
    for (Kid k : now.kids) {
      most += marks(k.way, sums, false);
    }
    for (int saying = 0; saying < 10; saying++) {
      int total = 0;
      for (Kid k : now.kids) {
        total += marks(told(saying, k.way), sums, false);
      }
      if (total > most) {
        most = total;
        best = saying;
      }
    }
    return best;
  }

  int weeks(int n, int p, int q, int seed) {
    need(1 <= n && n <= 20 && 0 <= p && p <= 100 && 0 <= q && q <= 100, -1);
    need(!now.kids.isEmpty(), -3);
    z = seed;
    List<Integer> hold = new ArrayList<>();
    for (Kid k : now.kids) {
      hold.add(k.way);
    }
    for (int i = 0; i < n * hold.size(); i++) {
      int c = i % hold.size();
      int drawn = draw(100);
      hold.set(c, drawn < p ? told(0, hold.get(c)) : drawn - p < q ? now.kids.get(c).first : hold.get(c));
    }
    return (int) hold.stream().filter(w -> now.ways.get(w).kind == 0).count();
  }

  private int ofKind(int kind) {
    return (int) now.kids.stream().filter(k -> now.ways.get(k.way).kind == kind).count();
  }

  int groups(int kind) {
    need(0 <= kind && kind <= 7, -1);
    return ofKind(kind);
  }

  int greatest() {
    int best = 7;
    for (int kind = 6; kind > 0; kind--) {
      best = ofKind(kind) >= ofKind(best) ? kind : best;
    }
    return ofKind(best) == 0 ? -4 : best;
  }

  int lesson(int m) {
    need(1 <= m && m <= 3, -1);
    int[] many = new int[7];
    for (int kind = 1; kind < 8; kind++) {
      many[kind - 1] = ofKind(kind);
    }
    Arrays.sort(many);
    return Arrays.stream(many, 7 - m, 7).sum();
  }

  int lacks(int d, int e) {
    int way = likely(d, e);
    return way < 0 ? way : now.ways.get(way).kind;
  }

  int copied(int d, int e, int f, int what) {
    needTwo(what);
    List<Sum> sums = sheet(d);
    long[] one = answers(e, sums);
    long[] other = answers(f, sums);
    int n = 0;
    for (int s = 0; s < one.length; s++) {
      boolean alike = one[s] == other[s] && one[s] != -1 && one[s] != sums.get(s).a - sums.get(s).b;
      n += alike && (what == 0 || whoseOf(sums.get(s), one[s]) == 0) ? 1 : 0;
    }
    return n;
  }

  int judge(int way, int d) {
    needWay(way);
    Row row = rowOf(d);
    need(row.cells.length >= 2 && sum((int) row.cells[0], (int) row.cells[1]), -13);
    int[] written = digits(own(way, new Sum((int) row.cells[0], (int) row.cells[1])));
    long least = new long[] {Byte.MIN_VALUE, Short.MIN_VALUE, Integer.MIN_VALUE}[row.sort];
    for (int i = 2; i < row.cells.length; i++) {
      if (row.cells[i] != least && (i > 5 || row.cells[i] != written[i - 2])) {
        return i;
      }
    }
    return -4;
  }

  /** Whether the document can be read in two ways where this call comes to: the answer told here is but one of them. */
  boolean leavesOpen(String name, int[] a, long told) {
    switch (name) {
      case "judge":
        // Is the least number of the SORT skipped in a place beyond the 4 digits, too?
        return told > 6 || told == -4 && rowOf(a[1]).cells.length > 6;
      case "copy":
        // Is there a place to copy nothing from, or to, behind the last element?
        return a[4] == 0 && (told == 0 || told == -13) && !(isPlace(a[0], a[1]) && isPlace(a[2], a[3]));
      default:
        return false;
    }
  }

  private boolean isPlace(int d, int i) {
    return shelves[d] instanceof Row row && i >= 0 && i < row.cells.length;
  }

  // ---- the image, what is told

  int image() {
    image = now.copied();
    return now.kids.size();
  }

  int restore() {
    need(image != null, -3);
    now = image.copied();
    return now.kids.size();
  }

  int count(int what) {
    need(0 <= what && what <= 5, -1);
    long[] counts = {now.ways.size(), now.kids.size(), now.ways.stream().filter(w -> w.kind == 0).count(),
      now.ways.stream().mapToInt(AWay::weight).sum(), now.kids.stream().filter(k -> k.way != k.first).count(),
      now.sayings.size()};
    return (int) counts[what];
  }

  // ---- shelves

  int keep(int d, int what, int k) {
    shelf(d);
    needTwo(what);
    if (what == 1) {
      needWay(k);
    }
    shelves[d] = what == 0 ? null : now.ways.get(k);
    return 0;
  }

  int row(int d, int sort, int n) {
    shelf(d);
    need(0 <= sort && sort <= 2 && n <= 100, -1);
    need(n >= 0, -14);
    shelves[d] = new Row(sort, n);
    return 0;
  }

  int put(int d, int i, int v) {
    Row row = rowOf(d);
    need(0 <= i && i < row.cells.length, -13);
    row.put(i, v);
    return 0;
  }

  long element(int d, int i) {
    if (d < 0 || d > 7) {
      throw new IllegalArgumentException();
    }
    if (!(shelves[d] instanceof Row row) || i < 0 || i >= row.cells.length) {
      throw new IllegalStateException();
    }
    return row.cells[i];
  }

  int copy(int d, int i, int e, int j, int n) {
    shelf(d);
    shelf(e);
    need(shelves[d] != null && shelves[e] != null, -11);
    Row from = rowOf(d);
    Row to = rowOf(e);
    need(from.sort == to.sort, -12);
    need(n >= 0 && i >= 0 && j >= 0, -13);
    need((long) i + n <= from.cells.length && (long) j + n <= to.cells.length, -13);
    long[] taken = Arrays.copyOfRange(from.cells, i, i + n);
    for (int k = 0; k < n; k++) {
      to.cells[j + k] = taken[k];
    }
    return n;
  }

  int cost(int d) {
    return wayOn(d).cost();
  }

  int toss(int d) {
    AWay w = wayOn(d);
    need(w.kind != 5 && w.figure != 0, -15);
    return w.kind == 7 ? 200 + w.cost() : w.kind == 6 ? 100 + w.number : w.number;
  }
}
