import java.util.ArrayList;
import java.util.List;
import java.util.TreeMap;

/**
 * The document once more, told as plainly and as slowly as can be and sharing nothing with the program:
 * states are copied whole, FEWEST tries every row of copies, a FAULT is found by an automaton with a stack
 * of what is open, and an E is worked out from its tokens anew each time.
 */
final class NaiveOldOne {
  static final int NONE = -1, BAD = -2, STATE = -3, FULL = -4;

  static final class Content {
    final int content, stamp;
    Content(int content, int stamp) { this.content = content; this.stamp = stamp; }
  }

  static final class Disk {
    int kind, number, since;
    final TreeMap<Integer, Content> files = new TreeMap<>();
    Disk twin() {
      Disk d = new Disk();
      d.kind = kind; d.number = number; d.since = since;
      d.files.putAll(files);
      return d;
    }
    boolean reads(int day) {
      int age = day - since;
      if (kind == 0) return !(age > 300);
      if (kind == 1) return age < 20 * number + 21;
      if (kind == 2 || kind == 5) return true;
      if (kind == 3) return age < 20 * number + 21 && (age & 1) == 0;
      return !(day - day / 7 * 7 == number);
    }
    int stamps(int day) {
      if (kind == 0 || kind == 2) return day;
      if (kind == 1) return day - number;
      if (kind == 3) { int s = day - number; return s < 0 ? -(-s >> 1) : s >> 1; }
      return kind == 4 ? day + 1 : 0;
    }
    int keeps(int c) {
      if (kind == 3 && c > 899) return 899;
      return kind == 5 ? c / 10 * 10 : c;
    }
    int room() {
      if (kind == 1 || kind == 3) return 1 + (number >> 1);
      return kind == 5 ? number : 8;
    }
  }

  static final class World {
    int day, rule;
    final List<Disk> disks = new ArrayList<>();
    World twin() {
      World w = new World();
      w.day = day; w.rule = rule;
      for (Disk d : disks) w.disks.add(d.twin());
      return w;
    }
  }

  World world = new World();
  World image = null;
  final List<List<String>> texts = new ArrayList<>();
  final List<Integer> tape = new ArrayList<>();
  final int[][] sheets = new int[4][];
  final int[] sorts = {-1, -1, -1, -1};

  NaiveOldOne() {
    for (char c : "takes here < there ; goes 5 ; worth 1 + file ;".toCharArray()) tape.add((int) c);
    text();
  }

  // ---- tokens and faults

  static boolean isSmall(int b) { return 'a' <= b && b <= 'z'; }
  static boolean isDigit(int b) { return '0' <= b && b <= '9'; }

  /** The tokens; where each begins goes into places. A thing that is no token comes as "?". */
  List<String> tokens(List<Integer> places) {
    List<String> all = new ArrayList<>();
    int i = 0;
    while (i < tape.size()) {
      int b = tape.get(i);
      if (b == 32 || b == 10) { i++; continue; }
      places.add(i);
      StringBuilder s = new StringBuilder();
      if (isSmall(b)) {
        while (i < tape.size() && isSmall(tape.get(i))) s.append((char) (int) tape.get(i++));
        boolean known = List.of("takes", "goes", "worth", "or", "and", "not").contains(s.toString()) || nameOf(s.toString()) >= 0;
        all.add(known ? s.toString() : "?");
      } else if (isDigit(b)) {
        while (i < tape.size() && isDigit(tape.get(i))) s.append((char) (int) tape.get(i++));
        all.add(s.length() > 4 ? "?" : s.toString());
      } else {
        i++;
        all.add("();+-*<=".indexOf(b) >= 0 ? String.valueOf((char) b) : "?");
      }
    }
    return all;
  }

  static int nameOf(String s) { return List.of("here", "there", "same", "number", "file", "day").indexOf(s); }
  static boolean isOperand(String s) { return nameOf(s) >= 0 || isDigit(s.charAt(0)); }

  /** How many tokens can stand there; all that there are only if the text is whole. */
  static int standing(List<String> tokens) {
    int part = 0;
    boolean key = true, operand = false, not = false, compared = false;
    List<Character> open = new ArrayList<>();
    List<Boolean> comparedOutside = new ArrayList<>();
    for (int i = 0; i < tokens.size(); i++) {
      String t = tokens.get(i);
      if (key) {
        if (part > 2 || !t.equals(List.of("takes", "goes", "worth").get(part))) return i;
        key = false; operand = true; not = true; compared = false;
      } else if (operand) {
        if (isOperand(t)) {
          operand = false;
          pop(open, '-');
        } else if (t.equals("(") && open.size() < 5) {
          open.add('('); comparedOutside.add(compared); not = true; compared = false;
          continue;
        } else if (t.equals("-") && open.size() < 5) {
          open.add('-'); not = false;
        } else if (t.equals("not") && not && open.size() < 5) {
          open.add('n');
        } else {
          return i;
        }
      } else if (t.equals("+") || t.equals("-") || t.equals("*")) {
        operand = true; not = false;
      } else if ((t.equals("<") || t.equals("=")) && !compared) {
        operand = true; not = false; compared = true;
      } else if (t.equals("and") || t.equals("or")) {
        pop(open, 'n');
        operand = true; not = true; compared = false;
      } else if (t.equals(")") && open.contains('(')) {
        pop(open, 'n');
        open.remove(open.size() - 1);
        compared = comparedOutside.remove(comparedOutside.size() - 1);
        pop(open, '-');
      } else if (t.equals(";") && !open.contains('(')) {
        open.clear();
        part++; key = true;
      } else {
        return i;
      }
    }
    return part == 3 && key ? tokens.size() : -1;
  }

  static void pop(List<Character> open, char c) {
    while (!open.isEmpty() && open.get(open.size() - 1) == c) open.remove(open.size() - 1);
  }

  // ---- working out an E

  private List<String> at;
  private int i;
  private int[] names;

  int answer(List<String> tokens, int part, int here, int there, int same, int number, int file, int day) {
    at = tokens; names = new int[] {here, there, same, number, file, day};
    i = tokens.indexOf(List.of("takes", "goes", "worth").get(part)) + 1;
    return either();
  }
  boolean eat(String s) { if (at.get(i).equals(s)) { i++; return true; } return false; }
  int either() {
    int v = both();
    while (eat("or")) { int w = both(); v = v != 0 || w != 0 ? 1 : 0; }
    return v;
  }
  int both() {
    int v = denied();
    while (eat("and")) { int w = denied(); v = v != 0 && w != 0 ? 1 : 0; }
    return v;
  }
  int denied() {
    if (eat("not")) return denied() == 0 ? 1 : 0;
    int v = sum();
    if (eat("<")) return v < sum() ? 1 : 0;
    if (eat("=")) return v == sum() ? 1 : 0;
    return v;
  }
  int sum() {
    int v = term();
    while (true) {
      if (eat("+")) v += term();
      else if (eat("-")) v -= term();
      else return v;
    }
  }
  int term() {
    int v = one();
    while (eat("*")) v *= one();
    return v;
  }
  int one() {
    if (eat("-")) return -one();
    if (eat("(")) { int v = either(); eat(")"); return v; }
    String t = at.get(i++);
    return nameOf(t) >= 0 ? names[nameOf(t)] : Integer.parseInt(t);
  }

  // ---- copies and what is asked of a state

  int copyIn(World w, int one, int other, List<String> rule) {
    int came = 0;
    Disk a = w.disks.get(one), b = w.disks.get(other);
    if (one == other || !a.reads(w.day) || !b.reads(w.day)) return STATE;
    for (int f = 0; f < 8; f++) {
      Content c = a.files.get(f), d = b.files.get(f);
      if (c == null) continue;
      if (d == null && b.files.size() >= b.room()) continue;
      int same = d != null && d.content == c.content ? 1 : 0;
      if (answer(rule, 0, d == null ? -100 : d.stamp, c.stamp, same, b.number, f, w.day) == 0) continue;
      b.files.put(f, new Content(b.keeps(c.content), c.stamp));
      came++;
    }
    return came;
  }
  List<String> rule() { return texts.get(world.rule); }
  int on(World w, int file) {
    int bits = 0;
    for (int d = 0; d < w.disks.size(); d++) if (w.disks.get(d).reads(w.day) && w.disks.get(d).files.containsKey(file)) bits += 1 << d;
    return bits;
  }
  int safe(World w, int k) {
    int bits = 0;
    for (int f = 0; f < 8; f++) if (Integer.bitCount(on(w, f)) >= k) bits += 1 << f;
    return bits;
  }
  int differ(World w) {
    int bits = 0;
    for (int f = 0; f < 8; f++) {
      TreeMap<Integer, Boolean> seen = new TreeMap<>();
      for (Disk d : w.disks) if (d.reads(w.day) && d.files.containsKey(f)) seen.put(d.files.get(f).content, true);
      if (seen.size() > 1) bits += 1 << f;
    }
    return bits;
  }
  /** FILES that are on any of these disks (bits) that reads. */
  int reach(int disks) {
    int bits = 0;
    for (int f = 0; f < 8; f++) if ((on(world, f) & disks) != 0) bits += 1 << f;
    return bits;
  }
  int worth(int files) {
    int sum = 0;
    for (int f = 0; f < 8; f++) if ((files >> f) % 2 != 0) sum += Math.min(99, Math.max(0, answer(rule(), 2, 0, 0, 0, 0, f, world.day)));
    return sum;
  }
  int goesOf(int d) { return Math.min(100, Math.max(0, answer(rule(), 1, 0, 0, 0, world.disks.get(d).number, 0, world.day))); }
  boolean isDisk(int d) { return 0 <= d && d < world.disks.size(); }
  static boolean isFile(int f) { return 0 <= f && f < 8; }
  static boolean isSheet(int s) { return 0 <= s && s < 4; }

  // ---- the calls

  int set(int what, int of, int v) {
    if (v < 0) return BAD;
    if (what == 0) { if (v > 999) return BAD; int was = world.day; world.day = v; return was; }
    if (!isDisk(of)) return BAD;
    Disk d = world.disks.get(of);
    if (what == 1) { if (v > 9) return BAD; int was = d.number; d.number = v; return was; }
    if (what == 2) { if (v > 999) return BAD; int was = d.since; d.since = v; return was; }
    return BAD;
  }
  int disk(int kind, int number) {
    if (kind < 0 || kind > 5 || number < 0 || number > 9) return BAD;
    if (world.disks.size() == 6) return FULL;
    Disk d = new Disk();
    d.kind = kind; d.number = number; d.since = world.day;
    world.disks.add(d);
    return world.disks.size() - 1;
  }
  int told(int of, int what) {
    if (what == 0) return world.day;
    if (!isDisk(of)) return BAD;
    Disk d = world.disks.get(of);
    if (what == 1) return d.number;
    if (what == 2) return d.since;
    if (what == 3) return d.kind;
    if (what == 4) return d.reads(world.day) ? 1 : 0;
    if (what == 5) return d.stamps(world.day);
    if (what == 6) return d.room();
    if (what == 7) return d.files.size();
    return what == 8 ? goesOf(of) : BAD;
  }
  int file(int disk, int file, int what) {
    if (!isDisk(disk) || !isFile(file) || what != 0 && what != 1) return BAD;
    Content c = world.disks.get(disk).files.get(file);
    if (what == 0) return c == null ? NONE : c.content;
    return c == null ? -100 : c.stamp;
  }
  int feed(int letter) {
    if (letter < 0 || letter > 255) return BAD;
    if (tape.size() == 160) return FULL;
    tape.add(letter);
    return tape.size();
  }
  int text() {
    if (texts.size() == 6) return FULL;
    List<Integer> places = new ArrayList<>();
    List<String> tokens = tokens(places);
    int size = tape.size();
    tape.clear();
    int standing = standing(tokens);
    if (standing < 0) return -100 - size;
    if (standing < tokens.size()) return -100 - places.get(standing);
    texts.add(tokens);
    return texts.size() - 1;
  }
  int force(int text) {
    if (text < 0 || text >= texts.size()) return BAD;
    int was = world.rule;
    world.rule = text;
    return was;
  }
  int write(int disk, int file, int content) {
    if (!isDisk(disk) || !isFile(file) || content < 0 || content > 999) return BAD;
    Disk d = world.disks.get(disk);
    if (!d.reads(world.day)) return STATE;
    if (!d.files.containsKey(file) && d.files.size() >= d.room()) return FULL;
    d.files.put(file, new Content(d.keeps(content), d.stamps(world.day)));
    return d.keeps(content);
  }
  int lose(int disk, int file) {
    if (!isDisk(disk) || !isFile(file)) return BAD;
    Disk d = world.disks.get(disk);
    if (!d.reads(world.day)) return STATE;
    Content c = d.files.remove(file);
    return c == null ? NONE : c.content;
  }
  int copies(int one, int other) {
    if (!isDisk(one) || !isDisk(other) || one == other) return BAD;
    return copyIn(world, one, other, rule());
  }
  int on(int file) { return isFile(file) ? on(world, file) : BAD; }
  int newest(int file, int what) {
    if (!isFile(file) || what < 0 || what > 2) return BAD;
    int best = NONE;
    for (int d = 5; d >= 0; d--) {
      if ((on(world, file) >> d) % 2 == 0) continue;
      if (best == NONE || world.disks.get(d).files.get(file).stamp >= world.disks.get(best).files.get(file).stamp) best = d;
    }
    if (what == 0 || best == NONE) return what == 2 ? -100 : best;
    Content c = world.disks.get(best).files.get(file);
    return what == 1 ? c.content : c.stamp;
  }
  int all(int what) {
    if (what == 0) return differ(world);
    if (what >= 1 && what <= 6) return safe(world, what);
    if (what == 8) return worth(reach(63));
    if (what != 7) return BAD;
    int bits = 0;
    for (int f = 0; f < 8; f++) {
      boolean there = false;
      for (Disk d : world.disks) there |= d.files.containsKey(f);
      if (there && on(world, f) == 0) bits += 1 << f;
    }
    return bits;
  }
  int best(int k, int what) {
    if (k < 1 || k > 6 || what < 0 || what > 1) return BAD;
    int most = Integer.bitCount(safe(world, k)), best = NONE;
    for (int pair = 0; pair < 60; pair++) {
      if (!isDisk(pair / 10) || !isDisk(pair % 10)) continue;
      World w = world.twin();
      if (copyIn(w, pair / 10, pair % 10, rule()) < 0) continue;
      int then = Integer.bitCount(safe(w, k));
      if (then > most) { most = then; best = pair; }
    }
    return what == 0 ? best : most;
  }
  int fewest(int k) {
    if (k < 1 || k > 6) return BAD;
    return least(world, reach(63), k, 3);
  }
  int least(World w, int needed, int k, int left) {
    if ((needed & ~safe(w, k)) == 0) return 0;
    if (left == 0) return NONE;
    int least = NONE;
    for (int one = 0; one < w.disks.size(); one++) {
      for (int other = 0; other < w.disks.size(); other++) {
        World then = w.twin();
        if (copyIn(then, one, other, rule()) < 0) continue;
        int more = least(then, needed, k, left - 1);
        if (more >= 0 && (least == NONE || more + 1 < least)) least = more + 1;
      }
    }
    return least;
  }
  int worst(int what) {
    if (what != 0 && what != 1) return BAD;
    int disk = NONE, least = NONE;
    for (int d = world.disks.size() - 1; d >= 0; d--) {
      if (!world.disks.get(d).reads(world.day)) continue;
      int w = worth(reach(63 - (1 << d)));
      if (disk == NONE || w <= least) { disk = d; least = w; }
    }
    return what == 0 ? disk : least;
  }
  int letGo() {
    for (int d = 0; d < world.disks.size(); d++) {
      if (world.disks.get(d).reads(world.day) && Integer.bitCount(reach(63 - (1 << d))) == Integer.bitCount(reach(63))) return d;
    }
    return NONE;
  }
  int again(int one, int other) {
    if (!isDisk(one) || !isDisk(other) || one == other) return BAD;
    World w = world.twin();
    copyIn(w, one, other, rule());
    int bits = 0;
    for (int f = 0; f < 8; f++) if (w.disks.get(other).files.containsKey(f) && !world.disks.get(other).files.containsKey(f)) bits += 1 << f;
    return bits;
  }
  int goes(int disk) {
    if (!isDisk(disk)) return BAD;
    int day = world.day;
    while (day < 1000 && world.disks.get(disk).reads(day)) day++;
    return day == 1000 ? NONE : day;
  }
  int plan(int sheet, int what) {
    if (!isSheet(sheet) || what < 0 || what > 2) return BAD;
    int[] s = sheets[sheet];
    if (s == null) return -11;
    if (s.length % 2 == 1) return BAD;
    for (int d : s) if (!isDisk(d)) return BAD;
    World w = world.twin();
    int stop = NONE;
    for (int r = 0; r < s.length / 2 && stop == NONE; r++) if (copyIn(w, s[2 * r], s[2 * r + 1], rule()) < 0) stop = r;
    if (what == 0) return stop;
    return what == 1 ? safe(w, 2) : differ(w);
  }
  int otherwise(World w, int disk, int[] s) {
    int bits = 0;
    for (int f = 0; f < 8; f++) {
      Content c = w.disks.get(disk).files.get(f);
      if ((c == null ? NONE : c.content) != s[f]) bits += 1 << f;
    }
    return bits;
  }
  boolean comes(World w, int one, int disk, List<String> rule, int[] s) {
    return copyIn(w, one, disk, rule) >= 0 && otherwise(w, disk, s) == 0;
  }
  int tells(int sheet, int disk, int one, int what) {
    if (!isSheet(sheet) || !isDisk(disk) || what < 0 || what > 4) return BAD;
    if ((what == 1 || what == 2 || what == 4) && (!isDisk(one) || one == disk)) return BAD;
    int[] s = sheets[sheet];
    if (s == null) return -11;
    if (s.length != 8) return BAD;
    if (what == 0) return otherwise(world, disk, s);
    int bits = 0;
    for (int n = 0; n < 10; n++) {
      World w = world.twin();
      boolean so = false;
      if (what == 1 && n < 6) { w.disks.get(disk).kind = n; so = comes(w, one, disk, rule(), s); }
      if (what == 2) { w.disks.get(disk).number = n; so = comes(w, one, disk, rule(), s); }
      if (what == 3 && isDisk(n)) so = comes(w, n, disk, rule(), s);
      if (what == 4 && n < texts.size()) so = comes(w, one, disk, texts.get(n), s);
      if (so) bits += 1 << n;
    }
    return bits;
  }
  int film(int sheet, int disk) {
    if (!isSheet(sheet) || !isDisk(disk)) return BAD;
    sheets[sheet] = new int[8];
    sorts[sheet] = 1;
    for (int f = 0; f < 8; f++) sheets[sheet][f] = file(disk, f, 0);
    return 8;
  }
  int stay(int seed) {
    int z = seed, bits = 0;
    for (int d = 0; d < world.disks.size(); d++) {
      if (!world.disks.get(d).reads(world.day)) continue;
      z = (int) (z * 1103515245L + 12345L);
      long high = (z & 0xffffffffL) / 512;
      if (high % 100 >= goesOf(d)) bits += 1 << d;
    }
    return bits;
  }
  int lot(int seed) { return worth(reach(stay(seed))); }
  long chance(int seed, int n, int part) {
    if (n < 1 || n > 20 || part != 0 && part != 1) return -4611686018427387904L;
    int up = 0;
    for (int s = 0; s < n; s++) if (reach(stay(seed + s)) == reach(63)) up++;
    int a = up, b = n;
    while (b != 0) { int c = a % b; a = b; b = c; }
    return part == 0 ? up / a : n / a;
  }
  int image() { image = world.twin(); return world.disks.size(); }
  int back() {
    if (image == null) return STATE;
    world = image.twin();
    return world.disks.size();
  }
  int count(int what) {
    if (what == 0) return world.disks.size();
    int reading = 0, contents = 0;
    for (Disk d : world.disks) { contents += d.files.size(); if (d.reads(world.day)) reading++; }
    if (what == 1) return reading;
    if (what == 2) return contents;
    if (what == 3) return texts.size();
    if (what == 4) return tape.size();
    return what == 5 ? world.rule : BAD;
  }
  int sheet(int sheet, int sort, int n) {
    if (!isSheet(sheet) || sort < -1 || sort > 2) return BAD;
    if (sort == -1) { sheets[sheet] = null; sorts[sheet] = -1; return 1; }
    if (n > 40) return BAD;
    if (n < 0) return -14;
    sheets[sheet] = new int[n];
    sorts[sheet] = sort;
    return 1;
  }
  int cell(int sheet, int i, int v) {
    if (!isSheet(sheet)) return BAD;
    if (sheets[sheet] == null) return -11;
    if (i < 0 || i >= sheets[sheet].length) return -12;
    int bits = sorts[sheet] == 0 ? 8 : sorts[sheet] == 1 ? 16 : 32;
    sheets[sheet][i] = v << 32 - bits >> 32 - bits;
    return 1;
  }
  int copy(int sheet, int i, int other, int j, int n) {
    if (!isSheet(sheet) || !isSheet(other)) return BAD;
    if (sheets[sheet] == null || sheets[other] == null) return -11;
    if (sorts[sheet] != sorts[other]) return -13;
    if (i < 0 || j < 0 || n < 0 || (long) i + n > sheets[sheet].length || (long) j + n > sheets[other].length) return -12;
    int[] was = sheets[sheet].clone();
    for (int k = 0; k < n; k++) sheets[other][j + k] = was[i + k];
    return n;
  }
  int disks(int sheet, int sort, int from, int n) {
    if (!isSheet(sheet) || sort < 0 || sort > 2 || n < 0 || n > 6) return BAD;
    if (sheets[sheet] == null) return -11;
    if (sorts[sheet] != sort) return -13;
    int came = 0;
    for (int k = 0; k < n; k++) {
      long at = (long) from + 2 * k;
      if (at < 0 || at + 1 >= sheets[sheet].length) return -12;
      if (disk(sheets[sheet][(int) at], sheets[sheet][(int) at + 1]) >= 0) came++;
    }
    return came;
  }
  int taken(int disk, int k) {
    if (k < 0 || k > 5) return BAD;
    if (!isDisk(disk)) return -11;
    int above = world.disks.get(disk).kind;
    int[] under = {-1, 0, 0, 1, 2, 0};
    while (above != k && above != -1) above = under[above];
    return above == k ? world.disks.get(disk).number : -13;
  }
}
