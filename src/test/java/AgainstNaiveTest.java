/** Runs of up to 512 calls, laid out by a counter, on the program and on NaiveOldOne: every answer must be alike. */
public final class AgainstNaiveTest {
  private static long state;
  private static InTheOldOne x;
  private static NaiveOldOne y;
  private static int run, calls, wrong;
  private static int slow;
  private static StringBuilder story;

  private static int below(int n) {
    state = state * 6364136223846793005L + 1442695040888963407L;
    return (int) ((state >>> 33) % n);
  }

  /** Mostly from low to high, now and then beside it. */
  private static int near(int low, int high) {
    int r = below(60);
    if (r == 0) return low - 1;
    if (r == 1) return high + 1;
    if (r == 2) return below(2) == 0 ? Integer.MIN_VALUE : Integer.MAX_VALUE;
    return low + below(high - low + 1);
  }

  private static int someDisk() { return below(40) == 0 ? near(0, 5) : below(Math.max(1, y.world.disks.size())); }

  private static void like(String call, long got, long due) {
    calls++;
    story.append(call).append(" = ").append(due).append('\n');
    if (got != due) {
      wrong++;
      System.out.println("run " + run + ", call " + calls + ": " + call + " answered " + got + ", due is " + due);
      if (wrong == 1) System.out.println(story);
    }
  }

  private static void feed(String text) {
    for (char c : text.toCharArray()) like("feed(" + (int) c + ")", x.feed(c), y.feed(c));
  }

  private static String one(int depth) {
    int r = below(depth <= 0 ? 7 : 12);
    if (r < 2) return String.valueOf(below(below(4) == 0 ? 10000 : 40));
    if (r < 7) return new String[] {"here", "there", "same", "number", "file", "day"}[below(6)];
    if (r < 9) return "-" + blank() + one(depth - 1);
    return "(" + either(depth - 1) + ")";
  }
  private static String blank() { return new String[] {"", " ", "", "\n", "  "}[below(5)]; }
  private static String term(int depth) { return one(depth) + (below(4) == 0 ? blank() + "*" + blank() + one(depth) : ""); }
  private static String sum(int depth) {
    String s = term(depth);
    for (int n = below(3); n > 0; n--) s += blank() + (below(2) == 0 ? "+" : "-") + blank() + term(depth);
    return s;
  }
  private static String denied(int depth) {
    if (depth > 0 && below(6) == 0) return "not " + denied(depth - 1);
    int r = below(5);
    return r < 2 ? sum(depth) + (r == 0 ? "<" : "=") + blank() + sum(depth) : sum(depth);
  }
  private static String either(int depth) {
    String s = denied(depth);
    for (int n = below(3); n > 1; n--) s += (below(2) == 0 ? " and " : " or ") + denied(depth);
    return s;
  }

  private static String text() {
    if (below(6) == 0) return new String[] {
        "takes 1;goes 0;worth 1;", "takes not same;goes 100;worth 99;", "takes there<here or same;goes day;worth day-file*50;",
        "takes number<file;goes number*9+5;worth 50-10*file;", "takes 0;goes 50;worth file=3;"}[below(5)];
    int depth = below(3) == 0 ? 1 + below(6) : below(3);
    String s = "takes " + either(depth) + blank() + ";goes " + blank() + either(depth) + "; worth " + either(depth) + blank() + ";" + blank();
    for (int n = below(4) - 1; n > 0; n--) {
      int at = below(s.length());
      String[] odd = {"(", ")", ";", "not ", "-", "12345", "!", "or", "<", " x ", "A", "takes", "\t", "=", "\u00e9", ""};
      s = s.substring(0, at) + odd[below(odd.length)] + s.substring(at + below(2));
    }
    return s.length() > 170 ? s.substring(0, 170) : s;
  }

  private static void change() {
    int a = someDisk(), b = someDisk(), c = near(0, 7), d;
    switch (below(12)) {
      case 0: d = near(0, 999); like("set(0, " + a + ", " + d + ")", x.set(0, a, d), y.set(0, a, d)); break;
      case 1: case 2: d = y.world.day + below(9); like("set(0, 0, " + d + ")", x.set(0, 0, d), y.set(0, 0, d)); break;
      case 3: d = near(0, 9); like("set(1, " + a + ", " + d + ")", x.set(1, a, d), y.set(1, a, d)); break;
      case 4: d = near(Math.max(0, y.world.day - 40), Math.min(999, y.world.day + 5));
        like("set(2, " + a + ", " + d + ")", x.set(2, a, d), y.set(2, a, d)); break;
      case 5: like("lose(" + a + ", " + c + ")", x.lose(a, c), y.lose(a, c)); break;
      case 6: case 7: like("copies(" + a + ", " + b + ")", x.copies(a, b), y.copies(a, b)); break;
      case 8: d = below(Math.max(1, y.texts.size() + below(2))); like("force(" + d + ")", x.force(d), y.force(d)); break;
      default: d = near(0, 999); like("write(" + a + ", " + c + ", " + d + ")", x.write(a, c, d), y.write(a, c, d));
    }
  }

  private static void rare() {
    int a, b;
    switch (below(8)) {
      case 0: like("image()", x.image(), y.image()); break;
      case 1: like("back()", x.back(), y.back()); break;
      case 2: a = near(-1, 3); b = near(-1, 8); like("set(" + a + ", 0, " + b + ")", x.set(a, 0, b), y.set(a, 0, b)); break;
      case 3: case 4: a = near(0, 5); b = near(0, 9); like("disk(" + a + ", " + b + ")", x.disk(a, b), y.disk(a, b)); break;
      case 5: a = near(0, 255); like("feed(" + a + ")", x.feed(a), y.feed(a)); break;
      default: if (calls > 300) break;
        feed(text());
        like("text()", x.text(), y.text());
    }
  }

  private static void ask() {
    int a = someDisk(), b = someDisk(), c = near(0, 7), d = near(0, 2);
    switch (below(9)) {
      case 0: d = near(0, 8); like("told(" + a + ", " + d + ")", x.told(a, d), y.told(a, d)); break;
      case 1: like("file(" + a + ", " + c + ", " + d + ")", x.file(a, c, d), y.file(a, c, d)); break;
      case 2: like("on(" + c + ")", x.on(c), y.on(c)); break;
      case 3: like("newest(" + c + ", " + d + ")", x.newest(c, d), y.newest(c, d)); break;
      case 4: case 5: d = near(0, 8); like("all(" + d + ")", x.all(d), y.all(d)); break;
      case 6: d = near(0, 5); like("count(" + d + ")", x.count(d), y.count(d)); break;
      case 7: d = near(0, 5); like("taken(" + a + ", " + d + ")", x.taken(a, d), y.taken(a, d)); break;
      default: like("goes(" + a + ")", x.goes(a), y.goes(a));
    }
  }

  private static void weigh() {
    int a = someDisk(), b = someDisk(), k = near(1, 4), what = near(0, 1);
    switch (below(9)) {
      case 0: like("best(" + k + ", " + what + ")", x.best(k, what), y.best(k, what)); break;
      case 1: case 2:
        int readers = Math.max(0, y.count(1));
        if (readers > 4 && slow >= 12) break;
        if (readers > 4) slow++;
        like("fewest(" + k + ")", x.fewest(k), y.fewest(k)); break;
      case 3: like("worst(" + what + ")", x.worst(what), y.worst(what)); break;
      case 4: like("letGo()", x.letGo(), y.letGo()); break;
      case 5: like("again(" + a + ", " + b + ")", x.again(a, b), y.again(a, b)); break;
      case 6: like("lot(" + (int) state + ")", x.lot((int) state), y.lot((int) state)); break;
      default: int seed = below(9) == 0 ? Integer.MAX_VALUE - 3 : (int) (state >>> 20), n = near(1, 20);
        like("chance(" + seed + ", " + n + ", " + what + ")", x.chance(seed, n, what), y.chance(seed, n, what));
    }
  }

  private static void host() {
    int s = below(30) == 0 ? near(-1, 4) : below(4), t = below(4), i = near(0, 12), j = near(0, 12), n = near(0, 8);
    switch (below(9)) {
      case 0: int sort = near(-1, 2), size = below(3) == 0 ? near(0, 40) : near(0, 9);
        like("sheet(" + s + ", " + sort + ", " + size + ")", x.sheet(s, sort, size), y.sheet(s, sort, size)); break;
      case 1: case 2: case 3: int v = below(5) == 0 ? (int) state : near(0, 5);
        like("cell(" + s + ", " + i + ", " + v + ")", x.cell(s, i, v), y.cell(s, i, v)); break;
      case 4: like("copy(" + s + ", " + i + ", " + t + ", " + j + ", " + n + ")", x.copy(s, i, t, j, n), y.copy(s, i, t, j, n)); break;
      case 5: if (below(4) != 0) break;
        int k = near(0, 2), m = near(0, 6);
        like("disks(" + s + ", " + k + ", " + i + ", " + m + ")", x.disks(s, k, i, m), y.disks(s, k, i, m)); break;
      case 6: int d = someDisk(); like("film(" + s + ", " + d + ")", x.film(s, d), y.film(s, d)); break;
      default: planOrTells(s);
    }
  }

  private static void planOrTells(int s) {
    if (below(2) == 0) {
      int rows = below(5);
      if (below(3) != 0) {
        like("sheet(" + s + ", 0, " + 2 * rows + ")", x.sheet(s, 0, 2 * rows), y.sheet(s, 0, 2 * rows));
        for (int i = 0; i < 2 * rows; i++) {
          int d = someDisk();
          like("cell(" + s + ", " + i + ", " + d + ")", x.cell(s, i, d), y.cell(s, i, d));
        }
      }
      for (int what = -1; what < 4; what++) like("plan(" + s + ", " + what + ")", x.plan(s, what), y.plan(s, what));
    } else {
      int a = someDisk(), b = someDisk();
      if (below(3) != 0) {
        like("image()", x.image(), y.image());
        like("copies(" + b + ", " + a + ")", x.copies(b, a), y.copies(b, a));
        like("film(" + s + ", " + a + ")", x.film(s, a), y.film(s, a));
        like("back()", x.back(), y.back());
      }
      for (int what = -1; what < 6; what++) like("tells(" + s + ", " + a + ", " + b + ", " + what + ")", x.tells(s, a, b, what), y.tells(s, a, b, what));
    }
  }

  private static void run() {
    story = new StringBuilder();
    calls = 0;
    slow = 0;
    x = new InTheOldOne();
    y = new NaiveOldOne();
    for (int n = 1 + below(6); n > 0; n--) {
      int kind = below(6), number = below(10);
      like("disk(" + kind + ", " + number + ")", x.disk(kind, number), y.disk(kind, number));
    }
    for (int n = below(25); n > 0; n--) {
      int d = someDisk(), f = below(8), c = below(4) == 0 ? below(1000) : 7 + below(5);
      like("write(" + d + ", " + f + ", " + c + ")", x.write(d, f, c), y.write(d, f, c));
    }
    for (int n = below(2) == 0 ? 1 + below(3) : 0; n > 0 && calls < 250; n--) {
      feed(text());
      like("text()", x.text(), y.text());
      int last = y.texts.size() - 1;
      like("force(" + last + ")", x.force(last), y.force(last));
    }
    while (calls < 490 && wrong < 20) {
      int r = below(100);
      if (r < 30) change();
      else if (r < 33) rare();
      else if (r < 58) ask();
      else if (r < 78) weigh();
      else host();
    }
  }

  /** A text or some, and what they lead to. */
  private static void runOfTexts() {
    story = new StringBuilder();
    calls = 0;
    x = new InTheOldOne();
    y = new NaiveOldOne();
    for (int n = 0; n < 3; n++) {
      int kind = below(6), number = 3 + below(7);
      like("disk(" + kind + ", " + number + ")", x.disk(kind, number), y.disk(kind, number));
      for (int f = 0; f < 8; f += 1 + below(3)) {
        int c = 7 + below(2), file = f;
        like("write(" + n + ", " + f + ", " + c + ")", x.write(n, file, c), y.write(n, file, c));
      }
      int day = below(60);
      like("set(0, 0, " + day + ")", x.set(0, 0, day), y.set(0, 0, day));
    }
    for (int n = 0; n < 3 && calls < 250; n++) {
      feed(text());
      like("text()", x.text(), y.text());
      int last = y.texts.size() - 1;
      like("force(" + last + ")", x.force(last), y.force(last));
      like("all(8)", x.all(8), y.all(8));
      for (int d = 0; d < 3; d++) {
        like("told(" + d + ", 8)", x.told(d, 8), y.told(d, 8));
        like("copies(" + d + ", " + (d + 1) % 3 + ")", x.copies(d, (d + 1) % 3), y.copies(d, (d + 1) % 3));
      }
      for (int f = 0; f < 8; f++) like("file(1, " + f + ", 0)", x.file(1, f, 0), y.file(1, f, 0));
    }
  }

  public static void main(String[] args) {
    int runs = args.length > 0 ? Integer.parseInt(args[0]) : 400;
    for (run = 1; run <= runs && wrong < 20; run++) {
      state = run * 7919L;
      run();
      for (int n = 0; n < 10 && wrong < 20; n++) runOfTexts();
    }
    System.out.println(wrong == 0 ? "all answers are alike" : wrong + " answers are not alike");
    if (wrong != 0) System.exit(1);
  }
}
