import java.lang.reflect.InvocationTargetException;
import java.lang.reflect.Method;
import java.util.Arrays;

/**
 * Every call, with every joining of arguments at the document's bounds (and far beyond them), on states laid out
 * alike on the program and on NaiveOldOne: the answers, and what is asked behind a call that may change, are alike.
 */
public final class EveryArgumentTest {
  private static final int LEAST = Integer.MIN_VALUE, MOST = Integer.MAX_VALUE, STATES = 4;
  private static final int[] DISK = {LEAST, -1, 0, 1, 2, 5, 6, MOST};
  private static final int[] FILE = {LEAST, -1, 0, 1, 7, 8, MOST};
  private static final int[] SHEET = {LEAST, -1, 0, 1, 2, 3, 4, MOST};
  private static final int[] PLACE = {LEAST, -1, 0, 1, 7, 8, 39, 40, MOST};
  private static final int[] SIZE = {LEAST, -1, 0, 1, 7, 8, 9, 40, 41, MOST};
  private static final int[] SEED = {LEAST, -1, 0, 1, 12345, MOST};
  private static int wrong, asked;
  private static InTheOldOne x;
  private static NaiveOldOne y;
  private static int calls;

  public static void main(String[] args) throws ReflectiveOperationException {
    for (int state = 0; state < STATES; state++) {
      changing(state);
      asking(state);
    }
    System.out.println(wrong == 0 ? asked + " answers are alike" : wrong + " answers are not alike");
    if (wrong != 0) System.exit(1);
  }

  private static int[] to(int last) {
    int[] all = new int[last + 5];
    all[0] = LEAST;
    for (int i = -1; i <= last + 1; i++) all[i + 2] = i;
    all[last + 4] = MOST;
    return all;
  }

  private static void changing(int state) throws ReflectiveOperationException {
    each(state, true, "set", to(2), DISK, new int[] {LEAST, -1, 0, 9, 10, 301, 999, 1000, MOST});
    each(state, true, "disk", to(5), to(9));
    each(state, true, "feed", new int[] {LEAST, -1, 0, 10, 32, 59, 97, 122, 255, 256, MOST});
    each(state, true, "text");
    each(state, true, "force", to(5));
    each(state, true, "write", DISK, FILE, new int[] {LEAST, -1, 0, 9, 899, 900, 999, 1000, MOST});
    each(state, true, "lose", DISK, FILE);
    each(state, true, "copies", to(5), to(5));
    each(state, true, "film", SHEET, DISK);
    each(state, true, "image");
    each(state, true, "back");
    each(state, true, "sheet", SHEET, to(2), SIZE);
    each(state, true, "cell", SHEET, PLACE, new int[] {LEAST, -1, 0, 5, 127, 128, 255, 256, 32767, 65535, MOST});
    each(state, true, "copy", SHEET, PLACE, SHEET, PLACE, new int[] {LEAST, -1, 0, 1, 8, 40, MOST});
    each(state, true, "disks", SHEET, to(2), PLACE, to(6));
  }

  private static void asking(int state) throws ReflectiveOperationException {
    each(state, false, "told", to(5), to(8));
    each(state, false, "file", to(5), to(7), to(1));
    each(state, false, "on", to(7));
    each(state, false, "newest", to(7), to(2));
    each(state, false, "all", to(8));
    each(state, false, "best", to(6), to(1));
    each(state, false, "fewest", to(6));
    each(state, false, "worst", to(1));
    each(state, false, "letGo");
    each(state, false, "again", to(5), to(5));
    each(state, false, "goes", to(5));
    each(state, false, "plan", to(3), to(2));
    each(state, false, "tells", to(3), to(5), to(5), to(4));
    each(state, false, "lot", SEED);
    each(state, false, "chance", SEED, to(20), to(1));
    each(state, false, "count", to(5));
    each(state, false, "taken", to(5), to(5));
  }

  /** With every joining of these arguments; a call that may change something has a state of its own. */
  private static void each(int state, boolean changes, String name, int[]... choices) throws ReflectiveOperationException {
    Class<?>[] types = new Class<?>[choices.length];
    Arrays.fill(types, int.class);
    Method a = InTheOldOne.class.getDeclaredMethod(name, types);
    Method b = NaiveOldOne.class.getDeclaredMethod(name, types);
    b.setAccessible(true);
    int[] at = new int[choices.length];
    Object[] with = new Object[choices.length];
    calls = MOST;
    boolean more = true;
    while (more) {
      if (changes || calls > 400) layOut(state);
      for (int i = 0; i < at.length; i++) with[i] = choices[i][at[i]];
      String call = name + Arrays.toString(with) + " in state " + state;
      alike(call, answer(a, x, with), answer(b, y, with));
      if (changes) behind(call);
      int i = at.length - 1;
      while (i >= 0 && ++at[i] == choices[i].length) at[i--] = 0;
      more = i >= 0;
    }
  }

  private static long answer(Method m, Object on, Object[] with) throws ReflectiveOperationException {
    calls++;
    try {
      return ((Number) m.invoke(on, with)).longValue();
    } catch (InvocationTargetException e) {
      System.out.println(m.getName() + Arrays.toString(with) + " threw " + e.getCause());
      return -999;
    }
  }

  private static void alike(String call, long got, long due) {
    asked++;
    if (got == due) return;
    if (wrong++ < 20) System.out.println(call + " answered " + got + ", due is " + due);
  }

  private static void behind(String call) {
    String behind = "behind " + call + ": ";
    for (int what = 0; what < 6; what++) alike(behind + "count " + what, x.count(what), y.count(what));
    for (int what = 0; what < 9; what++) alike(behind + "all " + what, x.all(what), y.all(what));
    for (int d = 0; d < 6; d++) {
      for (int what = 0; what < 9; what++) alike(behind + "told " + d + " " + what, x.told(d, what), y.told(d, what));
      for (int f = 0; f < 8; f += 7) {
        alike(behind + "file " + d + " " + f, x.file(d, f, 0), y.file(d, f, 0));
        alike(behind + "stamp " + d + " " + f, x.file(d, f, 1), y.file(d, f, 1));
      }
    }
    for (int s = 0; s < 4; s++) {
      for (int what = 0; what < 3; what++) alike(behind + "plan " + s, x.plan(s, what), y.plan(s, what));
      for (int what = 0; what < 5; what++) alike(behind + "tells " + s, x.tells(s, 1, 0, what), y.tells(s, 1, 0, what));
      alike(behind + "tells " + s, x.tells(s, 2, 0, 0), y.tells(s, 2, 0, 0));
      for (int sort = 0; sort < 3; sort++) alike(behind + "disks " + s, x.disks(s, sort, 0, 6), y.disks(s, sort, 0, 6));
      alike(behind + "cell " + s, x.cell(s, 7, 1), y.cell(s, 7, 1));
      alike(behind + "cell " + s, x.cell(s, 8, 1), y.cell(s, 8, 1));
    }
    alike(behind + "text", x.text(), y.text());
    alike(behind + "back", x.back(), y.back());
    for (int what = 0; what < 6; what++) alike(behind + "back, count " + what, x.count(what), y.count(what));
  }

  private static void layOut(int state) {
    x = new InTheOldOne();
    y = new NaiveOldOne();
    calls = 0;
    if (state == 0) return;
    int[] kinds = {2, 1, 3, 4, 5, 0};
    int disks = state == 1 ? 3 : 6;
    for (int d = 0; d < disks; d++) disk(kinds[d], 9 - d);
    for (int d = 0; d < disks; d++) for (int f = d; f < 8; f += 3) write(d, f, 890 + 13 * d - f);
    if (state == 3) {
      x.image();
      y.image();
    }
    for (int n = 1; n < state; n++) text("takes 1;goes number*9;worth file*20-5;");
    for (char c : "takes not same;goes 1;worth 2;".toCharArray()) feed(c);
    day(state == 1 ? 6 : state == 2 ? 301 : 100);
    film(0, 0);
    sheet(1, 0, 8, 0, 1, 1, 0, 0, 2, 5, 1);
    sheet(2, 2, 40, 2, 0, 3, 9, 1, 1, 5, 0);
  }

  private static void disk(int kind, int number) {
    alike("disk", x.disk(kind, number), y.disk(kind, number));
    calls++;
  }

  private static void write(int disk, int file, int content) {
    alike("write", x.write(disk, file, content), y.write(disk, file, content));
    calls++;
  }

  private static void day(int day) {
    alike("set", x.set(0, 0, day), y.set(0, 0, day));
    calls++;
  }

  private static void feed(char c) {
    alike("feed", x.feed(c), y.feed(c));
    calls++;
  }

  private static void text(String text) {
    for (char c : text.toCharArray()) feed(c);
    int n = y.text();
    alike("text", x.text(), n);
    alike("force", x.force(n), y.force(n));
  }

  private static void film(int sheet, int disk) {
    alike("film", x.film(sheet, disk), y.film(sheet, disk));
  }

  private static void sheet(int sheet, int sort, int n, int... items) {
    alike("sheet", x.sheet(sheet, sort, n), y.sheet(sheet, sort, n));
    for (int i = 0; i < items.length; i++) alike("cell", x.cell(sheet, i, items[i]), y.cell(sheet, i, items[i]));
  }
}
