import java.util.Arrays;

/** Terms 1: "Refusals, the first that the call's words name; they change nothing": each refusal, and all that is behind it. */
public final class RefusedTest {
  private static final int LEAST = Integer.MIN_VALUE, MOST = Integer.MAX_VALUE;

  private interface Call {
    long on(InTheOldOne x);
  }

  public static void main(String[] args) {
    Due.of("Refusals; they change nothing: BAD");
    badOfDisks();
    badOfFiles();
    badOfQuestions();
    badOfSheets();
    Due.of("Refusals; they change nothing: STATE");
    state();
    Due.of("Refusals; they change nothing: FULL");
    full();
    Due.of("Refusals; they change nothing: -11 .. -14");
    ofTheHost();
    Due.of("questions change nothing");
    questions();
    Due.end();
  }

  /** On DAY 400: a CLOUD with ROOM, a full CARD, a DISK that doesn't READ; an IMAGE, TEXTS, bytes on THE TAPE, SHEETS. */
  private static InTheOldOne laidOut() {
    InTheOldOne x = new InTheOldOne();
    x.disk(2, 5);
    x.set(0, 0, 3);
    x.write(0, 0, 10);
    x.image();
    x.disk(1, 0);
    x.disk(0, 4);
    x.write(0, 0, 20);
    x.write(0, 1, 21);
    x.write(1, 3, 33);
    x.write(2, 5, 55);
    x.set(0, 0, 400);
    x.set(2, 1, 390);
    Due.text(x, "takes 1;goes 7;worth 2;");
    x.force(1);
    Due.feed(x, "takes 0;goes 9;worth 3;");
    x.film(0, 0);
    x.sheet(1, 0, 4);
    x.cell(1, 1, 1);
    x.cell(1, 2, 1);
    x.sheet(2, 2, 3);
    x.cell(2, 0, 1);
    return x;
  }

  private static InTheOldOne fullOfDisks() {
    InTheOldOne x = laidOut();
    for (int i = 3; i < 6; i++) x.disk(5, i);
    return x;
  }

  private static InTheOldOne fullOfTexts() {
    InTheOldOne x = laidOut();
    x.text();
    for (int i = 3; i < 6; i++) Due.text(x, "takes 1;goes 8;worth 1;");
    Due.feed(x, "nonsense");
    return x;
  }

  private static InTheOldOne fullOfBytes() {
    InTheOldOne x = laidOut();
    while (x.feed(' ') > 0) continue;
    return x;
  }

  /** All that can be asked, in some 250 calls; the last of it uses up THE TAPE and goes back to THE IMAGE. */
  private static long[] shown(InTheOldOne x) {
    long[] all = new long[300];
    int n = onDisks(x, all, 0, 6);
    for (int s = 0; s < 4; s++) {
      for (int what = 0; what < 3; what++) all[n++] = x.plan(s, what);
      for (int what = 0; what < 5; what++) all[n++] = x.tells(s, 0, 1, what);
      for (int sort = 0; sort < 3; sort++) all[n++] = x.disks(s, sort, 0, 0);
      int[] places = {0, 2, 3, 4, 7, 8};
      for (int i : places) all[n++] = x.cell(s, i, 7);
    }
    all[n++] = x.text();
    all[n++] = x.force(2);
    all[n++] = x.told(0, 8);
    all[n++] = x.copies(0, 1);
    all[n++] = x.back();
    n = onDisks(x, all, n, 1);
    return Arrays.copyOf(all, n);
  }

  private static int onDisks(InTheOldOne x, long[] all, int from, int disks) {
    int n = from;
    all[n++] = x.told(0, 0);
    for (int what = 0; what < 6; what++) all[n++] = x.count(what);
    for (int what = 0; what < 9; what++) all[n++] = x.all(what);
    for (int d = 0; d < disks; d++) {
      for (int what = 1; what < 9; what++) all[n++] = x.told(d, what);
      for (int f = 0; f < 8; f++) all[n++] = x.file(d, f, 0);
      if (d < 3) for (int f = 0; f < 8; f++) all[n++] = x.file(d, f, 1);
    }
    return n;
  }

  private static void unchanged(String name, InTheOldOne x, InTheOldOne twin, long due, Call call) {
    Due.due(name, call.on(x), due);
    Due.due("what is behind " + name + ", as it was", Arrays.equals(shown(x), shown(twin)) ? 1 : 0, 1);
  }

  private static void refused(String name, long due, Call call) {
    unchanged(name, laidOut(), laidOut(), due, call);
  }

  private static void badOfDisks() {
    int[] no = {LEAST, -1, 3, 6, MOST};
    for (int d : no) {
      refused("set(1, " + d + ", 2)", -2, x -> x.set(1, d, 2));
      refused("set(2, " + d + ", 2)", -2, x -> x.set(2, d, 2));
      refused("told(" + d + ", 1)", -2, x -> x.told(d, 1));
      refused("file(" + d + ", 0, 0)", -2, x -> x.file(d, 0, 0));
      refused("write(" + d + ", 0, 5)", -2, x -> x.write(d, 0, 5));
      refused("lose(" + d + ", 0)", -2, x -> x.lose(d, 0));
      refused("copies(0, " + d + ")", -2, x -> x.copies(0, d));
      refused("copies(" + d + ", 0)", -2, x -> x.copies(d, 0));
      refused("again(0, " + d + ")", -2, x -> x.again(0, d));
      refused("again(" + d + ", 0)", -2, x -> x.again(d, 0));
      refused("goes(" + d + ")", -2, x -> x.goes(d));
      refused("film(0, " + d + ")", -2, x -> x.film(0, d));
      refused("tells(0, " + d + ", 0, 0)", -2, x -> x.tells(0, d, 0, 0));
      refused("tells(0, 0, " + d + ", 1)", -2, x -> x.tells(0, 0, d, 1));
    }
    refused("copies(0, 0)", -2, x -> x.copies(0, 0));
    refused("again(0, 0)", -2, x -> x.again(0, 0));
    int[] notDay = {LEAST, -1, 1000, MOST};
    for (int v : notDay) {
      refused("set(0, 0, " + v + ")", -2, x -> x.set(0, 0, v));
      refused("set(1, 0, " + v + ")", -2, x -> x.set(1, 0, v));
      refused("set(2, 0, " + v + ")", -2, x -> x.set(2, 0, v));
    }
    refused("set(1, 0, 10)", -2, x -> x.set(1, 0, 10));
    refused("set(3, 0, 1)", -2, x -> x.set(3, 0, 1));
    refused("set(-1, 0, 1)", -2, x -> x.set(-1, 0, 1));
    int[][] notDisk = {{-1, 0}, {6, 0}, {0, -1}, {0, 10}, {LEAST, LEAST}, {MOST, MOST}};
    for (int[] n : notDisk) refused("disk(" + n[0] + ", " + n[1] + ")", -2, x -> x.disk(n[0], n[1]));
  }

  private static void badOfFiles() {
    int[] no = {LEAST, -1, 8, MOST};
    for (int f : no) {
      refused("file(0, " + f + ", 0)", -2, x -> x.file(0, f, 0));
      refused("write(0, " + f + ", 5)", -2, x -> x.write(0, f, 5));
      refused("lose(0, " + f + ")", -2, x -> x.lose(0, f));
      refused("on(" + f + ")", -2, x -> x.on(f));
      refused("newest(" + f + ", 0)", -2, x -> x.newest(f, 0));
    }
    int[] notContent = {LEAST, -1, 1000, MOST};
    for (int c : notContent) refused("write(0, 0, " + c + ")", -2, x -> x.write(0, 0, c));
    int[] notByte = {LEAST, -1, 256, MOST};
    for (int b : notByte) refused("feed(" + b + ")", -2, x -> x.feed(b));
    int[] notText = {LEAST, -1, 2, 6, MOST};
    for (int t : notText) refused("force(" + t + ")", -2, x -> x.force(t));
  }

  private static void badOfQuestions() {
    int[] no = {LEAST, -1, 9, MOST};
    for (int what : no) {
      refused("told(0, " + what + ")", -2, x -> x.told(0, what));
      refused("file(0, 0, " + what + ")", -2, x -> x.file(0, 0, what));
      refused("newest(0, " + what + ")", -2, x -> x.newest(0, what));
      refused("all(" + what + ")", -2, x -> x.all(what));
      refused("best(" + what + ", 0)", -2, x -> x.best(what, 0));
      refused("best(1, " + what + ")", -2, x -> x.best(1, what));
      refused("fewest(" + what + ")", -2, x -> x.fewest(what));
      refused("worst(" + what + ")", -2, x -> x.worst(what));
      refused("plan(1, " + what + ")", -2, x -> x.plan(1, what));
      refused("tells(0, 0, 1, " + what + ")", -2, x -> x.tells(0, 0, 1, what));
      refused("count(" + what + ")", -2, x -> x.count(what));
      refused("taken(0, " + what + ")", -2, x -> x.taken(0, what));
      refused("chance(1, 1, " + what + ")", InTheOldOne.NO, x -> x.chance(1, 1, what));
    }
    int[] notN = {LEAST, -1, 0, 21, MOST};
    for (int n : notN) refused("chance(1, " + n + ", 0)", InTheOldOne.NO, x -> x.chance(1, n, 0));
  }

  private static void badOfSheets() {
    int[] no = {LEAST, -1, 4, MOST};
    for (int s : no) {
      refused("plan(" + s + ", 0)", -2, x -> x.plan(s, 0));
      refused("tells(" + s + ", 0, 1, 0)", -2, x -> x.tells(s, 0, 1, 0));
      refused("film(" + s + ", 0)", -2, x -> x.film(s, 0));
      refused("sheet(" + s + ", 0, 5)", -2, x -> x.sheet(s, 0, 5));
      refused("sheet(" + s + ", -1, 5)", -2, x -> x.sheet(s, -1, 5));
      refused("cell(" + s + ", 0, 5)", -2, x -> x.cell(s, 0, 5));
      refused("copy(" + s + ", 0, 0, 0, 1)", -2, x -> x.copy(s, 0, 0, 0, 1));
      refused("copy(0, 0, " + s + ", 0, 1)", -2, x -> x.copy(0, 0, s, 0, 1));
      refused("disks(" + s + ", 0, 0, 1)", -2, x -> x.disks(s, 0, 0, 1));
    }
    refused("plan(2, 0): not by twos", -2, x -> x.plan(2, 0));
    refused("plan(0, 0): no such DISK", -2, x -> x.plan(0, 0));
    refused("tells(1, 0, 1, 0): not 8", -2, x -> x.tells(1, 0, 1, 0));
    refused("sheet(0, -2, 5)", -2, x -> x.sheet(0, -2, 5));
    refused("sheet(0, 3, 5)", -2, x -> x.sheet(0, 3, 5));
    refused("sheet(0, 1, 41)", -2, x -> x.sheet(0, 1, 41));
    refused("disks(1, -1, 0, 1)", -2, x -> x.disks(1, -1, 0, 1));
    refused("disks(1, 3, 0, 1)", -2, x -> x.disks(1, 3, 0, 1));
    refused("disks(1, 0, 0, -1)", -2, x -> x.disks(1, 0, 0, -1));
    refused("disks(1, 0, 0, 7)", -2, x -> x.disks(1, 0, 0, 7));
  }

  private static void state() {
    refused("write(2, 5, 5)", -3, x -> x.write(2, 5, 5));
    refused("write(2, 0, 5)", -3, x -> x.write(2, 0, 5));
    refused("lose(2, 5)", -3, x -> x.lose(2, 5));
    refused("copies(0, 2)", -3, x -> x.copies(0, 2));
    refused("copies(2, 0)", -3, x -> x.copies(2, 0));
    InTheOldOne x = new InTheOldOne();
    x.disk(2, 3);
    x.write(0, 0, 1);
    InTheOldOne twin = new InTheOldOne();
    twin.disk(2, 3);
    twin.write(0, 0, 1);
    unchanged("back()", x, twin, -3, o -> o.back());
  }

  private static void full() {
    refused("write(1, 0, 5)", -4, x -> x.write(1, 0, 5));
    refused("write(1, 7, 5)", -4, x -> x.write(1, 7, 5));
    unchanged("disk(0, 0)", fullOfDisks(), fullOfDisks(), -4, x -> x.disk(0, 0));
    unchanged("disk(6, 0)", fullOfDisks(), fullOfDisks(), -2, x -> x.disk(6, 0));
    unchanged("feed(65)", fullOfBytes(), fullOfBytes(), -4, x -> x.feed(65));
    unchanged("feed(256)", fullOfBytes(), fullOfBytes(), -2, x -> x.feed(256));
    unchanged("text()", fullOfTexts(), fullOfTexts(), -4, x -> x.text());
    unchanged("force(6)", fullOfTexts(), fullOfTexts(), -2, x -> x.force(6));
  }

  private static void ofTheHost() {
    refused("plan(3, 0)", -11, x -> x.plan(3, 0));
    refused("tells(3, 0, 1, 0)", -11, x -> x.tells(3, 0, 1, 0));
    refused("cell(3, 0, 5)", -11, x -> x.cell(3, 0, 5));
    refused("copy(3, 0, 0, 0, 1)", -11, x -> x.copy(3, 0, 0, 0, 1));
    refused("copy(0, 0, 3, 0, 1)", -11, x -> x.copy(0, 0, 3, 0, 1));
    refused("disks(3, 0, 0, 1)", -11, x -> x.disks(3, 0, 0, 1));
    refused("taken(3, 0)", -11, x -> x.taken(3, 0));
    refused("cell(0, 8, 5)", -12, x -> x.cell(0, 8, 5));
    refused("cell(0, -1, 5)", -12, x -> x.cell(0, -1, 5));
    refused("copy(0, 0, 0, 1, 8)", -12, x -> x.copy(0, 0, 0, 1, 8));
    refused("copy(0, 1, 0, 0, 8)", -12, x -> x.copy(0, 1, 0, 0, 8));
    refused("copy(0, 0, 0, 1, -1)", -12, x -> x.copy(0, 0, 0, 1, -1));
    refused("disks(1, 0, 4, 1): nothing stood ahead", -12, x -> x.disks(1, 0, 4, 1));
    refused("disks(1, 0, -1, 1): nothing stood ahead", -12, x -> x.disks(1, 0, -1, 1));
    refused("copy(0, 0, 1, 0, 1)", -13, x -> x.copy(0, 0, 1, 0, 1));
    refused("disks(1, 1, 0, 1)", -13, x -> x.disks(1, 1, 0, 1));
    refused("taken(0, 1)", -13, x -> x.taken(0, 1));
    refused("sheet(0, 1, -1)", -14, x -> x.sheet(0, 1, -1));
    refused("sheet(3, 1, -1)", -14, x -> x.sheet(3, 1, -1));
  }

  private static void questions() {
    refused("on(0)", 0b1, x -> x.on(0));
    refused("newest(0, 1)", 20, x -> x.newest(0, 1));
    refused("best(2, 0)", 1, x -> x.best(2, 0) < 0 ? 0 : 1);
    refused("fewest(2)", -1, x -> x.fewest(2));
    refused("worst(0)", 0, x -> x.worst(0));
    refused("letGo()", -1, x -> x.letGo());
    refused("again(1, 0)", 0b1000, x -> x.again(1, 0));
    refused("goes(1)", 411, x -> x.goes(1));
    refused("plan(1, 0)", -1, x -> x.plan(1, 0));
    for (int what = 0; what < 5; what++) {
      int w = what;
      refused("tells(0, 0, 1, " + what + ")", 0, x -> x.tells(0, 0, 1, w));
    }
    refused("lot(5)", 1, x -> x.lot(5) >= 0 ? 1 : 0);
    refused("chance(5, 20, 0)", 1, x -> x.chance(5, 20, 0) >= 0 ? 1 : 0);
    refused("taken(1, 0)", 0, x -> x.taken(1, 0));
  }
}
