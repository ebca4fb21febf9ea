/** Promises 29 to 33, and the terms 3: a test for each sentence that names a bound. */
public final class EdgesOfHostTest {
  private static final int DISK = 0, CARD = 1, CLOUD = 2, OLD = 3, SHARED = 4, PAPER = 5;
  private static final int LEAST = Integer.MIN_VALUE, MOST = Integer.MAX_VALUE;
  private static final int[] NO_SHEET = {LEAST, -1, 4, 5, MOST};

  public static void main(String[] args) {
    sheetOfN();
    sheetAllZero();
    sheetMissing();
    sheetRefused();
    cellLowestBits();
    cellPlaces();
    cellRefused();
    copyNumbers();
    copyAsTheyWere();
    copyPlaces();
    copyRefused();
    disksTwoByTwo();
    disksLeftOut();
    disksHowMany();
    disksOutside();
    disksRefused();
    taken();
    takenRefused();
    Due.end();
  }

  private static InTheOldOne cloud() {
    InTheOldOne x = new InTheOldOne();
    x.disk(CLOUD, 0);
    return x;
  }

  /** Whether eight items of a SHEET from i on are these (-1 .. 999), as tells() finds of a SHEET of their own. */
  private static void items(InTheOldOne x, int sheet, int sort, int i, int... due) {
    int spare = sheet == 3 ? 2 : 3;
    x.sheet(spare, sort, 8);
    int n = due.length;
    Due.due("copy(" + sheet + ", " + i + ", " + spare + ", 0, " + n + ")", x.copy(sheet, i, spare, 0, n), n);
    for (int f = 0; f < 8; f++) {
      if (f < n && due[f] >= 0) x.write(0, f, due[f]);
      else if (f < n) x.lose(0, f);
      else x.write(0, f, 0);
    }
    Due.due("the items of SHEET " + sheet + " from " + i + " on, otherwise", x.tells(spare, 0, 0, 0), 0);
  }

  private static void sheetOfN() {
    Due.of("29. A SHEET becomes a row of n of a sort: 1");
    InTheOldOne x = new InTheOldOne();
    for (int n = 0; n <= 40; n++) {
      for (int sort = 0; sort < 3; sort++) {
        Due.due("sheet(1, " + sort + ", " + n + ")", x.sheet(1, sort, n), 1);
        if (n > 0) Due.due("cell(1, " + (n - 1) + ", 1)", x.cell(1, n - 1, 1), 1);
        Due.due("cell(1, " + n + ", 1)", x.cell(1, n, 1), -12);
      }
    }
    Due.due("cell(0, 0, 0), of another SHEET", x.cell(0, 0, 0), -11);
    Due.due("cell(2, 0, 0), of another SHEET", x.cell(2, 0, 0), -11);
  }

  private static void sheetAllZero() {
    Due.of("29. all 0");
    for (int sort = 0; sort < 3; sort++) {
      InTheOldOne x = cloud();
      x.sheet(0, sort, 8);
      items(x, 0, sort, 0, 0, 0, 0, 0, 0, 0, 0, 0);
      for (int i = 0; i < 8; i++) x.cell(0, i, 50 + i);
      items(x, 0, sort, 0, 50, 51, 52, 53, 54, 55, 56, 57);
      x.sheet(0, sort, 4);
      items(x, 0, sort, 0, 0, 0, 0, 0);
      x.sheet(0, sort, 8);
      items(x, 0, sort, 0, 0, 0, 0, 0, 0, 0, 0, 0);
      x.cell(0, 7, 5);
      x.sheet(0, -1, 0);
      x.sheet(0, sort, 8);
      items(x, 0, sort, 0, 0, 0, 0, 0, 0, 0, 0, 0);
    }
  }

  private static void sheetMissing() {
    Due.of("29. or missing (sort -1: n does not matter): 1");
    int[] any = {LEAST, -1, 0, 1, 40, 41, MOST};
    for (int n : any) {
      InTheOldOne x = new InTheOldOne();
      Due.due("sheet(0, -1, " + n + "), missing already", x.sheet(0, -1, n), 1);
      x.sheet(0, 2, 8);
      Due.due("sheet(0, -1, " + n + ")", x.sheet(0, -1, n), 1);
      Due.due("cell(0, 0, 0)", x.cell(0, 0, 0), -11);
    }
  }

  private static void sheetRefused() {
    Due.of("29. BAD: no such SHEET, sort; n above 40; -14");
    InTheOldOne x = new InTheOldOne();
    x.sheet(0, 0, 2);
    int[] noSort = {LEAST, -2, 3, MOST};
    int[] above = {41, 42, MOST};
    int[] below = {-1, -2, LEAST};
    for (int s : NO_SHEET) for (int sort = -1; sort < 3; sort++) Due.due("sheet(" + s + ", " + sort + ", 1)", x.sheet(s, sort, 1), -2);
    for (int sort : noSort) Due.due("sheet(0, " + sort + ", 1)", x.sheet(0, sort, 1), -2);
    for (int n : above) for (int sort = 0; sort < 3; sort++) Due.due("sheet(0, " + sort + ", " + n + ")", x.sheet(0, sort, n), -2);
    for (int n : below) for (int sort = 0; sort < 3; sort++) Due.due("sheet(0, " + sort + ", " + n + ")", x.sheet(0, sort, n), -14);
    Due.of("29. BAD; -14: BAD is named first");
    for (int n : below) for (int s : NO_SHEET) Due.due("sheet(" + s + ", 0, " + n + ")", x.sheet(s, 0, n), -2);
    for (int n : below) for (int sort : noSort) Due.due("sheet(0, " + sort + ", " + n + ")", x.sheet(0, sort, n), -2);
    Due.of("29. (a refusal changes nothing)");
    Due.due("cell(0, 1, 1)", x.cell(0, 1, 1), 1);
    Due.due("cell(0, 2, 1)", x.cell(0, 2, 1), -12);
    Due.due("disks(0, 0, 0, 0)", x.disks(0, 0, 0, 0), 0);
  }

  private static void cellIs(int sort, int v, int due) {
    InTheOldOne x = cloud();
    x.sheet(0, sort, 1);
    Due.due("cell(0, 0, " + v + ") of sort " + sort, x.cell(0, 0, v), 1);
    items(x, 0, sort, 0, due);
  }

  private static void cellLowestBits() {
    Due.of("30. becomes v (of bytes, shorts its lowest 8, 16 bits)");
    cellIs(0, 0, 0);
    cellIs(0, 127, 127);
    cellIs(0, 255, -1);
    cellIs(0, 256, 0);
    cellIs(0, 256 + 127, 127);
    cellIs(0, -1, -1);
    cellIs(0, -129, 127);
    cellIs(0, -256, 0);
    cellIs(0, LEAST, 0);
    cellIs(0, MOST, -1);
    cellIs(0, 65536 + 5, 5);
    cellIs(1, 0, 0);
    cellIs(1, 128, 128);
    cellIs(1, 255, 255);
    cellIs(1, 256, 256);
    cellIs(1, 999, 999);
    cellIs(1, 65535, -1);
    cellIs(1, 65536, 0);
    cellIs(1, 65536 + 999, 999);
    cellIs(1, -65536 + 7, 7);
    cellIs(1, -1, -1);
    cellIs(1, LEAST, 0);
    cellIs(1, MOST, -1);
    cellIs(2, 0, 0);
    cellIs(2, 999, 999);
    cellIs(2, -1, -1);
    // These are none of -1 .. 999: what is there is otherwise.
    int[][] none = {{0, 128}, {0, 254}, {0, -2}, {0, -128}, {1, 32768}, {1, 65534}, {1, 32767}, {1, 1000}, {2, 256 * 256},
        {2, 65536 + 5}, {2, LEAST}, {2, MOST}, {2, 65535}, {2, 1 << 24}};
    for (int[] n : none) {
      InTheOldOne x = cloud();
      x.sheet(0, n[0], 8);
      x.cell(0, 0, n[1]);
      int[] contents = {0, 1, 5, 126, 127, 128, 254, 255, 256, 999};
      for (int content : contents) {
        x.write(0, 0, content);
        Due.due("tells() of " + n[1] + " of sort " + n[0] + ", with " + content, x.tells(0, 0, 0, 0) & 1, 1);
      }
      x.lose(0, 0);
      Due.due("tells() of " + n[1] + " of sort " + n[0], x.tells(0, 0, 0, 0) & 1, 1);
    }
  }

  private static void cellPlaces() {
    Due.of("30. Item i of a SHEET: 1. -12");
    InTheOldOne x = cloud();
    x.sheet(0, 1, 8);
    for (int i = 0; i < 8; i++) Due.due("cell(0, " + i + ", 1)", x.cell(0, i, 10 * i), 1);
    items(x, 0, 1, 0, 0, 10, 20, 30, 40, 50, 60, 70);
    int[] outside = {LEAST, -1, 8, 9, 39, 40, 41, MOST};
    for (int i : outside) Due.due("cell(0, " + i + ", 1)", x.cell(0, i, 1), -12);
    items(x, 0, 1, 0, 0, 10, 20, 30, 40, 50, 60, 70);
    x.sheet(0, 1, 0);
    Due.due("cell(0, 0, 1), a row of none", x.cell(0, 0, 1), -12);
    x.sheet(0, 1, 40);
    Due.due("cell(0, 39, 7)", x.cell(0, 39, 7), 1);
    Due.due("cell(0, 40, 7)", x.cell(0, 40, 7), -12);
    items(x, 0, 1, 39, 7);
  }

  private static void cellRefused() {
    Due.of("30. BAD: no such SHEET; -11; -12");
    InTheOldOne x = new InTheOldOne();
    int[] places = {LEAST, -1, 0, 40, MOST};
    for (int i : places) {
      for (int s : NO_SHEET) Due.due("cell(" + s + ", " + i + ", 0)", x.cell(s, i, 0), -2);
      for (int s = 0; s < 4; s++) Due.due("cell(" + s + ", " + i + ", 0)", x.cell(s, i, 0), -11);
    }
  }

  private static void copyNumbers() {
    Due.of("31. n numbers of a SHEET, from item i on, come to another one's item j on: n");
    for (int sort = 0; sort < 3; sort++) {
      InTheOldOne x = cloud();
      Due.sheet(x, 0, sort, 1, 2, 3, 4, 5, 6, 7, 8);
      Due.sheet(x, 1, sort, 11, 12, 13, 14, 15, 16, 17, 18);
      Due.due("copy(0, 0, 1, 0, 0)", x.copy(0, 0, 1, 0, 0), 0);
      items(x, 1, sort, 0, 11, 12, 13, 14, 15, 16, 17, 18);
      Due.due("copy(0, 0, 1, 7, 1)", x.copy(0, 0, 1, 7, 1), 1);
      items(x, 1, sort, 0, 11, 12, 13, 14, 15, 16, 17, 1);
      Due.due("copy(0, 7, 1, 0, 1)", x.copy(0, 7, 1, 0, 1), 1);
      items(x, 1, sort, 0, 8, 12, 13, 14, 15, 16, 17, 1);
      Due.due("copy(0, 2, 1, 3, 3)", x.copy(0, 2, 1, 3, 3), 3);
      items(x, 1, sort, 0, 8, 12, 13, 3, 4, 5, 17, 1);
      items(x, 0, sort, 0, 1, 2, 3, 4, 5, 6, 7, 8);
      Due.due("copy(0, 0, 1, 0, 8)", x.copy(0, 0, 1, 0, 8), 8);
      items(x, 1, sort, 0, 1, 2, 3, 4, 5, 6, 7, 8);
    }
  }

  private static void copyAsTheyWere() {
    Due.of("31. (as they were)");
    InTheOldOne x = cloud();
    Due.sheet(x, 0, 2, 1, 2, 3, 4, 5, 6, 7, 8);
    Due.due("copy(0, 0, 0, 1, 7), onto itself", x.copy(0, 0, 0, 1, 7), 7);
    items(x, 0, 2, 0, 1, 1, 2, 3, 4, 5, 6, 7);
    Due.sheet(x, 0, 2, 1, 2, 3, 4, 5, 6, 7, 8);
    Due.due("copy(0, 1, 0, 0, 7), onto itself", x.copy(0, 1, 0, 0, 7), 7);
    items(x, 0, 2, 0, 2, 3, 4, 5, 6, 7, 8, 8);
    Due.due("copy(0, 0, 0, 0, 8), where they are", x.copy(0, 0, 0, 0, 8), 8);
    items(x, 0, 2, 0, 2, 3, 4, 5, 6, 7, 8, 8);
  }

  private static void copyPlaces() {
    Due.of("31. -12 (also with n below 0)");
    InTheOldOne x = cloud();
    Due.sheet(x, 0, 1, 1, 2, 3, 4);
    Due.sheet(x, 1, 1, 11, 12, 13);
    int[][] outside = {{0, 0, -1}, {0, 0, LEAST}, {-1, 0, 1}, {0, -1, 1}, {LEAST, 0, 1}, {0, LEAST, 1}, {-1, 0, 0}, {0, -1, 0},
        {5, 0, 0}, {0, 4, 0}, {4, 0, 1}, {0, 3, 1}, {1, 0, 4}, {0, 0, 4}, {0, 1, 3}, {2, 0, 3}, {MOST, 0, 1}, {0, MOST, 1},
        {MOST, 0, 0}, {0, MOST, 0}, {0, 0, MOST}, {1, 1, MOST}, {MOST, MOST, MOST}, {LEAST, LEAST, LEAST}, {MOST, 0, LEAST},
        {4, 3, -1}, {5, 4, -1}, {1, 0, -1}, {0, 1, -1}};
    for (int[] o : outside) Due.due("copy(0, " + o[0] + ", 1, " + o[1] + ", " + o[2] + ")", x.copy(0, o[0], 1, o[1], o[2]), -12);
    items(x, 1, 1, 0, 11, 12, 13);
    int[][] inside = {{4, 3, 0}, {0, 0, 0}, {4, 0, 0}, {0, 3, 0}, {3, 2, 1}, {1, 0, 3}, {0, 0, 3}};
    for (int[] i : inside) Due.due("copy(0, " + i[0] + ", 1, " + i[1] + ", " + i[2] + ")", x.copy(0, i[0], 1, i[1], i[2]), i[2]);
    items(x, 1, 1, 0, 1, 2, 3);
    x.sheet(2, 1, 0);
    Due.due("copy(2, 0, 2, 0, 0), of none", x.copy(2, 0, 2, 0, 0), 0);
    Due.due("copy(2, 0, 2, 0, 1), of none", x.copy(2, 0, 2, 0, 1), -12);
    x.sheet(2, 1, 40);
    Due.due("copy(2, 0, 2, 0, 40)", x.copy(2, 0, 2, 0, 40), 40);
    Due.due("copy(2, 0, 2, 0, 41)", x.copy(2, 0, 2, 0, 41), -12);
    Due.due("copy(2, 1, 2, 0, 40)", x.copy(2, 1, 2, 0, 40), -12);
    Due.due("copy(2, 39, 2, 0, 1)", x.copy(2, 39, 2, 0, 1), 1);
  }

  private static void copyRefused() {
    Due.of("31. BAD: no such SHEET");
    InTheOldOne x = new InTheOldOne();
    x.sheet(0, 0, 4);
    x.sheet(1, 1, 4);
    x.sheet(2, 2, 4);
    for (int s : NO_SHEET) {
      Due.due("copy(" + s + ", 0, 0, 0, 1)", x.copy(s, 0, 0, 0, 1), -2);
      Due.due("copy(0, 0, " + s + ", 0, 1)", x.copy(0, 0, s, 0, 1), -2);
      Due.of("31. BAD; -11; -13; -12: BAD is named first");
      Due.due("copy(" + s + ", 0, 3, 0, 1)", x.copy(s, 0, 3, 0, 1), -2);
      Due.due("copy(3, 0, " + s + ", 0, 1)", x.copy(3, 0, s, 0, 1), -2);
      Due.due("copy(0, 9, " + s + ", 9, -1)", x.copy(0, 9, s, 9, -1), -2);
    }
    Due.of("31. -11");
    Due.due("copy(3, 0, 0, 0, 1)", x.copy(3, 0, 0, 0, 1), -11);
    Due.due("copy(0, 0, 3, 0, 1)", x.copy(0, 0, 3, 0, 1), -11);
    Due.due("copy(3, 0, 3, 0, 0)", x.copy(3, 0, 3, 0, 0), -11);
    Due.of("31. -11; -12: -11 is named first");
    Due.due("copy(3, 9, 0, 0, 1)", x.copy(3, 9, 0, 0, 1), -11);
    Due.due("copy(0, 0, 3, 0, -1)", x.copy(0, 0, 3, 0, -1), -11);
    Due.due("copy(0, 9, 3, 0, 1)", x.copy(0, 9, 3, 0, 1), -11);
    Due.of("31. -13: they are of unlike sorts");
    for (int s = 0; s < 3; s++) {
      for (int t = 0; t < 3; t++) Due.due("copy(" + s + ", 0, " + t + ", 0, 1)", x.copy(s, 0, t, 0, 1), s == t ? 1 : -13);
      for (int t = 0; t < 3; t++) Due.due("copy(" + s + ", 0, " + t + ", 0, 0)", x.copy(s, 0, t, 0, 0), s == t ? 0 : -13);
    }
    Due.of("31. -13; -12: -13 is named first");
    Due.due("copy(0, 9, 1, 0, 1)", x.copy(0, 9, 1, 0, 1), -13);
    Due.due("copy(0, 0, 1, 9, 1)", x.copy(0, 0, 1, 9, 1), -13);
    Due.due("copy(0, 0, 1, 0, -1)", x.copy(0, 0, 1, 0, -1), -13);
  }

  private static void disksTwoByTwo() {
    Due.of("32. DISKS by a SHEET that is taken for one of a sort: from one on, two by two (as of disk()), n of them");
    for (int sort = 0; sort < 3; sort++) {
      InTheOldOne x = new InTheOldOne();
      x.set(0, 0, 77);
      Due.sheet(x, 0, sort, 9, 5, 9, 4, 8, 0, 7);
      Due.due("disks(0, " + sort + ", 1, 3)", x.disks(0, sort, 1, 3), 3);
      int[] kinds = {5, 4, 0};
      for (int d = 0; d < 3; d++) {
        Due.due("told(" + d + ", 3)", x.told(d, 3), kinds[d]);
        Due.due("told(" + d + ", 1)", x.told(d, 1), 9 - d);
        Due.due("told(" + d + ", 2)", x.told(d, 2), 77);
      }
      Due.due("disks(0, " + sort + ", 5, 1), the last two", x.disks(0, sort, 5, 1), 1);
      Due.due("told(3, 1)", x.told(3, 1), 7);
      Due.due("count(0)", x.count(0), 4);
    }
  }

  private static void disksLeftOut() {
    Due.of("32. how many came (others are left out)");
    InTheOldOne x = new InTheOldOne();
    Due.sheet(x, 0, 2, 6, 0, 0, 10, -1, 0, 0, -1, MOST, LEAST, 3, 2);
    Due.due("disks(0, 2, 0, 6): KIND or NUMBER is none", x.disks(0, 2, 0, 6), 1);
    Due.due("count(0)", x.count(0), 1);
    Due.due("told(0, 3)", x.told(0, 3), 3);
    Due.due("disks(0, 2, 0, 5): none", x.disks(0, 2, 0, 5), 0);
    x.sheet(0, 2, 12);
    for (int i = 0; i < 4; i++) x.disk(0, 0);
    Due.due("disks(0, 2, 0, 6): one has room", x.disks(0, 2, 0, 6), 1);
    Due.due("disks(0, 2, 0, 6): none has room", x.disks(0, 2, 0, 6), 0);
    Due.due("count(0)", x.count(0), 6);
  }

  private static void disksHowMany() {
    Due.of("32. n of them (0 .. 6)");
    for (int n = -1; n < 8; n++) {
      InTheOldOne x = new InTheOldOne();
      x.sheet(0, 0, 40);
      Due.due("disks(0, 0, 0, " + n + ")", x.disks(0, 0, 0, n), n < 0 || n > 6 ? -2 : n);
      Due.due("count(0)", x.count(0), n < 0 || n > 6 ? 0 : n);
    }
    InTheOldOne x = new InTheOldOne();
    x.sheet(0, 0, 0);
    Due.due("disks(0, 0, 0, 0), a row of none", x.disks(0, 0, 0, 0), 0);
    Due.due("disks(0, 0, 0, 1), a row of none", x.disks(0, 0, 0, 1), -12);
    Due.due("disks(0, 0, 0, least)", x.disks(0, 0, 0, LEAST), -2);
    Due.due("disks(0, 0, 0, greatest)", x.disks(0, 0, 0, MOST), -2);
  }

  private static void outside(int from, int n, int came) {
    InTheOldOne x = new InTheOldOne();
    Due.sheet(x, 0, 1, 0, 1, 2, 3, 4, 5, 6);
    Due.due("disks(0, 1, " + from + ", " + n + ")", x.disks(0, 1, from, n), -12);
    Due.due("count(0): what stood ahead", x.count(0), came);
  }

  private static void disksOutside() {
    Due.of("32. -12: what stood ahead came");
    outside(0, 4, 3);
    outside(0, 6, 3);
    outside(1, 4, 3);
    outside(5, 2, 1);
    outside(6, 1, 0);
    outside(7, 1, 0);
    outside(8, 1, 0);
    outside(40, 1, 0);
    outside(-1, 1, 0);
    outside(-1, 3, 0);
    outside(-2, 6, 0);
    outside(LEAST, 1, 0);
    outside(LEAST, 6, 0);
    outside(MOST, 1, 0);
    outside(MOST, 6, 0);
    outside(MOST - 1, 6, 0);
    InTheOldOne x = new InTheOldOne();
    Due.sheet(x, 0, 1, 0, 1, 2, 3, 4, 5, 6);
    Due.due("disks(0, 1, 0, 3), till the last whole row", x.disks(0, 1, 0, 3), 3);
    Due.due("told(2, 3)", x.told(2, 3), 4);
    for (int i = 0; i < 3; i++) x.disk(0, 0);
    Due.due("disks(0, 1, 0, 4): -12, though none has room", x.disks(0, 1, 0, 4), -12);
    x.sheet(0, 1, 40);
    Due.due("disks(0, 1, 38, 1)", x.disks(0, 1, 38, 1), 0);
    Due.due("disks(0, 1, 39, 1)", x.disks(0, 1, 39, 1), -12);
    Due.due("disks(0, 1, 38, 2)", x.disks(0, 1, 38, 2), -12);
  }

  private static void disksRefused() {
    Due.of("32. BAD: no such SHEET, sort, n");
    InTheOldOne x = new InTheOldOne();
    x.sheet(0, 1, 12);
    int[] noSort = {LEAST, -1, 3, MOST};
    int[] noN = {LEAST, -1, 7, MOST};
    for (int s : NO_SHEET) Due.due("disks(" + s + ", 1, 0, 1)", x.disks(s, 1, 0, 1), -2);
    for (int sort : noSort) Due.due("disks(0, " + sort + ", 0, 1)", x.disks(0, sort, 0, 1), -2);
    for (int n : noN) Due.due("disks(0, 1, 0, " + n + ")", x.disks(0, 1, 0, n), -2);
    Due.of("32. BAD; -13; -11; -12: BAD is named first");
    for (int sort : noSort) Due.due("disks(1, " + sort + ", 0, 1), missing", x.disks(1, sort, 0, 1), -2);
    for (int n : noN) Due.due("disks(1, 1, 0, " + n + "), missing", x.disks(1, 1, 0, n), -2);
    for (int n : noN) Due.due("disks(0, 0, 0, " + n + "), another sort", x.disks(0, 0, 0, n), -2);
    for (int n : noN) Due.due("disks(0, 1, -1, " + n + "), outside", x.disks(0, 1, -1, n), -2);
    Due.of("32. -13");
    for (int sort = 0; sort < 3; sort += 2) {
      Due.due("disks(0, " + sort + ", 0, 1)", x.disks(0, sort, 0, 1), -13);
      Due.due("disks(0, " + sort + ", 0, 0), none of them", x.disks(0, sort, 0, 0), -13);
      Due.due("disks(0, " + sort + ", 99, 1): -13 ahead of -12", x.disks(0, sort, 99, 1), -13);
    }
    Due.of("32. -11");
    for (int sort = 0; sort < 3; sort++) {
      Due.due("disks(1, " + sort + ", 0, 1)", x.disks(1, sort, 0, 1), -11);
      Due.due("disks(1, " + sort + ", 0, 0), none of them", x.disks(1, sort, 0, 0), -11);
      Due.due("disks(1, " + sort + ", 99, 1): -11 ahead of -12", x.disks(1, sort, 99, 1), -11);
    }
    Due.due("count(0)", x.count(0), 0);
  }

  private static void taken() {
    Due.of("33. A DISK taken for one of KIND k (0 .. 5), or one under that one (also by others between): its NUMBER. -13");
    int[] under = {0b000001, 0b000011, 0b000101, 0b001011, 0b010101, 0b100001};
    for (int kind = 0; kind < 6; kind++) {
      for (int number = 0; number < 10; number += 9) {
        InTheOldOne x = new InTheOldOne();
        x.disk(kind, number);
        x.set(0, 0, 999);
        for (int k = 0; k < 6; k++) {
          int due = (under[kind] >> k & 1) == 1 ? number : -13;
          Due.due("taken(0, " + k + ") of KIND " + kind, x.taken(0, k), due);
        }
        x.set(1, 0, 5);
        Due.due("taken(0, " + kind + "), its NUMBER now", x.taken(0, kind), 5);
      }
    }
  }

  private static void takenRefused() {
    Due.of("33. BAD: k; -11: no such DISK");
    InTheOldOne x = cloud();
    int[] noK = {LEAST, -1, 6, 7, MOST};
    int[] noDisk = {LEAST, -1, 1, 5, 6, MOST};
    for (int k : noK) Due.due("taken(0, " + k + ")", x.taken(0, k), -2);
    for (int d : noDisk) for (int k = 0; k < 6; k++) Due.due("taken(" + d + ", " + k + ")", x.taken(d, k), -11);
    Due.of("33. BAD; -11: BAD is named first");
    for (int k : noK) for (int d : noDisk) Due.due("taken(" + d + ", " + k + ")", x.taken(d, k), -2);
  }
}
