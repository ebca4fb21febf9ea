/** Promises 29 to 33: sheet, cell, copy, disks, taken. */
public final class HostTest {
  public static void main(String[] args) {
    sheet();
    cell();
    copy();
    copyRefused();
    disks();
    disksRefused();
    taken();
    Due.end();
  }

  private static void sheet() {
    InTheOldOne x = new InTheOldOne();
    Due.due("sheet(-1, 0, 0)", x.sheet(-1, 0, 0), -2);
    Due.due("sheet(4, 0, 0)", x.sheet(4, 0, 0), -2);
    Due.due("sheet(0, -2, 0)", x.sheet(0, -2, 0), -2);
    Due.due("sheet(0, 3, 0)", x.sheet(0, 3, 0), -2);
    Due.due("sheet(0, 0, 41)", x.sheet(0, 0, 41), -2);
    Due.due("sheet(0, 0, -1)", x.sheet(0, 0, -1), -14);
    Due.due("sheet(0, 3, -1): BAD is first", x.sheet(0, 3, -1), -2);
    Due.due("sheet(4, 0, -1): BAD is first", x.sheet(4, 0, -1), -2);
    Due.due("cell(0, 0, 0), still missing", x.cell(0, 0, 0), -11);
    Due.due("sheet(0, 2, 40)", x.sheet(0, 2, 40), 1);
    Due.due("cell(0, 39, 5)", x.cell(0, 39, 5), 1);
    Due.due("sheet(0, 2, 41)", x.sheet(0, 2, 41), -2);
    Due.due("cell(0, 39, 5), as it was", x.cell(0, 39, 5), 1);
    Due.due("sheet(0, 2, 0)", x.sheet(0, 2, 0), 1);
    Due.due("cell(0, 0, 5)", x.cell(0, 0, 5), -12);
    Due.due("sheet(0, -1, 99)", x.sheet(0, -1, 99), 1);
    Due.due("cell(0, 0, 5)", x.cell(0, 0, 5), -11);
    Due.due("sheet(0, -1, -99), missing before", x.sheet(0, -1, -99), 1);
    // All 0, whatever was there: the rows tell 0 and 0, one and the same.
    x.disk(2, 0);
    x.disk(2, 0);
    Due.sheet(x, 1, 1, 0, 1, 0, 1);
    Due.due("plan(1, 0)", x.plan(1, 0), -1);
    Due.due("sheet(1, 1, 4)", x.sheet(1, 1, 4), 1);
    Due.due("plan(1, 0)", x.plan(1, 0), 0);
    Due.sheet(x, 1, 1, 1, 2, 3, 4, 5, 6, 7, 8);
    x.sheet(1, 1, 4);
    x.sheet(1, 1, 8);
    for (int file = 0; file < 8; file++) x.write(0, file, 0);
    Due.due("tells(1, 0, 1, 0), all 0", x.tells(1, 0, 1, 0), 0);
  }

  private static void cell() {
    InTheOldOne x = new InTheOldOne();
    x.disk(2, 0);
    Due.due("cell(-1, 0, 0)", x.cell(-1, 0, 0), -2);
    Due.due("cell(4, 0, 0)", x.cell(4, 0, 0), -2);
    Due.due("cell(0, 0, 0)", x.cell(0, 0, 0), -11);
    x.sheet(0, 0, 3);
    Due.due("cell(0, -1, 0)", x.cell(0, -1, 0), -12);
    Due.due("cell(0, 3, 0)", x.cell(0, 3, 0), -12);
    Due.due("cell(0, 2, 0)", x.cell(0, 2, 0), 1);
    kept(0, 255, -1);
    kept(0, 256, 0);
    kept(0, 127, 127);
    kept(0, 128, -128);
    kept(0, 127 + 512, 127);
    kept(0, -129, 127);
    kept(1, 65535, -1);
    kept(1, 65536 + 999, 999);
    kept(1, 32767, 32767);
    kept(1, 32768, -32768);
    kept(1, 255, 255);
    kept(2, 65536 + 999, 65536 + 999);
    kept(2, Integer.MIN_VALUE, Integer.MIN_VALUE);
    kept(2, -1, -1);
  }

  /** What a cell becomes is seen by what tells() finds: FILE 0 holds it (NONE for -1), or nothing does. */
  private static void kept(int sort, int v, int kept) {
    InTheOldOne x = new InTheOldOne();
    x.disk(2, 0);
    if (kept >= 0 && kept <= 999) x.write(0, 0, kept);
    Due.sheet(x, 0, sort, v, -1, -1, -1, -1, -1, -1, -1);
    boolean seen = kept >= -1 && kept <= 999;
    Due.due("tells() behind cell(0, 0, " + v + ") of sort " + sort, x.tells(0, 0, 0, 0), seen ? 0 : 1);
  }

  private static void copy() {
    InTheOldOne x = new InTheOldOne();
    for (int i = 0; i < 4; i++) x.disk(2, 0);
    Due.sheet(x, 0, 1, 0, 1, 2, 3, 9);
    Due.sheet(x, 1, 1, 7, 7, 7, 7);
    Due.due("copy(0, 0, 1, 0, 0)", x.copy(0, 0, 1, 0, 0), 0);
    Due.due("plan(1, 0)", x.plan(1, 0), -2);
    Due.due("copy(0, 0, 1, 0, 4)", x.copy(0, 0, 1, 0, 4), 4);
    Due.due("plan(1, 0)", x.plan(1, 0), -1);
    Due.due("copy(0, 0, 1, 1, 2)", x.copy(0, 0, 1, 1, 2), 2);
    Due.due("plan(1, 0): 0 0 1 3", x.plan(1, 0), 0);
    Due.due("copy(0, 5, 1, 4, 0), at the ends", x.copy(0, 5, 1, 4, 0), 0);
    Due.due("copy(0, 4, 1, 3, 1)", x.copy(0, 4, 1, 3, 1), 1);
    Due.due("plan(1, 0): 9 is no disk", x.plan(1, 0), -2);
    // Onto itself: as they were, whichever way.
    shifted(1, 0, new int[] {10, 10, 11, 12, 13, 14, 15, 17});
    shifted(0, 1, new int[] {11, 12, 13, 14, 15, 16, 16, 17});
  }

  private static void shifted(int j, int i, int[] due) {
    InTheOldOne x = new InTheOldOne();
    x.disk(2, 0);
    Due.sheet(x, 0, 1, 10, 11, 12, 13, 14, 15, 16, 17);
    Due.due("copy(0, " + i + ", 0, " + j + ", 6)", x.copy(0, i, 0, j, 6), 6);
    for (int file = 0; file < 8; file++) x.write(0, file, due[file]);
    Due.due("tells(0, 0, 0, 0)", x.tells(0, 0, 0, 0), 0);
  }

  private static void copyRefused() {
    InTheOldOne x = new InTheOldOne();
    x.sheet(0, 1, 4);
    x.sheet(1, 1, 3);
    x.sheet(2, 2, 4);
    Due.due("copy(-1, ..)", x.copy(-1, 0, 0, 0, 1), -2);
    Due.due("copy(.., 4, ..)", x.copy(0, 0, 4, 0, 1), -2);
    Due.due("copy(4, 0, 3, ..): BAD is first", x.copy(4, 0, 3, 0, 1), -2);
    Due.due("copy(3, ..), missing", x.copy(3, 0, 0, 0, 1), -11);
    Due.due("copy(.., 3, ..), missing", x.copy(0, 0, 3, 0, 1), -11);
    Due.due("copy(3, 9, 0, 9, -1), missing", x.copy(3, 9, 0, 9, -1), -11);
    Due.due("unlike sorts", x.copy(0, 0, 2, 0, 1), -13);
    Due.due("unlike sorts, ahead of outside", x.copy(0, 9, 2, 0, -1), -13);
    Due.due("n -1", x.copy(0, 0, 1, 0, -1), -12);
    Due.due("i -1", x.copy(0, -1, 1, 0, 1), -12);
    Due.due("j -1", x.copy(0, 0, 1, -1, 1), -12);
    Due.due("i 5, n 0", x.copy(0, 5, 1, 0, 0), -12);
    Due.due("j 4, n 0", x.copy(0, 0, 1, 4, 0), -12);
    Due.due("n 4 into 3", x.copy(0, 0, 1, 0, 4), -12);
    Due.due("n 4 out of 3", x.copy(1, 0, 0, 0, 4), -12);
    Due.due("greatest n", x.copy(0, 1, 1, 1, Integer.MAX_VALUE), -12);
    Due.due("greatest i", x.copy(0, Integer.MAX_VALUE, 1, 0, 1), -12);
    Due.due("greatest j", x.copy(0, 0, 1, Integer.MAX_VALUE, 1), -12);
    Due.due("least n", x.copy(0, 0, 1, 0, Integer.MIN_VALUE), -12);
  }

  private static void disks() {
    InTheOldOne x = new InTheOldOne();
    Due.sheet(x, 0, 2, 99, 5, 8, 6, 0, 0, 10, 1, 1);
    Due.due("disks(0, 2, 1, 4)", x.disks(0, 2, 1, 4), 2);
    Due.due("count(0)", x.count(0), 2);
    Due.due("told(0, 3)", x.told(0, 3), 5);
    Due.due("told(0, 1)", x.told(0, 1), 8);
    Due.due("told(1, 3)", x.told(1, 3), 1);
    Due.due("disks(0, 2, 99, 0), none of them", x.disks(0, 2, 99, 0), 0);
    Due.due("disks(0, 2, -5, 0), none of them", x.disks(0, 2, -5, 0), 0);
    Due.due("disks(0, 2, 7, 2): what stood ahead came", x.disks(0, 2, 7, 2), -12);
    Due.due("count(0)", x.count(0), 3);
    Due.due("disks(0, 2, 8, 1): a KIND without a NUMBER", x.disks(0, 2, 8, 1), -12);
    Due.due("count(0)", x.count(0), 3);
    Due.due("disks(0, 2, -1, 2)", x.disks(0, 2, -1, 2), -12);
    Due.due("disks(0, 2, greatest, 1)", x.disks(0, 2, Integer.MAX_VALUE, 1), -12);
    Due.due("disks(0, 2, least, 6)", x.disks(0, 2, Integer.MIN_VALUE, 6), -12);
    x.sheet(1, 0, 12);
    x.set(0, 0, 50);
    Due.due("disks(1, 0, 0, 6): three have a place", x.disks(1, 0, 0, 6), 3);
    Due.due("told(5, 2)", x.told(5, 2), 50);
    Due.due("disks(1, 0, 0, 6): none has", x.disks(1, 0, 0, 6), 0);
    Due.due("disks(1, 0, 2, 6)", x.disks(1, 0, 2, 6), -12);
  }

  private static void disksRefused() {
    InTheOldOne x = new InTheOldOne();
    x.sheet(0, 1, 12);
    Due.due("disks(-1, ..)", x.disks(-1, 1, 0, 1), -2);
    Due.due("disks(4, ..)", x.disks(4, 1, 0, 1), -2);
    Due.due("sort -1", x.disks(0, -1, 0, 1), -2);
    Due.due("sort 3", x.disks(0, 3, 0, 1), -2);
    Due.due("n -1", x.disks(0, 1, 0, -1), -2);
    Due.due("n 7", x.disks(0, 1, 0, 7), -2);
    Due.due("n 7, missing: BAD is first", x.disks(1, 1, 0, 7), -2);
    Due.due("sort 0 for 1", x.disks(0, 0, 0, 1), -13);
    Due.due("sort 2 for 1, n 0", x.disks(0, 2, 0, 0), -13);
    for (int sort = 0; sort < 3; sort++) Due.due("missing, sort " + sort, x.disks(1, sort, 0, 1), -11);
    Due.due("missing, n 0", x.disks(1, 0, 0, 0), -11);
    Due.due("count(0)", x.count(0), 0);
  }

  private static void taken() {
    InTheOldOne x = new InTheOldOne();
    for (int kind = 0; kind < 6; kind++) x.disk(kind, 9 - kind);
    int[] under = {0b000001, 0b000011, 0b000101, 0b001011, 0b010101, 0b100001};
    for (int kind = 0; kind < 6; kind++) {
      for (int k = 0; k < 6; k++) {
        int due = (under[kind] >> k & 1) != 0 ? 9 - kind : -13;
        Due.due("taken(" + kind + ", " + k + ")", x.taken(kind, k), due);
      }
    }
    Due.due("taken(6, 0)", x.taken(6, 0), -11);
    Due.due("taken(-1, 0)", x.taken(-1, 0), -11);
    Due.due("taken(0, 6)", x.taken(0, 6), -2);
    Due.due("taken(0, -1)", x.taken(0, -1), -2);
    Due.due("taken(6, 6): BAD is first", x.taken(6, 6), -2);
  }
}
