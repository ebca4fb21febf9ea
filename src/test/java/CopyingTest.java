/** Promises 9 to 14: write, lose, copies, on, newest, all. */
public final class CopyingTest {
  public static void main(String[] args) {
    write();
    room();
    lose();
    copies();
    copiesWithoutRoom();
    copiesByTakes();
    copiesKeep();
    onAndNewest();
    all();
    Due.end();
  }

  private static void write() {
    InTheOldOne x = new InTheOldOne();
    for (int kind = 0; kind < 6; kind++) x.disk(kind, 8);
    x.set(0, 0, 4);
    int[] kept = {999, 999, 999, 899, 999, 990};
    int[] stamps = {4, -4, 4, -2, 5, 0};
    for (int kind = 0; kind < 6; kind++) {
      Due.due("write(" + kind + ", 2, 999)", x.write(kind, 2, 999), kept[kind]);
      Due.due("file(" + kind + ", 2, 0)", x.file(kind, 2, 0), kept[kind]);
      Due.due("file(" + kind + ", 2, 1)", x.file(kind, 2, 1), stamps[kind]);
      Due.due("write(" + kind + ", 2, 7)", x.write(kind, 2, 7), kind == 5 ? 0 : 7);
      Due.due("file(" + kind + ", 2, 0)", x.file(kind, 2, 0), kind == 5 ? 0 : 7);
      Due.due("told(" + kind + ", 7)", x.told(kind, 7), 1);
    }
    Due.due("write(3, 3, 899)", x.write(3, 3, 899), 899);
    Due.due("write(3, 3, 900)", x.write(3, 3, 900), 899);
    Due.due("write(3, 3, 898)", x.write(3, 3, 898), 898);
    Due.due("write(6, 0, 0)", x.write(6, 0, 0), -2);
    Due.due("write(-1, 0, 0)", x.write(-1, 0, 0), -2);
    Due.due("write(0, 8, 0)", x.write(0, 8, 0), -2);
    Due.due("write(0, -1, 0)", x.write(0, -1, 0), -2);
    Due.due("write(0, 0, 1000)", x.write(0, 0, 1000), -2);
    Due.due("write(0, 0, -1)", x.write(0, 0, -1), -2);
    x.set(0, 0, 5);
    Due.due("write(3, 0, 1), an odd day", x.write(3, 0, 1), -3);
    Due.due("write(3, 0, 1000), an odd day", x.write(3, 0, 1000), -2);
    Due.due("file(3, 0, 0)", x.file(3, 0, 0), -1);
  }

  private static void room() {
    InTheOldOne x = new InTheOldOne();
    x.disk(1, 3);
    x.disk(5, 0);
    x.disk(0, 0);
    Due.due("write(0, 0, 1)", x.write(0, 0, 1), 1);
    Due.due("write(0, 1, 1)", x.write(0, 1, 1), 1);
    Due.due("write(0, 2, 1), full", x.write(0, 2, 1), -4);
    Due.due("write(0, 1, 2), over what is there", x.write(0, 1, 2), 2);
    Due.due("write(1, 0, 1), no room at all", x.write(1, 0, 1), -4);
    for (int file = 0; file < 8; file++) Due.due("write(2, " + file + ", 3)", x.write(2, file, 3), 3);
    x.set(1, 0, 0);
    Due.due("told(0, 6)", x.told(0, 6), 1);
    Due.due("told(0, 7): more than have room now", x.told(0, 7), 2);
    Due.due("write(0, 1, 5)", x.write(0, 1, 5), 5);
    x.lose(0, 1);
    Due.due("write(0, 1, 5), gone and no room", x.write(0, 1, 5), -4);
    x.lose(0, 0);
    Due.due("write(0, 1, 5)", x.write(0, 1, 5), 5);
    x.set(0, 0, 21);
    Due.due("write(0, 2, 5): STATE ahead of FULL", x.write(0, 2, 5), -3);
  }

  private static void lose() {
    InTheOldOne x = new InTheOldOne();
    x.disk(0, 0);
    x.write(0, 3, 0);
    Due.due("lose(0, 4)", x.lose(0, 4), -1);
    Due.due("lose(0, 3)", x.lose(0, 3), 0);
    Due.due("lose(0, 3) again", x.lose(0, 3), -1);
    Due.due("file(0, 3, 0)", x.file(0, 3, 0), -1);
    Due.due("file(0, 3, 1)", x.file(0, 3, 1), -100);
    Due.due("lose(1, 0)", x.lose(1, 0), -2);
    Due.due("lose(-1, 0)", x.lose(-1, 0), -2);
    Due.due("lose(0, 8)", x.lose(0, 8), -2);
    Due.due("lose(0, -1)", x.lose(0, -1), -2);
    x.write(0, 3, 9);
    x.set(0, 0, 301);
    Due.due("lose(0, 3), it does not read", x.lose(0, 3), -3);
    Due.due("file(0, 3, 0)", x.file(0, 3, 0), 9);
  }

  private static void copies() {
    InTheOldOne x = new InTheOldOne();
    x.disk(0, 0);
    x.disk(0, 0);
    x.write(0, 0, 1);
    x.write(0, 5, 2);
    x.write(1, 6, 3);
    x.set(0, 0, 9);
    x.write(1, 5, 4);
    Due.due("copies(0, 1)", x.copies(0, 1), 1);
    Due.due("file(1, 0, 0)", x.file(1, 0, 0), 1);
    Due.due("file(1, 0, 1): the STAMP it had", x.file(1, 0, 1), 0);
    Due.due("file(1, 5, 0)", x.file(1, 5, 0), 4);
    Due.due("file(1, 6, 0)", x.file(1, 6, 0), 3);
    Due.due("copies(1, 0)", x.copies(1, 0), 2);
    Due.due("file(0, 5, 0)", x.file(0, 5, 0), 4);
    Due.due("file(0, 5, 1)", x.file(0, 5, 1), 9);
    Due.due("file(0, 6, 1)", x.file(0, 6, 1), 0);
    Due.due("copies(1, 0), nothing new", x.copies(1, 0), 0);
    Due.due("copies(0, 0)", x.copies(0, 0), -2);
    Due.due("copies(0, 2)", x.copies(0, 2), -2);
    Due.due("copies(2, 0)", x.copies(2, 0), -2);
    Due.due("copies(-1, 0)", x.copies(-1, 0), -2);
    Due.due("copies(0, -1)", x.copies(0, -1), -2);
    x.set(2, 1, 500);
    x.set(0, 0, 400);
    Due.due("copies(0, 1), the one does not read", x.copies(0, 1), -3);
    Due.due("copies(1, 0), the other does not read", x.copies(1, 0), -3);
    Due.due("copies(0, 0), neither two nor read", x.copies(0, 0), -2);
  }

  private static void copiesWithoutRoom() {
    InTheOldOne x = new InTheOldOne();
    x.disk(0, 0);
    x.disk(1, 4);
    for (int file = 1; file < 8; file++) x.write(0, file, 10 + file);
    x.write(1, 5, 500);
    // The CARD's clock says -4, so that what it has gives way; it has room for two more: FILES 1 and 2.
    Due.due("copies(0, 1)", x.copies(0, 1), 3);
    Due.due("file(1, 1, 0)", x.file(1, 1, 0), 11);
    Due.due("file(1, 2, 0)", x.file(1, 2, 0), 12);
    Due.due("file(1, 3, 0)", x.file(1, 3, 0), -1);
    Due.due("file(1, 5, 0)", x.file(1, 5, 0), 15);
    Due.due("file(1, 6, 0)", x.file(1, 6, 0), -1);
  }

  /** here, there, same, number, file and day of takes. */
  private static void copiesByTakes() {
    takes("here = -100", 0b10000000);
    takes("here = 0", 0b00000111);
    takes("there = 5", 0b10000111);
    takes("there", 0b10000111);
    takes("same", 0b00000010);
    takes("not same", 0b10000101);
    takes("number = 7", 0b10000111);
    takes("number = 2", 0);
    takes("file = 2 or file = 7", 0b10000100);
    takes("file", 0b10000110);
    takes("day = 9", 0b10000111);
    takes("-1", 0b10000111);
    takes("0", 0);
  }

  /** FILES 0, 1, 2 are on both (1 alike), 7 on the one alone; STAMPS 5 on the one, 0 on the other, THE DAY 9. */
  private static void takes(String takes, int due) {
    InTheOldOne x = new InTheOldOne();
    x.disk(0, 2);
    x.disk(0, 7);
    for (int file = 0; file < 3; file++) x.write(1, file, 100 + file);
    x.set(0, 0, 5);
    for (int file = 0; file < 3; file++) x.write(0, file, file == 1 ? 101 : 200 + file);
    x.write(0, 7, 207);
    x.set(0, 0, 9);
    Due.text(x, "takes " + takes + ";goes 0;worth 0;");
    x.force(1);
    Due.due("copies(0, 1) by takes " + takes, x.copies(0, 1), Integer.bitCount(due));
    for (int file = 0; file < 8; file++) {
      boolean came = (due >> file & 1) != 0;
      int before = file < 3 ? 0 : -100;
      Due.due("STAMP of FILE " + file + " by takes " + takes, x.file(1, file, 1), came ? 5 : before);
    }
  }

  private static void copiesKeep() {
    InTheOldOne x = new InTheOldOne();
    x.disk(2, 0);
    x.disk(3, 9);
    x.disk(5, 9);
    x.set(0, 0, 2);
    x.write(0, 0, 957);
    Due.due("copies(0, 1)", x.copies(0, 1), 1);
    Due.due("file(1, 0, 0)", x.file(1, 0, 0), 899);
    Due.due("file(1, 0, 1)", x.file(1, 0, 1), 2);
    Due.due("copies(0, 2)", x.copies(0, 2), 1);
    Due.due("file(2, 0, 0)", x.file(2, 0, 0), 950);
    Due.due("file(2, 0, 1)", x.file(2, 0, 1), 2);
    // same looks at what comes, not at what would be kept of it: 957 is not 950.
    Due.text(x, "takes not same;goes 0;worth 0;");
    x.force(1);
    Due.due("copies(0, 2), 957 onto 950", x.copies(0, 2), 1);
    x.write(0, 0, 950);
    Due.due("copies(0, 2), 950 onto 950", x.copies(0, 2), 0);
  }

  private static void onAndNewest() {
    InTheOldOne x = new InTheOldOne();
    x.disk(2, 0);
    x.disk(0, 0);
    x.disk(2, 0);
    x.disk(4, 9);
    Due.due("on(8)", x.on(8), -2);
    Due.due("on(-1)", x.on(-1), -2);
    Due.due("on(3)", x.on(3), 0);
    Due.due("newest(3, 0), nothing there", x.newest(3, 0), -1);
    Due.due("newest(3, 1)", x.newest(3, 1), -1);
    Due.due("newest(3, 2)", x.newest(3, 2), -100);
    x.write(0, 3, 30);
    Due.due("newest(3, 0), the first alone", x.newest(3, 0), 0);
    Due.due("newest(3, 1), the first alone", x.newest(3, 1), 30);
    Due.due("newest(3, 2), the first alone", x.newest(3, 2), 0);
    x.set(0, 0, 10);
    x.write(2, 3, 32);
    Due.due("on(3)", x.on(3), 5);
    Due.due("newest(3, 0)", x.newest(3, 0), 2);
    Due.due("newest(3, 1)", x.newest(3, 1), 32);
    Due.due("newest(3, 2)", x.newest(3, 2), 10);
    x.write(1, 3, 31);
    Due.due("on(3)", x.on(3), 7);
    Due.due("newest(3, 0): the first of like ones", x.newest(3, 0), 1);
    x.write(3, 3, 33);
    Due.due("newest(3, 0): the SHARED one's clock is ahead", x.newest(3, 0), 3);
    Due.due("newest(3, 2)", x.newest(3, 2), 11);
    x.set(0, 0, 301);
    Due.due("on(3): disk 1 does not read", x.on(3), 13);
    x.lose(3, 3);
    Due.due("newest(3, 0)", x.newest(3, 0), 2);
    Due.due("newest(8, 0)", x.newest(8, 0), -2);
    Due.due("newest(-1, 0)", x.newest(-1, 0), -2);
    Due.due("newest(0, 3)", x.newest(0, 3), -2);
    Due.due("newest(0, -1)", x.newest(0, -1), -2);
  }

  private static void all() {
    InTheOldOne x = new InTheOldOne();
    Due.due("all(-1)", x.all(-1), -2);
    Due.due("all(9)", x.all(9), -2);
    for (int i = 0; i < 6; i++) x.disk(i == 5 ? 0 : 2, 0);
    for (int i = 0; i < 6; i++) {
      // FILE 0 is on all, FILE 1 on all but the last, .. FILE 5 on the first alone.
      for (int file = 0; file < 6 - i; file++) x.write(i, file, file == 2 ? 50 + i / 3 : 9);
    }
    Due.due("all(0)", x.all(0), 0b100);
    Due.due("all(1)", x.all(1), 0b111111);
    Due.due("all(2)", x.all(2), 0b011111);
    Due.due("all(3)", x.all(3), 0b001111);
    Due.due("all(4)", x.all(4), 0b000111);
    Due.due("all(5)", x.all(5), 0b000011);
    Due.due("all(6)", x.all(6), 0b000001);
    Due.due("all(7)", x.all(7), 0);
    Due.due("all(8)", x.all(8), 21);
    x.write(5, 7, 1);
    x.write(5, 5, 10);
    Due.due("all(0)", x.all(0), 0b100100);
    x.set(0, 0, 301);
    Due.due("all(0): disk 5 does not read", x.all(0), 0b100);
    Due.due("all(6)", x.all(6), 0);
    Due.due("all(7)", x.all(7), 0b10000000);
    Due.due("all(8)", x.all(8), 21);
  }
}
