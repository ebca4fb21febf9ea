/** Promises 1 to 5: a new object, set, disk, told, file. */
public final class DisksTest {
  public static void main(String[] args) {
    newObject();
    set();
    disk();
    told();
    reads();
    file();
    Due.end();
  }

  private static void newObject() {
    InTheOldOne x = new InTheOldOne();
    Due.due("new: count(0)", x.count(0), 0);
    Due.due("new: count(1)", x.count(1), 0);
    Due.due("new: count(2)", x.count(2), 0);
    Due.due("new: count(3)", x.count(3), 1);
    Due.due("new: count(4)", x.count(4), 0);
    Due.due("new: count(5)", x.count(5), 0);
    Due.due("new: told(0, 0)", x.told(0, 0), 0);
    Due.due("new: told(0, 1)", x.told(0, 1), -2);
    Due.due("new: back()", x.back(), -3);
    for (int s = 0; s < 4; s++) Due.due("new: cell", x.cell(s, 0, 0), -11);
    InTheOldOne other = new InTheOldOne();
    x.disk(0, 0);
    Due.due("another object: count(0)", other.count(0), 0);
  }

  private static void set() {
    InTheOldOne x = new InTheOldOne();
    Due.due("set(0, -7, 999)", x.set(0, -7, 999), 0);
    Due.due("set(0, 99, 5)", x.set(0, 99, 5), 999);
    Due.due("set(0, 0, 1000)", x.set(0, 0, 1000), -2);
    Due.due("set(0, 0, -1)", x.set(0, 0, -1), -2);
    Due.due("told(0, 0)", x.told(0, 0), 5);
    Due.due("set(1, 0, 3), no disk", x.set(1, 0, 3), -2);
    Due.due("set(2, 0, 3), no disk", x.set(2, 0, 3), -2);
    x.disk(1, 4);
    Due.due("set(1, 0, 9)", x.set(1, 0, 9), 4);
    Due.due("set(1, 0, 10)", x.set(1, 0, 10), -2);
    Due.due("set(1, 0, -1)", x.set(1, 0, -1), -2);
    Due.due("set(1, 0, 0)", x.set(1, 0, 0), 9);
    Due.due("set(1, 1, 0)", x.set(1, 1, 0), -2);
    Due.due("set(1, -1, 0)", x.set(1, -1, 0), -2);
    Due.due("set(2, 0, 999)", x.set(2, 0, 999), 5);
    Due.due("set(2, 0, 1000)", x.set(2, 0, 1000), -2);
    Due.due("set(2, 0, -1)", x.set(2, 0, -1), -2);
    Due.due("set(2, 0, 0)", x.set(2, 0, 0), 999);
    Due.due("set(2, 1, 0)", x.set(2, 1, 0), -2);
    Due.due("set(3, 0, 0)", x.set(3, 0, 0), -2);
    Due.due("set(-1, 0, 0)", x.set(-1, 0, 0), -2);
    Due.due("told(0, 1)", x.told(0, 1), 0);
    Due.due("told(0, 2)", x.told(0, 2), 0);
  }

  private static void disk() {
    InTheOldOne x = new InTheOldOne();
    x.set(0, 0, 77);
    Due.due("disk(-1, 0)", x.disk(-1, 0), -2);
    Due.due("disk(6, 0)", x.disk(6, 0), -2);
    Due.due("disk(0, -1)", x.disk(0, -1), -2);
    Due.due("disk(0, 10)", x.disk(0, 10), -2);
    for (int i = 0; i < 6; i++) Due.due("disk(" + i + ", " + (i + 3) + ")", x.disk(i, i + 3), i);
    Due.due("disk(0, 0), full", x.disk(0, 0), -4);
    Due.due("disk(6, 0), full", x.disk(6, 0), -2);
    for (int i = 0; i < 6; i++) {
      Due.due("told(" + i + ", 1)", x.told(i, 1), i + 3);
      Due.due("told(" + i + ", 2)", x.told(i, 2), 77);
      Due.due("told(" + i + ", 3)", x.told(i, 3), i);
    }
  }

  private static void told() {
    InTheOldOne x = new InTheOldOne();
    int[] numbers = {9, 9, 9, 9, 9, 9};
    for (int kind = 0; kind < 6; kind++) x.disk(kind, numbers[kind]);
    // The DAY is 2 : a CARD's clock stands at -7, an OLD one's at -3 (half, cut toward 0).
    x.set(0, 0, 2);
    int[] stamps = {2, -7, 2, -3, 3, 0};
    int[] rooms = {8, 5, 8, 5, 8, 9};
    for (int kind = 0; kind < 6; kind++) {
      Due.due("told(" + kind + ", 5)", x.told(kind, 5), stamps[kind]);
      Due.due("told(" + kind + ", 6)", x.told(kind, 6), rooms[kind]);
      Due.due("told(" + kind + ", 7)", x.told(kind, 7), 0);
      Due.due("told(" + kind + ", 8)", x.told(kind, 8), 5);
    }
    x.set(1, 5, 0);
    Due.due("told(5, 6): PAPER 0 has no room", x.told(5, 6), 0);
    x.set(1, 1, 0);
    x.set(1, 3, 1);
    Due.due("told(1, 6): CARD 0", x.told(1, 6), 1);
    Due.due("told(3, 6): OLD 1", x.told(3, 6), 1);
    x.set(1, 1, 8);
    Due.due("told(1, 6): CARD 8", x.told(1, 6), 5);
    x.write(0, 3, 1);
    x.write(0, 4, 1);
    x.write(0, 4, 2);
    Due.due("told(0, 7)", x.told(0, 7), 2);
    x.lose(0, 3);
    Due.due("told(0, 7) after lose", x.told(0, 7), 1);
    Due.due("told(77, 0)", x.told(77, 0), 2);
    Due.due("told(0, 9)", x.told(0, 9), -2);
    Due.due("told(0, -1)", x.told(0, -1), -2);
    Due.due("told(6, 1)", x.told(6, 1), -2);
    Due.due("told(-1, 8)", x.told(-1, 8), -2);
    Due.text(x, "takes 1; goes number*20-60; worth 0;");
    x.force(1);
    Due.due("told(1, 8): goes 100", x.told(1, 8), 100);
    x.set(1, 1, 9);
    Due.due("told(1, 8): 120 is bound to 100", x.told(1, 8), 100);
    x.set(1, 1, 2);
    Due.due("told(1, 8): -20 is bound to 0", x.told(1, 8), 0);
    x.set(1, 1, 4);
    Due.due("told(1, 8): goes 20", x.told(1, 8), 20);
  }

  private static void reads() {
    InTheOldOne x = new InTheOldOne();
    for (int kind = 0; kind < 6; kind++) x.disk(kind, 3);
    readsOn(x, 0, 0b111111);
    // The SHARED one does not on days that modulo 7 are 3; the OLD one not on odd ones.
    readsOn(x, 3, 0b100111);
    readsOn(x, 80, 0b101111);
    readsOn(x, 81, 0b110101);
    readsOn(x, 300, 0b110101);
    readsOn(x, 301, 0b110100);
    readsOn(x, 999, 0b110100);
    // They came later than THE DAY is: less than 0 days old, all but an odd OLD one can be read.
    x.set(0, 0, 10);
    x.set(2, 0, 999);
    x.set(2, 1, 999);
    x.set(2, 3, 13);
    Due.due("since 999: told(0, 4)", x.told(0, 4), 1);
    Due.due("since 999: told(1, 4)", x.told(1, 4), 1);
    Due.due("since 13, -3 days old: told(3, 4)", x.told(3, 4), 0);
    x.set(2, 3, 14);
    Due.due("since 14, -4 days old: told(3, 4)", x.told(3, 4), 1);
    // A SHARED one with NUMBER 7 or more can always be read.
    x.set(1, 4, 7);
    for (int day = 0; day < 15; day++) {
      x.set(0, 0, day);
      Due.due("SHARED 7 on day " + day, x.told(4, 4), 1);
    }
  }

  private static void readsOn(InTheOldOne x, int day, int bits) {
    x.set(0, 0, day);
    for (int kind = 0; kind < 6; kind++) Due.due("day " + day + ": told(" + kind + ", 4)", x.told(kind, 4), bits >> kind & 1);
  }

  private static void file() {
    InTheOldOne x = new InTheOldOne();
    x.disk(0, 0);
    x.set(0, 0, 12);
    Due.due("file(0, 0, 0)", x.file(0, 0, 0), -1);
    Due.due("file(0, 0, 1)", x.file(0, 0, 1), -100);
    x.write(0, 7, 0);
    Due.due("file(0, 7, 0)", x.file(0, 7, 0), 0);
    Due.due("file(0, 7, 1)", x.file(0, 7, 1), 12);
    x.set(0, 0, 900);
    Due.due("file(0, 7, 0), it does not read", x.file(0, 7, 0), 0);
    Due.due("file(1, 0, 0)", x.file(1, 0, 0), -2);
    Due.due("file(-1, 0, 0)", x.file(-1, 0, 0), -2);
    Due.due("file(0, 8, 0)", x.file(0, 8, 0), -2);
    Due.due("file(0, -1, 0)", x.file(0, -1, 0), -2);
    Due.due("file(0, 0, 2)", x.file(0, 0, 2), -2);
    Due.due("file(0, 0, -1)", x.file(0, 0, -1), -2);
  }
}
