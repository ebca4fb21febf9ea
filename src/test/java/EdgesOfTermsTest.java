/** Terms 1 (DISKS, READS, STAMPS, KEEPS, HAS ROOM) and 3: a test for each sentence that names a bound. */
public final class EdgesOfTermsTest {
  private static final int DISK = 0, CARD = 1, CLOUD = 2, OLD = 3, SHARED = 4, PAPER = 5;

  public static void main(String[] args) {
    files();
    theDay();
    sixDisks();
    kinds();
    numbers();
    since();
    contents();
    stamps();
    constants();
    cutTowardZero();
    diskReads();
    cardReads();
    cloudReads();
    oldReads();
    sharedReads();
    paperReads();
    clocks();
    keeps();
    diskHasRoom();
    cardHasRoom();
    cloudHasRoom();
    oldHasRoom();
    sharedHasRoom();
    paperHasRoom();
    sheets();
    sorts();
    Due.end();
  }

  private static InTheOldOne one(int kind, int number) {
    InTheOldOne x = new InTheOldOne();
    x.disk(kind, number);
    return x;
  }

  private static void files() {
    Due.of("FILES 0 .. 7");
    int[] edges = {Integer.MIN_VALUE, -1, 0, 7, 8, Integer.MAX_VALUE};
    for (int f : edges) {
      boolean is = f == 0 || f == 7;
      InTheOldOne x = one(CLOUD, 0);
      Due.due("file(0, " + f + ", 0)", x.file(0, f, 0), is ? -1 : -2);
      Due.due("file(0, " + f + ", 1)", x.file(0, f, 1), is ? -100 : -2);
      Due.due("newest(" + f + ", 2)", x.newest(f, 2), is ? -100 : -2);
      Due.due("lose(0, " + f + ")", x.lose(0, f), is ? -1 : -2);
      Due.due("on(" + f + ")", x.on(f), is ? 0 : -2);
      Due.due("write(0, " + f + ", 5)", x.write(0, f, 5), is ? 5 : -2);
      Due.due("on(" + f + ")", x.on(f), is ? 1 : -2);
      Due.due("count(2)", x.count(2), is ? 1 : 0);
    }
  }

  private static void theDay() {
    Due.of("THE DAY (0 .. 999; 0 at first)");
    InTheOldOne x = new InTheOldOne();
    Due.due("told(0, 0)", x.told(0, 0), 0);
    int[] not = {-1, 1000, Integer.MIN_VALUE, Integer.MAX_VALUE};
    for (int day : not) Due.due("set(0, 0, " + day + ")", x.set(0, 0, day), -2);
    Due.due("set(0, 0, 999)", x.set(0, 0, 999), 0);
    for (int day : not) Due.due("set(0, 0, " + day + ")", x.set(0, 0, day), -2);
    Due.due("told(0, 0)", x.told(0, 0), 999);
    Due.due("set(0, 0, 0)", x.set(0, 0, 0), 999);
    Due.due("told(0, 0)", x.told(0, 0), 0);
  }

  private static void sixDisks() {
    Due.of("DISKS (6 at most, numbered from 0)");
    InTheOldOne x = new InTheOldOne();
    for (int i = 0; i < 6; i++) {
      Due.due("told(" + i + ", 1)", x.told(i, 1), -2);
      Due.due("disk(0, " + i + ")", x.disk(DISK, i), i);
      Due.due("told(" + i + ", 1)", x.told(i, 1), i);
    }
    Due.due("disk(0, 6)", x.disk(DISK, 6), -4);
    Due.due("told(6, 1)", x.told(6, 1), -2);
    Due.due("told(-1, 1)", x.told(-1, 1), -2);
    Due.due("count(0)", x.count(0), 6);
  }

  private static void kinds() {
    Due.of("KIND: 0 DISK .. 5 PAPER");
    int[] not = {-1, 6, Integer.MIN_VALUE, Integer.MAX_VALUE};
    for (int kind : not) {
      InTheOldOne x = new InTheOldOne();
      Due.due("disk(" + kind + ", 0)", x.disk(kind, 0), -2);
      Due.due("count(0)", x.count(0), 0);
    }
    for (int kind = 0; kind < 6; kind++) Due.due("told(0, 3)", one(kind, 0).told(0, 3), kind);
    Due.of("1 CARD under DISK, 2 CLOUD under DISK, 3 OLD under CARD, 4 SHARED under CLOUD, 5 PAPER under DISK");
    int[] under = {0b000001, 0b000011, 0b000101, 0b001011, 0b010101, 0b100001};
    for (int kind = 0; kind < 6; kind++) {
      for (int k = 0; k < 6; k++) {
        int due = (under[kind] >> k & 1) == 1 ? 7 : -13;
        Due.due("taken(0, " + k + ") of KIND " + kind, one(kind, 7).taken(0, k), due);
      }
    }
  }

  private static void numbers() {
    Due.of("a NUMBER (0 .. 9)");
    int[] not = {-1, 10, Integer.MIN_VALUE, Integer.MAX_VALUE};
    InTheOldOne x = new InTheOldOne();
    for (int number : not) Due.due("disk(0, " + number + ")", x.disk(DISK, number), -2);
    Due.due("disk(0, 0)", x.disk(DISK, 0), 0);
    Due.due("disk(0, 9)", x.disk(DISK, 9), 1);
    Due.due("told(0, 1)", x.told(0, 1), 0);
    Due.due("told(1, 1)", x.told(1, 1), 9);
    for (int number : not) Due.due("set(1, 1, " + number + ")", x.set(1, 1, number), -2);
    Due.due("told(1, 1)", x.told(1, 1), 9);
    Due.due("set(1, 1, 0)", x.set(1, 1, 0), 9);
    Due.due("set(1, 1, 9)", x.set(1, 1, 9), 0);
  }

  private static void since() {
    Due.of("are since a DAY (THE DAY on which it came; 0 .. 999)");
    InTheOldOne x = one(CLOUD, 0);
    x.set(0, 0, 999);
    x.disk(CLOUD, 0);
    Due.due("told(0, 2)", x.told(0, 2), 0);
    Due.due("told(1, 2)", x.told(1, 2), 999);
    int[] not = {-1, 1000, Integer.MIN_VALUE, Integer.MAX_VALUE};
    for (int day : not) Due.due("set(2, 0, " + day + ")", x.set(2, 0, day), -2);
    Due.due("told(0, 2)", x.told(0, 2), 0);
    Due.due("set(2, 0, 999)", x.set(2, 0, 999), 0);
    Due.due("set(2, 0, 0)", x.set(2, 0, 0), 999);
  }

  private static void contents() {
    Due.of("of each FILE nothing, or a CONTENT (0 .. 999)");
    InTheOldOne x = one(CLOUD, 0);
    for (int f = 0; f < 8; f++) Due.due("file(0, " + f + ", 0) of a new one", x.file(0, f, 0), -1);
    int[] not = {-1, 1000, Integer.MIN_VALUE, Integer.MAX_VALUE};
    for (int content : not) Due.due("write(0, 0, " + content + ")", x.write(0, 0, content), -2);
    Due.due("told(0, 7)", x.told(0, 7), 0);
    Due.due("write(0, 0, 0)", x.write(0, 0, 0), 0);
    Due.due("told(0, 7): 0 is something", x.told(0, 7), 1);
    Due.due("on(0): 0 is something", x.on(0), 1);
    Due.due("write(0, 0, 999)", x.write(0, 0, 999), 999);
    Due.due("told(0, 7)", x.told(0, 7), 1);
    x.disk(CLOUD, 0);
    x.write(0, 1, 0);
    Due.due("copies(0, 1): 0 and 999", x.copies(0, 1), 2);
    Due.due("file(1, 0, 0)", x.file(1, 0, 0), 999);
    Due.due("file(1, 1, 0)", x.file(1, 1, 0), 0);
  }

  private static void stamps() {
    Due.of("with a STAMP (-99 .. 1099)");
    InTheOldOne x = one(CARD, 9);
    x.disk(SHARED, 9);
    x.disk(CLOUD, 0);
    x.write(0, 0, 1);
    Due.due("file(0, 0, 1), the least", x.file(0, 0, 1), -9);
    Due.due("newest(0, 2), the least", x.newest(0, 2), -9);
    Due.due("copies(0, 2)", x.copies(0, 2), 1);
    Due.due("file(2, 0, 1)", x.file(2, 0, 1), -9);
    x.set(0, 0, 999);
    x.write(1, 0, 1);
    Due.due("file(1, 0, 1), the most", x.file(1, 0, 1), 1000);
    Due.due("newest(0, 2), the most", x.newest(0, 2), 1000);
    Due.due("copies(1, 2)", x.copies(1, 2), 1);
    Due.due("file(2, 0, 1)", x.file(2, 0, 1), 1000);
  }

  private static void constants() {
    Due.of("NONE is -1; NO, where a long is answered, -4611686018427387904");
    InTheOldOne x = one(CLOUD, 0);
    Due.due("NONE", InTheOldOne.NONE, -1);
    Due.due("NO", InTheOldOne.NO, -4611686018427387904L);
    Due.due("NO is half of the least long", InTheOldOne.NO, Long.MIN_VALUE / 2);
    Due.due("file(0, 0, 0)", x.file(0, 0, 0), -1);
    Due.due("chance(0, 0, 0)", x.chance(0, 0, 0), Long.MIN_VALUE / 2);
    Due.of("BAD (-2), STATE (-3), FULL (-4)");
    Due.due("BAD", InTheOldOne.BAD, -2);
    Due.due("STATE", InTheOldOne.STATE, -3);
    Due.due("FULL", InTheOldOne.FULL, -4);
  }

  private static void cutTowardZero() {
    Due.of("Quotients are cut toward 0");
    int[] halves = {-4, -4, -3, -3, -2, -2, -1, -1, 0, 0, 0, 1, 1};
    InTheOldOne x = one(OLD, 9);
    for (int day = 0; day < halves.length; day++) {
      x.set(0, 0, day);
      Due.due("told(0, 5) of an OLD 9 on DAY " + day, x.told(0, 5), halves[day]);
    }
  }

  /** Whether a DISK of this KIND and NUMBER READS, being so old. */
  private static void reads(int kind, int number, int age, int due) {
    InTheOldOne x = one(kind, number);
    if (age < 0) x.set(2, 0, -age);
    else x.set(0, 0, age);
    Due.due("told(0, 4) of KIND " + kind + ", NUMBER " + number + ", " + age + " DAYS old", x.told(0, 4), due);
    Due.due("count(1) of KIND " + kind + ", NUMBER " + number + ", " + age + " DAYS old", x.count(1), due);
  }

  private static void diskReads() {
    Due.of("READS. DISK: up to 300");
    for (int number = 0; number < 10; number += 9) {
      reads(DISK, number, 0, 1);
      reads(DISK, number, 299, 1);
      reads(DISK, number, 300, 1);
      reads(DISK, number, 301, 0);
      reads(DISK, number, 999, 0);
    }
    Due.of("READS. being so many DAYS old, THE DAY less since when it is");
    reads(DISK, 0, -1, 1);
    reads(DISK, 0, -301, 1);
    reads(DISK, 0, -999, 1);
    InTheOldOne x = one(DISK, 0);
    x.set(2, 0, 699);
    x.set(0, 0, 999);
    Due.due("told(0, 4): since 699, on 999", x.told(0, 4), 1);
    x.set(2, 0, 698);
    Due.due("told(0, 4): since 698, on 999", x.told(0, 4), 0);
  }

  private static void cardReads() {
    Due.of("READS. CARD: up to (20 times NUMBER, and 20 more)");
    for (int number = 0; number < 10; number++) {
      reads(CARD, number, 0, 1);
      reads(CARD, number, 20 * number + 19, 1);
      reads(CARD, number, 20 * number + 20, 1);
      reads(CARD, number, 20 * number + 21, 0);
      reads(CARD, number, 999, 0);
    }
    reads(CARD, 0, -1, 1);
    reads(CARD, 0, -999, 1);
  }

  private static void cloudReads() {
    Due.of("READS. CLOUD: always");
    for (int number = 0; number < 10; number++) {
      int[] ages = {-999, -1, 0, 1, 7, 20, 21, 300, 301, 999};
      for (int age : ages) reads(CLOUD, number, age, 1);
    }
  }

  private static void oldReads() {
    Due.of("READS. OLD: as a CARD, if how old it is is even, too");
    for (int number = 0; number < 10; number++) {
      reads(OLD, number, 0, 1);
      reads(OLD, number, 1, 0);
      reads(OLD, number, 2, 1);
      reads(OLD, number, 20 * number + 19, 0);
      reads(OLD, number, 20 * number + 20, 1);
      reads(OLD, number, 20 * number + 21, 0);
      reads(OLD, number, 20 * number + 22, 0);
      reads(OLD, number, 998, 0);
    }
    reads(OLD, 0, -1, 0);
    reads(OLD, 0, -2, 1);
    reads(OLD, 0, -999, 0);
    InTheOldOne x = one(OLD, 0);
    x.set(2, 0, 1);
    x.set(0, 0, 3);
    Due.due("told(0, 4): 2 DAYS old on an odd DAY", x.told(0, 4), 1);
    x.set(0, 0, 4);
    Due.due("told(0, 4): 3 DAYS old on an even DAY", x.told(0, 4), 0);
  }

  private static void sharedReads() {
    Due.of("READS. SHARED: as a CLOUD, but not on a DAY that modulo 7 is NUMBER");
    for (int number = 0; number < 10; number++) {
      for (int day = 0; day < 15; day++) reads(SHARED, number, day, day % 7 == number ? 0 : 1);
      for (int day = 993; day < 1000; day++) reads(SHARED, number, day, day % 7 == number ? 0 : 1);
    }
    // It is THE DAY that counts, not how old it is.
    InTheOldOne x = one(SHARED, 3);
    x.set(2, 0, 3);
    Due.due("told(0, 4) on DAY 0, since 3", x.told(0, 4), 1);
    x.set(0, 0, 10);
    Due.due("told(0, 4) on DAY 10, since 3", x.told(0, 4), 0);
    x.set(0, 0, 6);
    Due.due("told(0, 4) on DAY 6, since 3", x.told(0, 4), 1);
  }

  private static void paperReads() {
    Due.of("READS. PAPER: always");
    for (int number = 0; number < 10; number++) {
      int[] ages = {-999, -1, 0, 1, 7, 20, 21, 300, 301, 999};
      for (int age : ages) reads(PAPER, number, age, 1);
    }
  }

  private static void clock(int kind, int number, int day, int due) {
    InTheOldOne x = one(kind, number);
    x.set(0, 0, day);
    x.set(2, 0, day);
    String what = " of KIND " + kind + ", NUMBER " + number + ", on DAY " + day;
    Due.due("told(0, 5)" + what, x.told(0, 5), due);
    if (x.write(0, 0, 5) >= 0) Due.due("file(0, 0, 1)" + what, x.file(0, 0, 1), due);
  }

  private static void clocks() {
    Due.of("STAMPS. DISK: THE DAY; CLOUD: as a DISK");
    int[] days = {0, 1, 8, 9, 10, 998, 999};
    for (int day : days) {
      for (int number = 0; number < 10; number++) {
        clock(DISK, number, day, day);
        clock(CLOUD, number, day, day);
      }
    }
    Due.of("STAMPS. CARD: NUMBER less than a DISK");
    for (int day : days) for (int number = 0; number < 10; number++) clock(CARD, number, day, day - number);
    Due.of("STAMPS. OLD: half (cut) of a CARD's");
    for (int day : days) for (int number = 0; number < 10; number++) clock(OLD, number, day, (day - number) / 2);
    Due.of("STAMPS. SHARED: 1 more than a CLOUD");
    for (int day : days) for (int number = 0; number < 10; number++) clock(SHARED, number, day, day + 1);
    Due.of("STAMPS. PAPER: 0");
    for (int day : days) for (int number = 0; number < 10; number++) clock(PAPER, number, day, 0);
  }

  private static void kept(int kind, int content, int due) {
    InTheOldOne x = one(kind, 9);
    x.disk(CLOUD, 0);
    Due.due("write(0, 3, " + content + ") onto KIND " + kind, x.write(0, 3, content), due);
    Due.due("file(0, 3, 0)", x.file(0, 3, 0), due);
    x.lose(0, 3);
    x.write(1, 3, content);
    Due.due("copies(1, 0)", x.copies(1, 0), 1);
    Due.due("file(0, 3, 0) of KIND " + kind + ", from a CLOUD with " + content, x.file(0, 3, 0), due);
  }

  private static void keeps() {
    int[] edges = {0, 1, 9, 10, 11, 19, 898, 899, 900, 901, 989, 990, 998, 999};
    Due.of("KEEPS. DISK: c; CARD: as a DISK; CLOUD: as a DISK; SHARED: as a CLOUD");
    for (int c : edges) {
      kept(DISK, c, c);
      kept(CARD, c, c);
      kept(CLOUD, c, c);
      kept(SHARED, c, c);
    }
    Due.of("KEEPS. OLD: c, 899 at most");
    for (int c : edges) kept(OLD, c, c > 899 ? 899 : c);
    Due.of("KEEPS. PAPER: c less c modulo 10");
    for (int c : edges) kept(PAPER, c, c / 10 * 10);
  }

  /** For so many FILES there is ROOM, and for none more; over what is there there always is. */
  private static void room(int kind, int number, int due) {
    InTheOldOne x = one(kind, number);
    x.set(0, 0, 8);
    x.set(2, 0, 8);
    String of = " of KIND " + kind + ", NUMBER " + number;
    Due.due("told(0, 6)" + of, x.told(0, 6), due);
    for (int i = 0; i < 8; i++) {
      int file = 7 - i;
      Due.due("write(0, " + file + ", 10), " + i + " there," + of, x.write(0, file, 10), i < due ? 10 : -4);
    }
    int have = Math.min(8, due);
    Due.due("told(0, 7)" + of, x.told(0, 7), have);
    if (have > 0) Due.due("write(0, 7, 20), over what is there," + of, x.write(0, 7, 20), 20);
    x.disk(CLOUD, 0);
    for (int file = 0; file < 8; file++) x.write(1, file, 30);
    for (int file = 0; file < 8; file++) x.lose(0, file);
    Due.due("copies(1, 0)" + of, x.copies(1, 0), have);
  }

  private static void diskHasRoom() {
    Due.of("HAS ROOM for FILES. DISK: 8");
    for (int number = 0; number < 10; number++) room(DISK, number, 8);
  }

  private static void cardHasRoom() {
    Due.of("HAS ROOM for FILES. CARD: 1 and half (cut) of NUMBER");
    int[] rooms = {1, 1, 2, 2, 3, 3, 4, 4, 5, 5};
    for (int number = 0; number < 10; number++) room(CARD, number, rooms[number]);
  }

  private static void cloudHasRoom() {
    Due.of("HAS ROOM for FILES. CLOUD: as a DISK");
    for (int number = 0; number < 10; number++) room(CLOUD, number, 8);
  }

  private static void oldHasRoom() {
    Due.of("HAS ROOM for FILES. OLD: as a CARD");
    int[] rooms = {1, 1, 2, 2, 3, 3, 4, 4, 5, 5};
    for (int number = 0; number < 10; number++) room(OLD, number, rooms[number]);
  }

  private static void sharedHasRoom() {
    Due.of("HAS ROOM for FILES. SHARED: as a CLOUD");
    for (int number = 0; number < 10; number++) if (number != 1) room(SHARED, number, 8);
  }

  private static void paperHasRoom() {
    Due.of("HAS ROOM for FILES. PAPER: NUMBER");
    for (int number = 0; number < 10; number++) room(PAPER, number, number);
  }

  private static void sheets() {
    Due.of("SHEETS 0 .. 3 are rows of numbers, or missing (as all are at first)");
    InTheOldOne x = one(CLOUD, 0);
    int[] edges = {Integer.MIN_VALUE, -1, 0, 1, 2, 3, 4, Integer.MAX_VALUE};
    for (int s : edges) {
      boolean is = s >= 0 && s <= 3;
      Due.due("cell(" + s + ", 0, 0)", x.cell(s, 0, 0), is ? -11 : -2);
      Due.due("plan(" + s + ", 0)", x.plan(s, 0), is ? -11 : -2);
      Due.due("tells(" + s + ", 0, 0, 0)", x.tells(s, 0, 0, 0), is ? -11 : -2);
      Due.due("copy(" + s + ", 0, 0, 0, 0)", x.copy(s, 0, 0, 0, 0), is ? -11 : -2);
      Due.due("copy(0, 0, " + s + ", 0, 0)", x.copy(0, 0, s, 0, 0), is ? -11 : -2);
      Due.due("disks(" + s + ", 0, 0, 0)", x.disks(s, 0, 0, 0), is ? -11 : -2);
    }
    for (int s : edges) Due.due("film(" + s + ", 0)", x.film(s, 0), s >= 0 && s <= 3 ? 8 : -2);
    for (int s : edges) Due.due("sheet(" + s + ", 0, 1)", x.sheet(s, 0, 1), s >= 0 && s <= 3 ? 1 : -2);
    for (int s : edges) Due.due("cell(" + s + ", 0, 0)", x.cell(s, 0, 0), s >= 0 && s <= 3 ? 1 : -2);
  }

  private static void sorts() {
    Due.of("of sort 0 bytes, 1 shorts, 2 ints");
    int[] edges = {Integer.MIN_VALUE, -2, 3, Integer.MAX_VALUE};
    InTheOldOne x = one(CLOUD, 0);
    for (int sort : edges) {
      Due.due("sheet(0, " + sort + ", 1)", x.sheet(0, sort, 1), -2);
      Due.due("disks(0, " + sort + ", 0, 0)", x.disks(0, sort, 0, 0), -2);
    }
    Due.due("disks(0, -1, 0, 0)", x.disks(0, -1, 0, 0), -2);
    for (int sort = 0; sort < 3; sort++) {
      Due.due("sheet(0, " + sort + ", 1)", x.sheet(0, sort, 1), 1);
      for (int as = 0; as < 3; as++) {
        Due.due("disks(0, " + as + ", 0, 0) of sort " + sort, x.disks(0, as, 0, 0), as == sort ? 0 : -13);
      }
    }
  }
}
