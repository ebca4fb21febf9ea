/** Promises 22 to 28, and the terms 2 that they use: a test for each sentence that names a bound. */
public final class EdgesOfTellsTest {
  private static final int DISK = 0, CARD = 1, CLOUD = 2, OLD = 3, SHARED = 4, PAPER = 5;
  private static final int[] NO_DISK = {Integer.MIN_VALUE, -1, 2, 3, 6, Integer.MAX_VALUE};
  private static final int[] NO_SHEET = {Integer.MIN_VALUE, -1, 4, 5, Integer.MAX_VALUE};
  private static final long NO = -4611686018427387904L;

  public static void main(String[] args) {
    toldOtherwise();
    toldNothing();
    toldByBytes();
    toldKindsOfRoom();
    toldKindsThatKeep();
    toldKindsThatRead();
    toldNumbers();
    toldNumbersThatRead();
    toldDisks();
    toldTexts();
    toldWhereACopyCantBe();
    toldIsInThought();
    tellsRefused();
    tellsOneDoesNotMatter();
    tellsEight();
    film();
    filmRefused();
    lotBelow();
    lotOfThoseThatRead();
    lotWrapping();
    chanceSeeds();
    chanceLowestTerms();
    chanceOnNow();
    chanceRefused();
    imageKeeps();
    imageKeepsNot();
    imageOnce();
    disksThatCameGo();
    backRefused();
    count();
    countRefused();
    Due.end();
  }

  private static InTheOldOne disks(int... kindsAndNumbers) {
    InTheOldOne x = new InTheOldOne();
    for (int i = 0; i < kindsAndNumbers.length; i += 2) x.disk(kindsAndNumbers[i], kindsAndNumbers[i + 1]);
    return x;
  }

  private static void tells(InTheOldOne x, int sheet, int disk, int one, int what, int due) {
    Due.due("tells(" + sheet + ", " + disk + ", " + one + ", " + what + ")", x.tells(sheet, disk, one, what), due);
  }

  private static void toldOtherwise() {
    Due.of("TOLD: CONTENTS of FILES 0 .. 7 of a DISK: FILES (bits) that are otherwise");
    InTheOldOne x = disks(CLOUD, 0);
    for (int f = 0; f < 8; f++) x.write(0, f, 100 + f);
    for (int f = 0; f < 8; f++) {
      Due.sheet(x, 0, 1, 100, 101, 102, 103, 104, 105, 106, 107);
      tells(x, 0, 0, 0, 0, 0);
      x.cell(0, f, 100 + f + 1);
      tells(x, 0, 0, 0, 0, 1 << f);
      x.cell(0, f, -1);
      tells(x, 0, 0, 0, 0, 1 << f);
    }
    Due.sheet(x, 0, 2, 0, 0, 0, 0, 0, 0, 0, 0);
    tells(x, 0, 0, 0, 0, 255);
    Due.sheet(x, 0, 2, 65636, 101, -65434, 103, 104 + (1 << 31), 105, 106, 107);
    tells(x, 0, 0, 0, 0, 0b00010101);
  }

  private static void toldNothing() {
    Due.of("TOLD: (NONE: nothing)");
    InTheOldOne x = disks(CLOUD, 0);
    Due.sheet(x, 0, 2, -1, -1, -1, -1, -1, -1, -1, -1);
    tells(x, 0, 0, 0, 0, 0);
    x.write(0, 0, 0);
    x.write(0, 7, 999);
    tells(x, 0, 0, 0, 0, 0b10000001);
    x.cell(0, 0, 0);
    x.cell(0, 7, 999);
    tells(x, 0, 0, 0, 0, 0);
    int[] other = {0, -2, -100, 1000, Integer.MIN_VALUE, Integer.MAX_VALUE};
    for (int v : other) {
      x.cell(0, 3, v);
      tells(x, 0, 0, 0, 0, 0b1000);
    }
    x.cell(0, 3, -1);
    x.lose(0, 0);
    tells(x, 0, 0, 0, 0, 1);
  }

  private static void toldByBytes() {
    Due.of("TOLD: a SHEET (of bytes, shorts, ints)");
    InTheOldOne x = disks(CLOUD, 0);
    int[] row = {127, 127 + 256, 255, -1, 0, 256, 128, -128};
    int[] content = {127, 127, -1, -1, 0, 0, 128, 128};
    for (int f = 0; f < 8; f++) if (content[f] >= 0) x.write(0, f, content[f]);
    Due.sheet(x, 0, 0, row);
    tells(x, 0, 0, 0, 0, 0b11000000);
    Due.sheet(x, 1, 1, row);
    tells(x, 1, 0, 0, 0, 0b10100110);
    Due.sheet(x, 1, 1, 127, 127 + 65536, 65535, -1, 65536, 0, 128, 128 - 65536);
    tells(x, 1, 0, 0, 0, 0);
  }

  private static final int[] THREE = {100, 101, 102, -1, -1, -1, -1, -1};

  /** A CLOUD 0 with FILES 0 to 2, and an empty one of this KIND and NUMBER; SHEET 0 tells of three FILES. */
  private static InTheOldOne three(int kind, int number) {
    InTheOldOne x = disks(CLOUD, 0, kind, number);
    for (int f = 0; f < 3; f++) x.write(0, f, 100 + f);
    Due.sheet(x, 0, 1, THREE);
    return x;
  }

  private static void toldKindsOfRoom() {
    Due.of("TOLD: KINDS (bits 0 .. 5) of it, by which it would have all that is told (HAS ROOM)");
    // A CARD with NUMBER 4 has room for 3, one with 3 for 2; a PAPER is not so, as 101 is no 100.
    tells(three(DISK, 4), 0, 1, 0, 1, 0b011111);
    tells(three(PAPER, 3), 0, 1, 0, 1, 0b010101);
    tells(three(SHARED, 0), 0, 1, 0, 1, 0b000101);
    for (int kind = 0; kind < 6; kind++) tells(three(kind, 9), 0, 1, 0, 1, 0b011111);
    InTheOldOne x = disks(CLOUD, 0, DISK, 3);
    for (int f = 0; f < 3; f++) x.write(0, f, 100);
    Due.sheet(x, 0, 0, 100, 100, 100, -1, -1, -1, -1, -1);
    tells(x, 0, 1, 0, 1, 0b110101);
    x.set(1, 1, 2);
    tells(x, 0, 1, 0, 1, 0b010101);
    Due.sheet(x, 0, 0, 100, 100, -1, -1, -1, -1, -1, -1);
    tells(x, 0, 1, 0, 1, 0b101010);
    // What is there already needs no ROOM.
    x.write(1, 7, 5);
    x.set(1, 1, 0);
    Due.sheet(x, 0, 0, -1, -1, -1, -1, -1, -1, -1, 5);
    tells(x, 0, 1, 0, 1, 0b101010);
  }

  private static void toldKindsThatKeep() {
    Due.of("TOLD: KINDS by which (KEEPS)");
    int[][] told = {{899, 0b011111}, {900, 0b010111}, {901, 0b010111}, {890, 0b111111}, {990, 0b110111}, {999, 0b010111}};
    for (int[] t : told) {
      InTheOldOne x = disks(CLOUD, 0, DISK, 9);
      x.write(0, 0, t[0]);
      Due.sheet(x, 0, 1, t[0], -1, -1, -1, -1, -1, -1, -1);
      int paper = t[0] % 10 == 0 ? 0b100000 : 0;
      tells(x, 0, 1, 0, 1, t[1] & 0b011111 | paper);
      x.cell(0, 0, 899);
      tells(x, 0, 1, 0, 1, t[0] > 899 ? 0b001000 : t[0] == 899 ? 0b011111 : 0);
      x.cell(0, 0, t[0] / 10 * 10);
      tells(x, 0, 1, 0, 1, t[0] % 10 != 0 ? 0b100000 : t[1] & 0b011111 | paper);
      x.cell(0, 0, -1);
      tells(x, 0, 1, 0, 1, 0);
    }
  }

  private static void toldKindsThatRead() {
    Due.of("TOLD: KINDS by which (READS)");
    InTheOldOne x = three(DISK, 9);
    int[][] days = {{1, 0b010111}, {2, 0b011111}, {199, 0b010111}, {200, 0b011111}, {201, 0b010101}, {202, 0b010101},
        {300, 0b010101}, {301, 0b010100}, {999, 0b010100}};
    for (int[] d : days) {
      x.set(0, 0, d[0]);
      tells(x, 0, 1, 0, 1, d[1]);
    }
    x.set(1, 1, 5);
    tells(x, 0, 1, 0, 1, 0b000100);
    x.set(0, 0, 998);
    tells(x, 0, 1, 0, 1, 0b010100);
  }

  private static void toldNumbers() {
    Due.of("TOLD: NUMBERS (bits 0 .. 9) of it, by which it would have all that is told");
    tells(three(CLOUD, 0), 0, 1, 0, 2, 0b1111111111);
    tells(three(CARD, 0), 0, 1, 0, 2, 0b1111110000);
    tells(three(SHARED, 1), 0, 1, 0, 2, 0b1111111110);
    tells(three(PAPER, 1), 0, 1, 0, 2, 0);
    InTheOldOne x = three(PAPER, 0);
    Due.sheet(x, 0, 1, 100, 100, 100, -1, -1, -1, -1, -1);
    tells(x, 0, 1, 0, 2, 0b1111111000);
    Due.sheet(x, 0, 1, 100, 100, -1, -1, -1, -1, -1, -1);
    tells(x, 0, 1, 0, 2, 0b0000000100);
    Due.sheet(x, 0, 1, -1, -1, -1, -1, -1, -1, -1, -1);
    tells(x, 0, 1, 0, 2, 0b0000000001);
    Due.of("TOLD: NUMBERS by which (takes)");
    InTheOldOne y = three(CLOUD, 5);
    Due.text(y, "takes number=0 or number=9;goes 0;worth 0;");
    y.force(1);
    tells(y, 0, 1, 0, 2, 0b1000000001);
    Due.sheet(y, 0, 1, -1, -1, -1, -1, -1, -1, -1, -1);
    tells(y, 0, 1, 0, 2, 0b0111111110);
  }

  private static void toldNumbersThatRead() {
    Due.of("TOLD: NUMBERS by which (READS)");
    InTheOldOne x = disks(CLOUD, 0, CARD, 0, SHARED, 0);
    x.write(0, 0, 5);
    Due.sheet(x, 0, 1, 5, -1, -1, -1, -1, -1, -1, -1);
    tells(x, 0, 1, 0, 2, 0b1111111111);
    x.set(0, 0, 20);
    tells(x, 0, 1, 0, 2, 0b1111111111);
    x.set(0, 0, 21);
    tells(x, 0, 1, 0, 2, 0b1111111110);
    x.set(0, 0, 200);
    tells(x, 0, 1, 0, 2, 0b1000000000);
    x.set(0, 0, 201);
    tells(x, 0, 1, 0, 2, 0);
    for (int day = 0; day < 7; day++) {
      x.set(0, 0, day);
      tells(x, 0, 2, 0, 2, 0b1111111111 & ~(1 << day));
    }
  }

  private static void toldDisks() {
    Due.of("TOLD: DISKS (bits), did it come from which");
    InTheOldOne x = disks(CLOUD, 0, CLOUD, 0, CLOUD, 0, CLOUD, 0, CLOUD, 0, CLOUD, 0);
    for (int d = 0; d < 6; d++) x.write(d, d % 3, 5);
    Due.sheet(x, 0, 1, 5, 5, -1, -1, -1, -1, -1, -1);
    tells(x, 0, 0, -9, 3, 0b010010);
    tells(x, 0, 1, -9, 3, 0b001001);
    tells(x, 0, 5, -9, 3, 0);
    Due.sheet(x, 0, 1, 5, -1, -1, -1, -1, -1, -1, -1);
    tells(x, 0, 0, -9, 3, 0b001000);
    tells(x, 0, 3, -9, 3, 0b000001);
    x.lose(5, 2);
    tells(x, 0, 5, -9, 3, 0b001001);
    tells(x, 0, 0, -9, 3, 0b101000);
    InTheOldOne y = disks(CLOUD, 0);
    Due.sheet(y, 0, 1, -1, -1, -1, -1, -1, -1, -1, -1);
    tells(y, 0, 0, -9, 3, 0);
    y.disk(CLOUD, 0);
    tells(y, 0, 0, -9, 3, 0b10);
  }

  private static void toldTexts() {
    Due.of("TOLD: TEXTS (bits), were they THE RULE, likewise");
    InTheOldOne x = three(CLOUD, 0);
    tells(x, 0, 1, 0, 4, 0b1);
    String[] takes = {"0", "file<3", "file<2", "here", "-1"};
    int due = 1;
    for (int i = 0; i < 5; i++) {
      Due.text(x, "takes " + takes[i] + ";goes 0;worth 0;");
      if (i == 1 || i == 3 || i == 4) due |= 2 << i;
      tells(x, 0, 1, 0, 4, due);
    }
    Due.sheet(x, 1, 1, 100, 101, -1, -1, -1, -1, -1, -1);
    tells(x, 1, 1, 0, 4, 0b1000);
    Due.sheet(x, 1, 1, -1, -1, -1, -1, -1, -1, -1, -1);
    tells(x, 1, 1, 0, 4, 0b10);
    x.force(1);
    tells(x, 0, 1, 0, 4, due);
    tells(x, 0, 1, 0, 1, 0);
    Due.due("count(5)", x.count(5), 1);
  }

  private static void toldWhereACopyCantBe() {
    Due.of("22. (A copy that can't be: not so.)");
    // It would have what is told, were it not for the copy: the one, or it, doesn't READ.
    InTheOldOne x = disks(DISK, 0, CLOUD, 0);
    Due.sheet(x, 0, 1, -1, -1, -1, -1, -1, -1, -1, -1);
    x.set(0, 0, 300);
    int[] all = {0, 0b111111, 0b1111111111, 0b01, 0b1};
    int[] onto = {0, 0b110101, 0b1111111111, 0b10, 0b1};
    for (int what = 1; what < 5; what++) tells(x, 0, 0, 1, what, what == 1 ? onto[1] : what == 3 ? 0b10 : onto[what]);
    for (int what = 2; what < 5; what++) tells(x, 0, 1, 0, what, all[what]);
    x.set(0, 0, 301);
    // 301 modulo 7 is 0: as a SHARED one it would not READ either.
    int[] other = {0, 0b100100, 0, 0, 0};
    for (int what = 0; what < 5; what++) tells(x, 0, 0, 1, what, other[what]);
    for (int what = 0; what < 5; what++) tells(x, 0, 1, 0, what, 0);
    Due.of("22. (A copy that can't be: not so.) what 0 needs none");
    x.set(0, 0, 0);
    x.write(0, 0, 7);
    x.set(0, 0, 301);
    tells(x, 0, 0, 1, 0, 1);
  }

  private static void toldIsInThought() {
    Due.of("TOLD: were another DISK copied onto it now");
    InTheOldOne x = three(CARD, 4);
    Due.text(x, "takes 1;goes 0;worth 0;");
    for (int what = 0; what < 5; what++) x.tells(0, 1, 0, what);
    Due.due("told(1, 1)", x.told(1, 1), 4);
    Due.due("told(1, 3)", x.told(1, 3), 1);
    Due.due("told(1, 7)", x.told(1, 7), 0);
    Due.due("count(2)", x.count(2), 3);
    Due.due("count(5)", x.count(5), 0);
    // What is there and not overwritten counts, too.
    x.write(1, 7, 9);
    tells(x, 0, 1, 0, 4, 0);
    x.cell(0, 7, 9);
    tells(x, 0, 1, 0, 4, 0);
    x.cell(0, 2, -1);
    tells(x, 0, 1, 0, 4, 0b11);
  }

  private static void tellsRefused() {
    Due.of("22. BAD: SHEET, no such DISK, what");
    InTheOldOne x = disks(CLOUD, 0, CLOUD, 0);
    x.film(0, 0);
    int[] noWhat = {Integer.MIN_VALUE, -1, 5, Integer.MAX_VALUE};
    for (int s : NO_SHEET) for (int what = 0; what < 5; what++) tells(x, s, 0, 1, what, -2);
    for (int d : NO_DISK) for (int what = 0; what < 5; what++) tells(x, 0, d, 1, what, -2);
    for (int what : noWhat) tells(x, 0, 0, 1, what, -2);
    Due.of("22. BAD: no such one, one and the same (what 1, 2, 4)");
    int[] needed = {1, 2, 4};
    for (int what : needed) {
      for (int d : NO_DISK) tells(x, 0, 0, d, what, -2);
      tells(x, 0, 0, 0, what, -2);
      tells(x, 0, 1, 1, what, -2);
      tells(x, 0, 0, 1, what, what == 1 ? 0b101111 : what == 2 ? 0b1111111111 : 1);
    }
    Due.of("22. BAD; -11: BAD is named first");
    for (int d : NO_DISK) tells(x, 1, d, 1, 0, -2);
    for (int what : noWhat) tells(x, 1, 0, 1, what, -2);
    for (int what : needed) tells(x, 1, 0, 0, what, -2);
    for (int what : needed) tells(x, 1, 0, 2, what, -2);
    Due.of("22. -11");
    for (int s = 1; s < 4; s++) for (int what = 0; what < 5; what++) tells(x, s, 0, 1, what, -11);
  }

  private static void tellsOneDoesNotMatter() {
    Due.of("22. (what 0; one doesn't matter), DISKS (3; one doesn't matter)");
    InTheOldOne x = disks(CLOUD, 0, CLOUD, 0);
    x.film(0, 0);
    int[] any = {Integer.MIN_VALUE, -1, 0, 1, 2, 6, Integer.MAX_VALUE};
    for (int one : any) {
      tells(x, 0, 0, one, 0, 0);
      tells(x, 0, 0, one, 3, 0b10);
      tells(x, 1, 0, one, 0, -11);
      tells(x, 1, 0, one, 3, -11);
    }
  }

  private static void tellsEight() {
    Due.of("22. BAD: it doesn't tell 8");
    InTheOldOne x = disks(CLOUD, 0, CLOUD, 0);
    for (int n = 0; n <= 40; n++) {
      x.sheet(0, n % 3, n);
      tells(x, 0, 0, 1, 0, n == 8 ? 255 : -2);
      tells(x, 0, 0, 1, 1, n == 8 ? 0 : -2);
      tells(x, 0, 0, 1, 3, n == 8 ? 0 : -2);
    }
  }

  private static void film() {
    Due.of("23. A SHEET truly becomes CONTENTS of FILES 0 .. 7 of a DISK (shorts): 8");
    InTheOldOne x = disks(CLOUD, 0, DISK, 0);
    x.write(0, 0, 999);
    x.write(0, 7, 0);
    x.sheet(3, 2, 40);
    for (int s = 0; s < 4; s++) Due.due("film(" + s + ", 0)", x.film(s, 0), 8);
    for (int s = 0; s < 4; s++) {
      tells(x, s, 0, 0, 0, 0);
      tells(x, s, 1, 1, 0, 0b10000001);
      Due.due("cell(" + s + ", 8, 0)", x.cell(s, 8, 0), -12);
      Due.due("disks(" + s + ", 1, 0, 0): it is of shorts", x.disks(s, 1, 0, 0), 0);
    }
    x.lose(0, 7);
    tells(x, 0, 0, 0, 0, 0b10000000);
    x.set(0, 0, 301);
    Due.due("film(0, 1): it doesn't READ", x.film(0, 1), 8);
    tells(x, 0, 1, 0, 0, 0);
    tells(x, 0, 0, 0, 0, 1);
  }

  private static void filmRefused() {
    Due.of("23. BAD");
    InTheOldOne x = disks(CLOUD, 0, CLOUD, 0);
    for (int s : NO_SHEET) Due.due("film(" + s + ", 0)", x.film(s, 0), -2);
    for (int d : NO_DISK) Due.due("film(0, " + d + ")", x.film(0, d), -2);
    Due.due("cell(0, 0, 0), still missing", x.cell(0, 0, 0), -11);
    Due.due("film(0, 0), no DISK", new InTheOldOne().film(0, 0), -2);
  }

  /** What (z >>> 9) % 100 is for the DISK that is looked at as this one of all. */
  private static int drawn(int seed, int nth) {
    long z = seed & 0xffffffffL;
    for (int i = 0; i <= nth; i++) z = z * 1103515245L + 12345L & 0xffffffffL;
    return (int) ((z >> 9) % 100);
  }

  /** CLOUDS with FILE i on number i; goes is THE DAY. */
  private static InTheOldOne byDay(int clouds) {
    InTheOldOne x = new InTheOldOne();
    for (int i = 0; i < clouds; i++) x.disk(CLOUD, 0);
    for (int i = 0; i < clouds; i++) x.write(i, i, 1);
    Due.text(x, "takes 1;goes day;worth 1+file;");
    x.force(1);
    return x;
  }

  private static void lotBelow() {
    Due.of("BY LOT: it goes, if (z >>> 9) % 100 is below goes: WORTH by those that stay");
    InTheOldOne x = byDay(6);
    int[] seeds = {0, 1, 2, 3, 100, 12345};
    for (int seed : seeds) {
      for (int i = 0; i < 6; i++) {
        int v = drawn(seed, i);
        for (int goes = Math.max(0, v - 1); goes <= v + 1; goes++) {
          x.set(0, 0, goes);
          int worth = 0;
          for (int j = 0; j < 6; j++) if (drawn(seed, j) >= goes) worth += 1 + j;
          Due.due("lot(" + seed + ") on DAY " + goes, x.lot(seed), worth);
        }
      }
      x.set(0, 0, 0);
      Due.due("lot(" + seed + "), none goes", x.lot(seed), 21);
      x.set(0, 0, 100);
      Due.due("lot(" + seed + "), all go", x.lot(seed), 0);
    }
    Due.due("count(0)", x.count(0), 6);
    Due.due("count(2)", x.count(2), 6);
    Due.of("BY LOT: no DISK");
    Due.due("lot(0)", new InTheOldOne().lot(0), 0);
  }

  private static void lotOfThoseThatRead() {
    Due.of("BY LOT: of DISKS that READ, in order, z anew for each");
    InTheOldOne x = disks(DISK, 0, CLOUD, 0, SHARED, 0, CLOUD, 0);
    for (int i = 0; i < 4; i++) if (i != 2) x.write(i, i, 1);
    x.set(0, 0, 1);
    x.write(2, 2, 1);
    Due.text(x, "takes 1;goes 50;worth 1+file;");
    x.force(1);
    for (int seed = 0; seed < 40; seed++) {
      int[] nth = {-1, 0, -1, 1};
      int worth = 0;
      for (int i = 0; i < 4; i++) if (nth[i] >= 0 && drawn(seed, nth[i]) >= 50) worth += 1 + i;
      x.set(0, 0, 308);
      Due.due("lot(" + seed + "), 1 and 3 READ", x.lot(seed), worth);
      worth = 0;
      for (int i = 1; i < 4; i++) if (drawn(seed, i - 1) >= 50) worth += 1 + i;
      x.set(0, 0, 309);
      Due.due("lot(" + seed + "), all but 0 READ", x.lot(seed), worth);
    }
  }

  private static void lotWrapping() {
    Due.of("BY LOT: z being z * 1103515245 + 12345 (an int; SEED at first)");
    InTheOldOne x = byDay(2);
    x.set(0, 0, 50);
    int[] seeds = {Integer.MIN_VALUE, Integer.MAX_VALUE, -1, Integer.MIN_VALUE + 1, Integer.MAX_VALUE - 1, 1 << 30, -12345};
    for (int seed : seeds) {
      int worth = (drawn(seed, 0) >= 50 ? 1 : 0) + (drawn(seed, 1) >= 50 ? 2 : 0);
      Due.due("lot(" + seed + ")", x.lot(seed), worth);
    }
  }

  private static void chance(InTheOldOne x, int seed, int n, int above, int below) {
    Due.due("chance(" + seed + ", " + n + ", 0)", x.chance(seed, n, 0), above);
    Due.due("chance(" + seed + ", " + n + ", 1)", x.chance(seed, n, 1), below);
  }

  private static void chanceSeeds() {
    Due.of("IN n seeds (1 .. 20), SEED and each 1 more (an int)");
    InTheOldOne x = byDay(1);
    x.set(0, 0, 50);
    int[] seeds = {0, -20, Integer.MAX_VALUE - 19, Integer.MAX_VALUE - 5, Integer.MAX_VALUE, Integer.MIN_VALUE};
    for (int seed : seeds) {
      int good = 0;
      for (int n = 1; n <= 20; n++) {
        if (drawn(seed + n - 1, 0) >= 50) good++;
        int divisor = divisor(good, n);
        chance(x, seed, n, good / divisor, n / divisor);
      }
    }
  }

  private static int divisor(int some, int of) {
    int divisor = 1;
    for (int d = 2; d <= of; d++) if (some % d == 0 && of % d == 0) divisor = d;
    return divisor;
  }

  private static void chanceLowestTerms() {
    Due.of("25. part 0 above, 1 below the line, in lowest terms");
    InTheOldOne x = byDay(1);
    for (int n = 1; n <= 20; n++) {
      x.set(0, 0, 0);
      chance(x, 7, n, 1, 1);
      x.set(0, 0, 100);
      chance(x, 7, n, 0, 1);
    }
    // Six of 12, eight of 20 and their like.
    boolean[] seen = new boolean[21];
    for (int day = 1; day < 100; day += 9) {
      x.set(0, 0, day);
      for (int n = 4; n <= 20; n += 4) {
        int good = 0;
        for (int i = 0; i < n; i++) if (drawn(1000 + i, 0) >= day) good++;
        int divisor = divisor(good, n);
        seen[divisor] = true;
        chance(x, 1000, n, good / divisor, n / divisor);
      }
    }
    Due.due("halves, thirds, quarters were among them", seen[1] && seen[2] && seen[4] ? 1 : 0, 1);
  }

  private static void chanceOnNow() {
    Due.of("IN n seeds: of these those by which nothing is LOST that is ON any now");
    chance(new InTheOldOne(), 0, 20, 1, 1);
    InTheOldOne x = disks(CLOUD, 0, CLOUD, 0, DISK, 0);
    Due.text(x, "takes 1;goes 100;worth 1+file;");
    Due.text(x, "takes 1;goes 50;worth 0;");
    x.force(1);
    chance(x, 0, 20, 1, 1);
    x.write(2, 5, 1);
    chance(x, 0, 20, 0, 1);
    x.set(0, 0, 301);
    chance(x, 0, 20, 1, 1);
    // FILE 0 on both: lost only if both go. FILE 1 on the second as well: lost if that goes. WORTH doesn't matter.
    x.write(0, 0, 1);
    x.write(1, 0, 2);
    x.force(2);
    for (int n = 1; n <= 20; n++) {
      int good = 0;
      for (int i = 0; i < n; i++) if (drawn(i, 0) >= 50 || drawn(i, 1) >= 50) good++;
      int divisor = divisor(good, n);
      chance(x, 0, n, good / divisor, n / divisor);
    }
    x.write(1, 1, 1);
    for (int n = 1; n <= 20; n++) {
      int good = 0;
      for (int i = 0; i < n; i++) if (drawn(i, 1) >= 50) good++;
      int divisor = divisor(good, n);
      chance(x, 0, n, good / divisor, n / divisor);
    }
  }

  private static void chanceRefused() {
    Due.of("25. NO: n, part");
    InTheOldOne x = byDay(1);
    int[] noN = {Integer.MIN_VALUE, -1, 0, 21, 22, Integer.MAX_VALUE};
    for (int n : noN) for (int part = 0; part < 2; part++) Due.due("chance(0, " + n + ", " + part + ")", x.chance(0, n, part), NO);
    int[] noPart = {Integer.MIN_VALUE, -1, 2, Integer.MAX_VALUE};
    for (int part : noPart) Due.due("chance(0, 1, " + part + ")", x.chance(0, 1, part), NO);
    for (int part : noPart) Due.due("chance(0, 20, " + part + ")", new InTheOldOne().chance(0, 20, part), NO);
    chance(x, 0, 1, 1, 1);
    chance(x, 0, 20, 1, 1);
  }

  private static void imageKeeps() {
    Due.of("AN IMAGE keeps THE DAY, NUMBERS, since when all are, CONTENTS, STAMPS, THE RULE");
    InTheOldOne x = disks(CLOUD, 3, CLOUD, 4);
    Due.text(x, "takes 1;goes 7;worth 0;");
    x.set(0, 0, 10);
    x.set(2, 1, 4);
    x.write(0, 0, 0);
    x.write(1, 7, 999);
    x.force(1);
    Due.due("image()", x.image(), 2);
    x.set(0, 0, 999);
    Due.due("back()", x.back(), 2);
    Due.due("told(0, 0): THE DAY", x.told(0, 0), 10);
    x.set(1, 0, 9);
    x.set(1, 1, 0);
    Due.due("back()", x.back(), 2);
    Due.due("told(0, 1): NUMBERS", x.told(0, 1), 3);
    Due.due("told(1, 1): NUMBERS", x.told(1, 1), 4);
    x.set(2, 0, 999);
    x.set(2, 1, 0);
    Due.due("back()", x.back(), 2);
    Due.due("told(0, 2): since when", x.told(0, 2), 0);
    Due.due("told(1, 2): since when", x.told(1, 2), 4);
    x.lose(0, 0);
    x.write(0, 1, 5);
    x.set(0, 0, 11);
    x.write(1, 7, 1);
    Due.due("back()", x.back(), 2);
    Due.due("file(0, 0, 0): CONTENTS", x.file(0, 0, 0), 0);
    Due.due("file(0, 1, 0): nothing", x.file(0, 1, 0), -1);
    Due.due("file(0, 1, 1): nothing", x.file(0, 1, 1), -100);
    Due.due("file(1, 7, 0): CONTENTS", x.file(1, 7, 0), 999);
    Due.due("file(1, 7, 1): STAMPS", x.file(1, 7, 1), 10);
    Due.due("count(2)", x.count(2), 2);
    x.force(0);
    Due.due("back()", x.back(), 2);
    Due.due("count(5): THE RULE", x.count(5), 1);
    Due.due("told(0, 8): THE RULE", x.told(0, 8), 7);
  }

  private static void imageKeepsNot() {
    Due.of("27. All that it keeps (and no more: TEXTS, THE TAPE, SHEETS are as they were)");
    InTheOldOne x = disks(CLOUD, 0);
    Due.due("image()", x.image(), 1);
    Due.text(x, "takes 1;goes 9;worth 0;");
    Due.feed(x, "takes 1;");
    x.write(0, 0, 7);
    x.film(2, 0);
    x.sheet(3, 0, 1);
    Due.due("back()", x.back(), 1);
    Due.due("count(3)", x.count(3), 2);
    Due.due("count(4)", x.count(4), 8);
    Due.due("force(1): THE RULE was 0", x.force(1), 0);
    Due.due("told(0, 8)", x.told(0, 8), 9);
    tells(x, 2, 0, 0, 0, 1);
    Due.due("cell(3, 0, 0)", x.cell(3, 0, 0), 1);
    Due.due("text()", Due.text(x, "goes 1;worth 1;"), 2);
    // And what comes behind an image() doesn't change it.
    x.write(0, 0, 8);
    Due.due("back()", x.back(), 1);
    Due.due("file(0, 0, 0)", x.file(0, 0, 0), -1);
  }

  private static void imageOnce() {
    Due.of("26. AN IMAGE is kept: how many DISKS");
    InTheOldOne x = new InTheOldOne();
    Due.due("image(), no DISK", x.image(), 0);
    for (int i = 0; i < 6; i++) {
      x.disk(i, 0);
      Due.due("image(), one DISK more", x.image(), i + 1);
      Due.due("back()", x.back(), i + 1);
      Due.due("count(0)", x.count(0), i + 1);
    }
    Due.of("27. as in THE IMAGE (the last one; as often as one likes)");
    InTheOldOne y = disks(CLOUD, 0);
    y.write(0, 0, 1);
    y.image();
    y.write(0, 0, 2);
    y.image();
    y.write(0, 0, 3);
    for (int n = 0; n < 3; n++) {
      Due.due("back()", y.back(), 1);
      Due.due("file(0, 0, 0)", y.file(0, 0, 0), 2);
      y.write(0, 0, 4 + n);
    }
  }

  private static void disksThatCameGo() {
    Due.of("(DISKS that came since go)");
    InTheOldOne x = new InTheOldOne();
    x.image();
    for (int i = 0; i < 6; i++) x.disk(PAPER, 9);
    for (int i = 0; i < 6; i++) x.write(i, i, 10);
    Due.due("back()", x.back(), 0);
    Due.due("count(0)", x.count(0), 0);
    Due.due("count(2)", x.count(2), 0);
    Due.due("all(1)", x.all(1), 0);
    Due.due("told(0, 3)", x.told(0, 3), -2);
    Due.due("disk(1, 2): there is room again", x.disk(CARD, 2), 0);
    Due.due("told(0, 3): another KIND", x.told(0, 3), 1);
    Due.due("told(0, 1)", x.told(0, 1), 2);
    for (int f = 0; f < 8; f++) Due.due("file(0, " + f + ", 0): empty", x.file(0, f, 0), -1);
    for (int f = 0; f < 8; f++) Due.due("file(0, " + f + ", 1): empty", x.file(0, f, 1), -100);
    x.image();
    x.disk(CLOUD, 0);
    x.force(0);
    Due.due("back(): one stays", x.back(), 1);
    Due.due("told(1, 3)", x.told(1, 3), -2);
    for (int i = 1; i < 6; i++) Due.due("disk(0, 0)", x.disk(DISK, 0), i);
    Due.due("disk(0, 0), full", x.disk(DISK, 0), -4);
  }

  private static void backRefused() {
    Due.of("27. STATE: there is none");
    InTheOldOne x = disks(CLOUD, 0);
    x.write(0, 0, 5);
    Due.due("back()", x.back(), -3);
    Due.due("count(0)", x.count(0), 1);
    Due.due("file(0, 0, 0)", x.file(0, 0, 0), 5);
    Due.due("image()", x.image(), 1);
    Due.due("back()", x.back(), 1);
    Due.due("back(), of another object", new InTheOldOne().back(), -3);
  }

  private static void count() {
    Due.of("28. 0 DISKS, 1 that READ, 2 CONTENTS on all DISKS, 3 TEXTS, 4 bytes of THE TAPE, 5 THE RULE");
    InTheOldOne x = disks(DISK, 0, CARD, 0, CLOUD, 0, OLD, 0, SHARED, 0, PAPER, 9);
    int[] empty = {6, 5, 0, 1, 0, 0};
    for (int what = 0; what < 6; what++) Due.due("count(" + what + ")", x.count(what), empty[what]);
    for (int f = 0; f < 8; f++) {
      x.write(0, f, 0);
      x.write(2, f, 0);
      x.write(5, f, 0);
    }
    x.write(1, 0, 0);
    x.write(3, 0, 0);
    for (int n = 0; n < 5; n++) Due.text(x, "takes 1;goes 1;worth 1;");
    x.force(5);
    x.set(0, 0, 302);
    x.feed(0);
    // On DAY 302 CLOUD, SHARED and PAPER READ; CONTENTS count on all.
    int[] then = {6, 3, 26, 6, 1, 5};
    for (int what = 0; what < 6; what++) Due.due("count(" + what + ")", x.count(what), then[what]);
  }

  private static void countRefused() {
    Due.of("28. BAD");
    int[] no = {Integer.MIN_VALUE, -1, 6, 7, Integer.MAX_VALUE};
    for (int what : no) Due.due("count(" + what + ")", new InTheOldOne().count(what), -2);
  }
}
