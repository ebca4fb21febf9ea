/** Promises 22 to 28: tells, film, lot, chance, image, back, count. */
public final class TellsTest {
  private static final long NO = -4611686018427387904L;

  public static void main(String[] args) {
    tellsWhat();
    tellsKinds();
    tellsNumbers();
    tellsDisksAndTexts();
    tellsRefused();
    film();
    lot();
    chance();
    chanceOfNothing();
    image();
    count();
    Due.end();
  }

  private static void tellsWhat() {
    InTheOldOne x = new InTheOldOne();
    x.disk(0, 0);
    x.disk(0, 0);
    x.write(0, 0, 5);
    x.write(0, 7, 0);
    Due.sheet(x, 0, 2, 5, -1, -1, -1, -1, -1, -1, 0);
    Due.due("tells(0, 0, 1, 0)", x.tells(0, 0, 1, 0), 0);
    Due.due("tells(0, 1, 0, 0)", x.tells(0, 1, 0, 0), 0b10000001);
    Due.due("tells(0, 0, 99, 0): one does not matter", x.tells(0, 0, 99, 0), 0);
    Due.due("tells(0, 0, 0, 0): one does not matter", x.tells(0, 0, 0, 0), 0);
    x.cell(0, 0, 6);
    x.cell(0, 1, -2);
    x.cell(0, 2, 0);
    Due.due("tells(0, 0, 1, 0): told otherwise", x.tells(0, 0, 1, 0), 0b111);
    x.set(0, 0, 900);
    Due.due("tells(0, 0, 1, 0): it need not read", x.tells(0, 0, 1, 0), 0b111);
    Due.sheet(x, 1, 0, 5, 255, 255, -1, 255, 255, -1, 256);
    Due.due("tells(1, 0, 1, 0): bytes, of which 255 is -1", x.tells(1, 0, 1, 0), 0);
  }

  private static void tellsKinds() {
    InTheOldOne x = new InTheOldOne();
    x.disk(2, 0);
    x.disk(0, 4);
    x.write(0, 0, 957);
    x.write(0, 1, 11);
    x.set(0, 0, 2);
    Due.sheet(x, 0, 1, 957, 11, -1, -1, -1, -1, -1, -1);
    Due.due("as it comes: not OLD, not PAPER", x.tells(0, 1, 0, 1), 0b010111);
    Due.sheet(x, 1, 1, 899, 11, -1, -1, -1, -1, -1, -1);
    Due.due("899: OLD", x.tells(1, 1, 0, 1), 0b001000);
    Due.sheet(x, 2, 1, 950, 10, -1, -1, -1, -1, -1, -1);
    Due.due("950, 10: PAPER", x.tells(2, 1, 0, 1), 0b100000);
    Due.sheet(x, 3, 1, 957, 11, 0, -1, -1, -1, -1, -1);
    Due.due("FILE 2 told, too: none", x.tells(3, 1, 0, 1), 0);
    Due.due("told(1, 3): in thought alone", x.told(1, 3), 0);
    x.set(0, 0, 3);
    Due.due("an odd day: no OLD one", x.tells(1, 1, 0, 1), 0);
    x.set(0, 0, 4);
    Due.due("day 4: no SHARED 4", x.tells(0, 1, 0, 1), 0b000111);
    x.set(0, 0, 102);
    Due.due("day 102: no CARD 4; 102 modulo 7 is 4", x.tells(0, 1, 0, 1), 0b000101);
    x.set(2, 0, 999);
    x.set(0, 0, 104);
    // The one must READ as it is; it is a CLOUD, and always does.
    Due.due("day 104: no CARD 4", x.tells(0, 1, 0, 1), 0b010101);
  }

  private static void tellsNumbers() {
    InTheOldOne x = new InTheOldOne();
    x.disk(2, 0);
    x.disk(1, 9);
    for (int file = 0; file < 3; file++) x.write(0, file, 20 + file);
    Due.sheet(x, 0, 1, 20, 21, 22, -1, -1, -1, -1, -1);
    Due.due("room for 3 or more", x.tells(0, 1, 0, 2), 0b1111110000);
    Due.sheet(x, 1, 1, 20, 21, -1, -1, -1, -1, -1, -1);
    Due.due("room for 2", x.tells(1, 1, 0, 2), 0b1100);
    Due.sheet(x, 2, 1, 20, -1, -1, -1, -1, -1, -1, -1);
    Due.due("room for 1", x.tells(2, 1, 0, 2), 0b11);
    Due.due("told(1, 1): in thought alone", x.told(1, 1), 9);
    x.set(0, 0, 150);
    Due.due("150 days old: 7 or more READ", x.tells(0, 1, 0, 2), 0b1110000000);
    x.set(0, 0, 0);
    Due.text(x, "takes number=4 or number=5 and file<1;goes 0;worth 0;");
    x.force(1);
    Due.due("by takes", x.tells(0, 1, 0, 2), 0b10000);
    Due.due("by takes", x.tells(2, 1, 0, 2), 0b100000);
  }

  private static void tellsDisksAndTexts() {
    InTheOldOne x = new InTheOldOne();
    for (int i = 0; i < 4; i++) x.disk(i == 3 ? 0 : 2, 0);
    x.write(0, 0, 5);
    x.write(1, 0, 6);
    x.write(2, 0, 5);
    x.write(3, 0, 5);
    x.lose(1, 0);
    Due.sheet(x, 0, 1, 5, -1, -1, -1, -1, -1, -1, -1);
    Due.due("DISKS", x.tells(0, 1, 0, 3), 0b1101);
    Due.due("DISKS, one does not matter", x.tells(0, 1, 1, 3), 0b1101);
    x.set(0, 0, 301);
    Due.due("DISKS, 3 doesn't read", x.tells(0, 1, -9, 3), 0b0101);
    Due.due("DISKS onto 3, that doesn't read", x.tells(0, 3, -9, 3), 0);
    Due.due("DISKS onto 0: it would have it anyway", x.tells(0, 0, 0, 3), 0b0110);
    x.write(1, 0, 6);
    Due.due("DISKS onto 1, what is there is newer", x.tells(0, 1, 0, 3), 0);
    Due.text(x, "takes there < here;goes 0;worth 0;");
    Due.text(x, "takes 0;goes 0;worth 0;");
    Due.text(x, "takes 1;goes 0;worth 0;");
    Due.due("TEXTS", x.tells(0, 1, 0, 4), 0b1010);
    Due.sheet(x, 1, 1, 6, -1, -1, -1, -1, -1, -1, -1);
    Due.due("TEXTS", x.tells(1, 1, 0, 4), 0b0101);
    Due.due("TEXTS, the one doesn't read", x.tells(1, 1, 3, 4), 0);
    Due.due("count(5): in thought alone", x.count(5), 0);
    Due.due("file(1, 0, 0): in thought alone", x.file(1, 0, 0), 6);
    x.force(3);
    Due.due("DISKS, by THE RULE now", x.tells(0, 1, 0, 3), 0b0101);
  }

  private static void tellsRefused() {
    InTheOldOne x = new InTheOldOne();
    x.disk(2, 0);
    x.disk(2, 0);
    Due.due("tells(-1, ..)", x.tells(-1, 0, 1, 0), -2);
    Due.due("tells(4, ..)", x.tells(4, 0, 1, 0), -2);
    Due.due("no such disk, ahead of missing", x.tells(0, 2, 1, 0), -2);
    Due.due("disk -1", x.tells(0, -1, 1, 0), -2);
    Due.due("what -1", x.tells(0, 0, 1, -1), -2);
    Due.due("what 5", x.tells(0, 0, 1, 5), -2);
    for (int what = 0; what < 5; what++) Due.due("missing, what " + what, x.tells(0, 0, 1, what), -11);
    for (int what = 0; what < 5; what++) {
      int due = what == 0 || what == 3 ? -11 : -2;
      Due.due("missing, one and the same, what " + what, x.tells(0, 0, 0, what), due);
      Due.due("missing, no such one, what " + what, x.tells(0, 0, 2, what), due);
      Due.due("missing, one -1, what " + what, x.tells(0, 0, -1, what), due);
    }
    x.sheet(0, 1, 7);
    Due.due("it tells 7", x.tells(0, 0, 1, 0), -2);
    x.sheet(0, 1, 9);
    Due.due("it tells 9", x.tells(0, 0, 1, 3), -2);
  }

  private static void film() {
    InTheOldOne x = new InTheOldOne();
    x.disk(0, 0);
    x.write(0, 2, 999);
    Due.due("film(-1, 0)", x.film(-1, 0), -2);
    Due.due("film(4, 0)", x.film(4, 0), -2);
    Due.due("film(0, 1)", x.film(0, 1), -2);
    Due.due("film(0, -1)", x.film(0, -1), -2);
    Due.due("cell(0, 0, 0), still missing", x.cell(0, 0, 0), -11);
    x.sheet(0, 0, 40);
    x.set(0, 0, 900);
    Due.due("film(0, 0), it need not read", x.film(0, 0), 8);
    Due.due("tells(0, 0, 0, 0)", x.tells(0, 0, 0, 0), 0);
    Due.due("cell(0, 8, 0)", x.cell(0, 8, 0), -12);
    x.sheet(1, 1, 8);
    Due.due("copy: of shorts", x.copy(0, 0, 1, 0, 8), 8);
    Due.due("tells(1, 0, 0, 0)", x.tells(1, 0, 0, 0), 0);
    x.set(0, 0, 0);
    x.write(0, 2, 998);
    Due.due("tells(0, 0, 0, 0): it tells what was", x.tells(0, 0, 0, 0), 4);
  }

  /** Six DISKS that always READ, FILE i on DISK i, of NUMBER i. */
  private static InTheOldOne sixByLot() {
    InTheOldOne x = new InTheOldOne();
    for (int i = 0; i < 6; i++) x.disk(2, i);
    for (int i = 0; i < 6; i++) x.write(i, i, 1);
    return x;
  }

  private static int below(int seed, int disk) {
    int z = seed;
    for (int i = 0; i <= disk; i++) z = z * 1103515245 + 12345;
    return (int) ((z & 0xffffffffL) / 512 % 100);
  }

  private static void lot() {
    InTheOldOne none = new InTheOldOne();
    Due.due("lot(1), no disk", none.lot(1), 0);
    InTheOldOne x = sixByLot();
    Due.text(x, "takes 1;goes 0;worth 1+file;");
    Due.text(x, "takes 1;goes 100;worth 1+file;");
    Due.text(x, "takes 1;goes 10*number;worth 1+file;");
    x.force(1);
    Due.due("lot(0), none goes", x.lot(0), 21);
    x.force(2);
    Due.due("lot(0), all go", x.lot(0), 0);
    x.force(3);
    int[] seeds = {0, 1, -1, 12345, Integer.MAX_VALUE, Integer.MIN_VALUE, 99999999};
    for (int seed : seeds) {
      int sum = 0;
      for (int i = 0; i < 6; i++) if (below(seed, i) >= 10 * i) sum += 1 + i;
      Due.due("lot(" + seed + ")", x.lot(seed), sum);
    }
    Due.due("count(0): in thought alone", x.count(0), 6);
    // A DISK that doesn't READ has no part: z is made anew for those that do.
    InTheOldOne y = new InTheOldOne();
    y.disk(0, 9);
    y.disk(2, 5);
    y.write(0, 7, 1);
    y.write(1, 1, 1);
    y.set(0, 0, 301);
    Due.text(y, "takes 1;goes 10*number;worth 1+file;");
    y.force(1);
    for (int seed : seeds) Due.due("lot(" + seed + "), one reads", y.lot(seed), below(seed, 0) >= 50 ? 2 : 0);
  }

  private static void chance() {
    InTheOldOne x = sixByLot();
    x.copies(0, 1);
    x.lose(5, 5);
    x.lose(4, 4);
    x.lose(3, 3);
    x.lose(2, 2);
    // FILE 0 on 0 and 1, FILE 1 on 1 alone: nothing is LOST if 1 stays, which it does from 20 on.
    Due.text(x, "takes 1;goes 20*number;worth 1+file;");
    x.force(1);
    int[] seeds = {0, 7, -5, Integer.MAX_VALUE - 3, 1000000};
    for (int seed : seeds) {
      for (int n = 1; n <= 20; n++) {
        int good = 0;
        for (int i = 0; i < n; i++) if (below(seed + i, 1) >= 20) good++;
        int divisor = 1;
        for (int d = 1; d <= n; d++) if (good % d == 0 && n % d == 0) divisor = d;
        Due.due("chance(" + seed + ", " + n + ", 0)", x.chance(seed, n, 0), good / divisor);
        Due.due("chance(" + seed + ", " + n + ", 1)", x.chance(seed, n, 1), n / divisor);
      }
    }
    Due.due("chance(0, 0, 0)", x.chance(0, 0, 0), NO);
    Due.due("chance(0, 21, 0)", x.chance(0, 21, 0), NO);
    Due.due("chance(0, -1, 1)", x.chance(0, -1, 1), NO);
    Due.due("chance(0, 1, 2)", x.chance(0, 1, 2), NO);
    Due.due("chance(0, 1, -1)", x.chance(0, 1, -1), NO);
  }

  private static void chanceOfNothing() {
    InTheOldOne x = new InTheOldOne();
    Due.due("chance(5, 20, 0), nothing there", x.chance(5, 20, 0), 1);
    Due.due("chance(5, 20, 1), nothing there", x.chance(5, 20, 1), 1);
    x.disk(2, 0);
    Due.text(x, "takes 1;goes 100;worth 1;");
    x.force(1);
    Due.due("chance(5, 20, 0), an empty disk goes", x.chance(5, 20, 0), 1);
    x.write(0, 0, 0);
    Due.due("chance(5, 20, 0), all go", x.chance(5, 20, 0), 0);
    Due.due("chance(5, 20, 1), all go: in lowest terms", x.chance(5, 20, 1), 1);
    // What is LOST already is not ON any now.
    InTheOldOne y = new InTheOldOne();
    y.disk(0, 0);
    y.write(0, 0, 0);
    y.set(0, 0, 301);
    Due.due("chance(5, 20, 0), LOST before", y.chance(5, 20, 0), 1);
  }

  private static void image() {
    InTheOldOne x = new InTheOldOne();
    Due.due("back(), none", x.back(), -3);
    Due.due("image(), no disk", x.image(), 0);
    x.disk(1, 5);
    Due.due("back(), the disk goes", x.back(), 0);
    Due.due("count(0)", x.count(0), 0);
    x.set(0, 0, 4);
    x.disk(1, 6);
    x.disk(2, 7);
    x.write(0, 0, 10);
    x.write(1, 1, 11);
    Due.text(x, "takes 1;goes 7;worth 2;");
    x.force(1);
    Due.due("image()", x.image(), 2);
    Due.text(x, "takes 1;goes 8;worth 3;");
    Due.feed(x, "abc");
    x.force(2);
    x.set(0, 0, 20);
    x.set(1, 0, 0);
    x.set(2, 1, 9);
    x.lose(1, 1);
    x.write(1, 2, 5);
    x.disk(5, 5);
    x.write(2, 0, 90);
    x.film(0, 2);
    Due.due("back()", x.back(), 2);
    Due.due("told(0, 0)", x.told(0, 0), 4);
    Due.due("told(0, 1)", x.told(0, 1), 6);
    Due.due("told(1, 2)", x.told(1, 2), 4);
    Due.due("told(2, 1)", x.told(2, 1), -2);
    Due.due("file(1, 1, 0)", x.file(1, 1, 0), 11);
    Due.due("file(1, 1, 1)", x.file(1, 1, 1), 4);
    Due.due("file(1, 2, 0)", x.file(1, 2, 0), -1);
    Due.due("count(5): THE RULE", x.count(5), 1);
    Due.due("count(3): TEXTS stay", x.count(3), 3);
    Due.due("count(4): THE TAPE stays", x.count(4), 3);
    Due.due("cell(0, 7, 1): SHEETS stay", x.cell(0, 7, 1), 1);
    Due.due("disk(3, 3): a new one, empty", x.disk(3, 3), 2);
    Due.due("told(2, 7)", x.told(2, 7), 0);
    Due.due("told(2, 3)", x.told(2, 3), 3);
    x.write(0, 0, 77);
    Due.due("back() once more", x.back(), 2);
    Due.due("file(0, 0, 0)", x.file(0, 0, 0), 10);
    x.disk(0, 0);
    Due.due("image(), a new one", x.image(), 3);
    x.lose(0, 0);
    Due.due("back()", x.back(), 3);
    Due.due("file(0, 0, 0)", x.file(0, 0, 0), 10);
  }

  private static void count() {
    InTheOldOne x = new InTheOldOne();
    x.disk(0, 0);
    x.disk(2, 0);
    x.write(0, 0, 1);
    x.write(0, 1, 1);
    x.write(1, 0, 1);
    x.feed(0);
    x.set(0, 0, 301);
    int[] due = {2, 1, 3, 1, 1, 0};
    for (int what = 0; what < 6; what++) Due.due("count(" + what + ")", x.count(what), due[what]);
    Due.due("count(6)", x.count(6), -2);
    Due.due("count(-1)", x.count(-1), -2);
  }
}
