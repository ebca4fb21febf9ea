/** Promises 1 to 5 and 9 to 14, and the terms 2 that they use: a test for each sentence that names a bound. */
public final class EdgesOfCopyingTest {
  private static final int DISK = 0, CARD = 1, CLOUD = 2, OLD = 3, SHARED = 4, PAPER = 5;
  private static final int[] NO_DISK = {Integer.MIN_VALUE, -1, 2, 3, 5, 6, Integer.MAX_VALUE};
  private static final int[] NO_FILE = {Integer.MIN_VALUE, -1, 8, Integer.MAX_VALUE};

  public static void main(String[] args) {
    newObject();
    set();
    disk();
    told();
    file();
    writeWhateverWas();
    writeMustRead();
    writeMustHaveRoom();
    writeRefused();
    throwAway();
    loseRefused();
    copyBothMustRead();
    copyFromFileZeroOn();
    copyOfWhichSomethingIsOnTheOne();
    copyLeavesOut();
    copyByTakesOfTheOther();
    copyKeepsAndStamps();
    copyHowMany();
    copiesRefused();
    on();
    newest();
    newestOfLikeOnes();
    newestRefused();
    differ();
    safe();
    lost();
    worth();
    allRefused();
    Due.end();
  }

  private static InTheOldOne disks(int... kindsAndNumbers) {
    InTheOldOne x = new InTheOldOne();
    for (int i = 0; i < kindsAndNumbers.length; i += 2) x.disk(kindsAndNumbers[i], kindsAndNumbers[i + 1]);
    return x;
  }

  private static void newObject() {
    Due.of("1. No DISKS");
    InTheOldOne x = new InTheOldOne();
    int[] counts = {0, 0, 0, 1, 0, 0};
    for (int what = 0; what < 6; what++) Due.due("count(" + what + ")", x.count(what), counts[what]);
    for (int d = -1; d < 7; d++) {
      Due.due("file(" + d + ", 0, 0)", x.file(d, 0, 0), -2);
      Due.due("told(" + d + ", 0)", x.told(d, 0), 0);
      Due.due("told(" + d + ", 3)", x.told(d, 3), -2);
    }
    for (int what = 0; what < 9; what++) Due.due("all(" + what + ")", x.all(what), 0);
    Due.due("copies(0, 1)", x.copies(0, 1), -2);
    Due.due("worst(0)", x.worst(0), -1);
    Due.due("letGo()", x.letGo(), -1);
    Due.due("lot(7)", x.lot(7), 0);
  }

  private static void set() {
    Due.of("2. THE DAY (what 0; of does not matter)");
    InTheOldOne x = disks(CLOUD, 5, CARD, 6);
    int[] any = {Integer.MIN_VALUE, -1, 0, 1, 2, 6, Integer.MAX_VALUE};
    for (int i = 0; i < any.length; i++) Due.due("set(0, " + any[i] + ", ..)", x.set(0, any[i], i + 1), i);
    Due.of("2. NUMBER (1), since when it is (2) of a DISK becomes v: what it was");
    Due.due("set(1, 1, 0)", x.set(1, 1, 0), 6);
    Due.due("set(1, 1, 9)", x.set(1, 1, 9), 0);
    Due.due("told(0, 1), of the other", x.told(0, 1), 5);
    Due.due("set(2, 1, 999)", x.set(2, 1, 999), 0);
    Due.due("set(2, 1, 0)", x.set(2, 1, 0), 999);
    Due.due("told(0, 2), of the other", x.told(0, 2), 0);
    Due.of("2. BAD");
    for (int of : NO_DISK) {
      Due.due("set(1, " + of + ", 0)", x.set(1, of, 0), -2);
      Due.due("set(2, " + of + ", 0)", x.set(2, of, 0), -2);
    }
    int[] what = {Integer.MIN_VALUE, -1, 3, 4, Integer.MAX_VALUE};
    for (int w : what) Due.due("set(" + w + ", 0, 0)", x.set(w, 0, 0), -2);
    int[][] no = {{-1, 1000}, {-1, 10, 1000}, {-1, 1000}};
    for (int w = 0; w < 3; w++) for (int v : no[w]) Due.due("set(" + w + ", 0, " + v + ")", x.set(w, 0, v), -2);
    for (int w = 0; w < 3; w++) Due.due("set(" + w + ", 0, least)", x.set(w, 0, Integer.MIN_VALUE), -2);
    for (int w = 0; w < 3; w++) Due.due("set(" + w + ", 0, greatest)", x.set(w, 0, Integer.MAX_VALUE), -2);
  }

  private static void disk() {
    Due.of("3. A DISK: its number. BAD; FULL");
    InTheOldOne x = new InTheOldOne();
    int[][] bad = {{-1, 0}, {6, 0}, {0, -1}, {0, 10}, {Integer.MIN_VALUE, 0}, {Integer.MAX_VALUE, 0},
        {0, Integer.MIN_VALUE}, {0, Integer.MAX_VALUE}, {6, 10}};
    for (int[] b : bad) Due.due("disk(" + b[0] + ", " + b[1] + ")", x.disk(b[0], b[1]), -2);
    for (int i = 0; i < 6; i++) Due.due("disk(" + i + ", 9)", x.disk(i, 9), i);
    Due.due("disk(0, 0), full", x.disk(0, 0), -4);
    Due.due("disk(5, 9), full", x.disk(5, 9), -4);
    Due.of("3. BAD; FULL: BAD is named first");
    for (int[] b : bad) Due.due("disk(" + b[0] + ", " + b[1] + "), full", x.disk(b[0], b[1]), -2);
    Due.due("count(0)", x.count(0), 6);
  }

  private static void told() {
    Due.of("4. What 0 .. 2 as of set()");
    InTheOldOne x = disks(CLOUD, 5, CARD, 6);
    x.set(0, 0, 999);
    x.set(2, 1, 998);
    for (int of : NO_DISK) Due.due("told(" + of + ", 0)", x.told(of, 0), 999);
    Due.due("told(1, 1)", x.told(1, 1), 6);
    Due.due("told(1, 2)", x.told(1, 2), 998);
    Due.of("4. 4 whether it READS (1, 0)");
    Due.due("told(1, 4)", x.told(1, 4), 1);
    x.set(2, 1, 0);
    Due.due("told(1, 4)", x.told(1, 4), 0);
    Due.of("4. 5 what its clock STAMPS, 6 for how many FILES it HAS ROOM, 7 how many it has, 8 goes of a DISK");
    Due.due("told(1, 5), it doesn't READ", x.told(1, 5), 993);
    Due.due("told(1, 6), it doesn't READ", x.told(1, 6), 4);
    Due.due("told(1, 7), it doesn't READ", x.told(1, 7), 0);
    Due.due("told(1, 8), it doesn't READ", x.told(1, 8), 5);
    for (int file = 0; file < 8; file++) x.write(0, file, 0);
    Due.due("told(0, 7), all", x.told(0, 7), 8);
    Due.of("4. BAD");
    for (int of : NO_DISK) for (int what = 1; what < 9; what++) Due.due("told(" + of + ", " + what + ")", x.told(of, what), -2);
    int[] no = {Integer.MIN_VALUE, -1, 9, Integer.MAX_VALUE};
    for (int what : no) Due.due("told(0, " + what + ")", x.told(0, what), -2);
  }

  private static void file() {
    Due.of("5. the CONTENT (what 0; NONE), the STAMP (1; -100: nothing)");
    InTheOldOne x = disks(CLOUD, 0, DISK, 0);
    for (int f = 0; f < 8; f++) Due.due("file(1, " + f + ", 0)", x.file(1, f, 0), -1);
    for (int f = 0; f < 8; f++) Due.due("file(1, " + f + ", 1)", x.file(1, f, 1), -100);
    x.write(1, 7, 0);
    Due.due("file(1, 7, 0)", x.file(1, 7, 0), 0);
    Due.due("file(1, 7, 1)", x.file(1, 7, 1), 0);
    Due.due("file(1, 6, 0)", x.file(1, 6, 0), -1);
    Due.due("file(0, 7, 0)", x.file(0, 7, 0), -1);
    x.set(0, 0, 301);
    Due.due("file(1, 7, 0), it doesn't READ", x.file(1, 7, 0), 0);
    Due.of("5. BAD");
    for (int d : NO_DISK) for (int what = 0; what < 2; what++) Due.due("file(" + d + ", 0, " + what + ")", x.file(d, 0, what), -2);
    for (int f : NO_FILE) for (int what = 0; what < 2; what++) Due.due("file(0, " + f + ", " + what + ")", x.file(0, f, what), -2);
    int[] no = {Integer.MIN_VALUE, -1, 2, Integer.MAX_VALUE};
    for (int what : no) Due.due("file(0, 0, " + what + ")", x.file(0, 0, what), -2);
  }

  private static void writeWhateverWas() {
    Due.of("TO WRITE: what it KEEPS of it, with the STAMP of its clock, is there, whatever was");
    InTheOldOne x = disks(CLOUD, 0, CLOUD, 0);
    x.set(0, 0, 500);
    Due.due("write(0, 0, 8)", x.write(0, 0, 8), 8);
    x.set(0, 0, 3);
    Due.due("write(0, 0, 7), over a newer one", x.write(0, 0, 7), 7);
    Due.due("file(0, 0, 0)", x.file(0, 0, 0), 7);
    Due.due("file(0, 0, 1)", x.file(0, 0, 1), 3);
    x.set(0, 0, 4);
    Due.due("write(0, 0, 7), the same", x.write(0, 0, 7), 7);
    Due.due("file(0, 0, 1)", x.file(0, 0, 1), 4);
    Due.text(x, "takes 0;goes 0;worth 0;");
    x.force(1);
    Due.due("write(0, 0, 6), takes does not matter", x.write(0, 0, 6), 6);
    Due.due("told(0, 7)", x.told(0, 7), 1);
    Due.due("told(1, 7), of the other", x.told(1, 7), 0);
    Due.of("9. TO WRITE, truly: what is kept");
    InTheOldOne y = disks(PAPER, 9, OLD, 0);
    Due.due("write(0, 0, 9)", y.write(0, 0, 9), 0);
    Due.due("file(0, 0, 0)", y.file(0, 0, 0), 0);
    Due.due("write(1, 0, 900)", y.write(1, 0, 900), 899);
    Due.due("file(1, 0, 0)", y.file(1, 0, 0), 899);
  }

  private static void writeMustRead() {
    Due.of("TO WRITE: it must READ. 9. STATE: it doesn't READ");
    InTheOldOne x = disks(DISK, 0);
    x.set(0, 0, 300);
    Due.due("write(0, 0, 5), 300 DAYS old", x.write(0, 0, 5), 5);
    x.set(0, 0, 301);
    Due.due("write(0, 0, 6), 301 DAYS old", x.write(0, 0, 6), -3);
    Due.due("write(0, 1, 6), 301 DAYS old", x.write(0, 1, 6), -3);
    Due.due("file(0, 0, 0)", x.file(0, 0, 0), 5);
    Due.due("file(0, 1, 0)", x.file(0, 1, 0), -1);
    x.set(0, 0, 0);
    Due.due("write(0, 0, 6), 0 DAYS old", x.write(0, 0, 6), 6);
  }

  private static void writeMustHaveRoom() {
    Due.of("TO WRITE: if nothing of that FILE was there, have ROOM for one more. 9. FULL");
    InTheOldOne x = disks(CARD, 2, PAPER, 0);
    Due.due("write(0, 7, 1)", x.write(0, 7, 1), 1);
    Due.due("write(0, 0, 1)", x.write(0, 0, 1), 1);
    for (int f = 1; f < 7; f++) Due.due("write(0, " + f + ", 2)", x.write(0, f, 2), -4);
    Due.due("write(0, 7, 3), it was there", x.write(0, 7, 3), 3);
    x.set(1, 0, 1);
    Due.due("write(0, 0, 4): more there than ROOM, it was there", x.write(0, 0, 4), 4);
    Due.due("write(0, 1, 4): more there than ROOM", x.write(0, 1, 4), -4);
    x.lose(0, 0);
    Due.due("write(0, 0, 4): as many there as ROOM", x.write(0, 0, 4), -4);
    x.lose(0, 7);
    Due.due("write(0, 0, 4): ROOM again", x.write(0, 0, 4), 4);
    Due.due("write(1, 0, 1): no ROOM at all", x.write(1, 0, 1), -4);
    x.set(1, 1, 1);
    Due.due("write(1, 0, 1): ROOM for one", x.write(1, 0, 1), 0);
    x.set(1, 1, 0);
    Due.due("write(1, 0, 11): it was there", x.write(1, 0, 11), 10);
    Due.due("told(1, 7)", x.told(1, 7), 1);
  }

  private static void writeRefused() {
    Due.of("9. BAD");
    InTheOldOne x = disks(CLOUD, 0, CARD, 0);
    for (int d : NO_DISK) Due.due("write(" + d + ", 0, 1)", x.write(d, 0, 1), -2);
    for (int f : NO_FILE) Due.due("write(0, " + f + ", 1)", x.write(0, f, 1), -2);
    int[] no = {Integer.MIN_VALUE, -1, 1000, Integer.MAX_VALUE};
    for (int c : no) Due.due("write(0, 0, " + c + ")", x.write(0, 0, c), -2);
    Due.due("count(2)", x.count(2), 0);
    Due.of("9. BAD; STATE; FULL: BAD is named first");
    x.write(1, 0, 1);
    for (int c : no) Due.due("write(1, 1, " + c + "), full", x.write(1, 1, c), -2);
    x.set(0, 0, 21);
    for (int c : no) Due.due("write(1, 1, " + c + "), it doesn't READ", x.write(1, 1, c), -2);
    for (int f : NO_FILE) Due.due("write(1, " + f + ", 1), it doesn't READ", x.write(1, f, 1), -2);
    Due.of("9. BAD; STATE; FULL: STATE is named ahead of FULL");
    Due.due("write(1, 1, 1), full, and it doesn't READ", x.write(1, 1, 1), -3);
  }

  private static void throwAway() {
    Due.of("TO THROW AWAY: nothing is there then. 10. the CONTENT that was there (NONE)");
    InTheOldOne x = disks(CLOUD, 0, CARD, 0);
    for (int f = 0; f < 8; f++) x.write(0, f, 10 * f);
    for (int f = 0; f < 8; f += 7) {
      Due.due("lose(0, " + f + ")", x.lose(0, f), 10 * f);
      Due.due("file(0, " + f + ", 0)", x.file(0, f, 0), -1);
      Due.due("file(0, " + f + ", 1)", x.file(0, f, 1), -100);
      Due.due("on(" + f + ")", x.on(f), 0);
      Due.due("lose(0, " + f + ") once more", x.lose(0, f), -1);
    }
    Due.due("count(2)", x.count(2), 6);
    Due.due("file(0, 6, 0)", x.file(0, 6, 0), 60);
    x.write(1, 3, 5);
    Due.due("lose(1, 3)", x.lose(1, 3), 5);
    Due.due("file(0, 3, 0), of the other", x.file(0, 3, 0), 30);
    Due.due("write(1, 4, 5): there is ROOM again", x.write(1, 4, 5), 5);
  }

  private static void loseRefused() {
    Due.of("10. BAD; STATE: it doesn't READ");
    InTheOldOne x = disks(CLOUD, 0, DISK, 0);
    x.write(1, 0, 5);
    for (int d : NO_DISK) Due.due("lose(" + d + ", 0)", x.lose(d, 0), -2);
    for (int f : NO_FILE) Due.due("lose(1, " + f + ")", x.lose(1, f), -2);
    x.set(0, 0, 301);
    Due.due("lose(1, 0)", x.lose(1, 0), -3);
    Due.due("lose(1, 1), nothing there", x.lose(1, 1), -3);
    Due.due("file(1, 0, 0)", x.file(1, 0, 0), 5);
    Due.of("10. BAD; STATE: BAD is named first");
    for (int f : NO_FILE) Due.due("lose(1, " + f + "), it doesn't READ", x.lose(1, f), -2);
    x.set(0, 0, 300);
    Due.due("lose(1, 0), 300 DAYS old", x.lose(1, 0), 5);
  }

  private static void copyBothMustRead() {
    Due.of("TO COPY one DISK onto another one (both must READ). 11. STATE: one doesn't READ");
    InTheOldOne x = disks(DISK, 0, CLOUD, 0, DISK, 0);
    x.write(0, 0, 1);
    x.write(1, 1, 2);
    x.write(2, 2, 3);
    x.set(0, 0, 301);
    Due.due("copies(0, 1): the one doesn't READ", x.copies(0, 1), -3);
    Due.due("copies(1, 0): the other doesn't READ", x.copies(1, 0), -3);
    Due.due("copies(0, 2): neither READS", x.copies(0, 2), -3);
    Due.due("count(2)", x.count(2), 3);
    x.set(0, 0, 300);
    Due.due("copies(0, 1), 300 DAYS old", x.copies(0, 1), 1);
    Due.due("copies(1, 0), 300 DAYS old", x.copies(1, 0), 1);
  }

  private static void copyFromFileZeroOn() {
    Due.of("TO COPY: FILE by FILE, from 0 on");
    InTheOldOne x = disks(CLOUD, 0, CARD, 0, CARD, 2, CARD, 4);
    for (int f = 0; f < 8; f++) x.write(0, f, 100 + f);
    Due.due("copies(0, 1)", x.copies(0, 1), 1);
    Due.due("on(0)", x.on(0), 0b0011);
    Due.due("copies(0, 2)", x.copies(0, 2), 2);
    Due.due("on(1)", x.on(1), 0b0101);
    Due.due("copies(0, 3)", x.copies(0, 3), 3);
    int[] on = {0b1111, 0b1101, 0b1001, 1, 1, 1, 1, 1};
    for (int f = 0; f < 8; f++) Due.due("on(" + f + ")", x.on(f), on[f]);
    // What takes leaves where it is takes up no ROOM.
    InTheOldOne y = disks(CLOUD, 0, CARD, 0);
    for (int f = 0; f < 8; f++) y.write(0, f, 100 + f);
    Due.text(y, "takes file=5 or file=7;goes 0;worth 0;");
    y.force(1);
    Due.due("copies(0, 1) by takes", y.copies(0, 1), 1);
    Due.due("file(1, 5, 0)", y.file(1, 5, 0), 105);
    Due.due("file(1, 7, 0)", y.file(1, 7, 0), -1);
  }

  private static void copyOfWhichSomethingIsOnTheOne() {
    Due.of("TO COPY: of which something is on the one");
    InTheOldOne x = disks(CLOUD, 0, CLOUD, 0);
    for (int f = 0; f < 8; f++) x.write(1, f, 0);
    Due.text(x, "takes 1;goes 0;worth 0;");
    x.force(1);
    Due.due("copies(0, 1): nothing is on the one", x.copies(0, 1), 0);
    Due.due("told(1, 7)", x.told(1, 7), 8);
    x.write(0, 7, 0);
    Due.due("copies(0, 1): a CONTENT of 0", x.copies(0, 1), 1);
    for (int f = 0; f < 8; f++) Due.due("file(1, " + f + ", 0)", x.file(1, f, 0), 0);
  }

  private static void copyLeavesOut() {
    Due.of("TO COPY: if nothing of it is on the other, and that has no ROOM for one more, it is left out");
    InTheOldOne x = disks(CLOUD, 0, CARD, 2, PAPER, 0);
    for (int f = 0; f < 8; f++) x.write(0, f, 100 + f);
    x.write(1, 3, 500);
    x.write(1, 6, 600);
    Due.text(x, "takes 1;goes 0;worth 0;");
    x.force(1);
    Due.due("copies(0, 1): full, what is there comes", x.copies(0, 1), 2);
    int[] there = {-1, -1, -1, 103, -1, -1, 106, -1};
    for (int f = 0; f < 8; f++) Due.due("file(1, " + f + ", 0)", x.file(1, f, 0), there[f]);
    Due.due("copies(0, 2): no ROOM at all", x.copies(0, 2), 0);
    Due.due("told(2, 7)", x.told(2, 7), 0);
    x.set(1, 1, 0);
    x.write(0, 3, 203);
    Due.due("copies(0, 1): more there than ROOM", x.copies(0, 1), 2);
    Due.due("file(1, 3, 0)", x.file(1, 3, 0), 203);
    Due.due("told(1, 7)", x.told(1, 7), 2);
    x.lose(1, 3);
    Due.due("copies(0, 1): as many there as ROOM", x.copies(0, 1), 1);
    Due.due("file(1, 6, 0)", x.file(1, 6, 0), 106);
    // What comes takes up the last ROOM: FILE 7, that is there, is over it, but not left out.
    InTheOldOne y = disks(CLOUD, 0, CARD, 4);
    for (int f = 0; f < 8; f++) y.write(0, f, 100 + f);
    y.write(1, 7, 500);
    Due.text(y, "takes 1;goes 0;worth 0;");
    y.force(1);
    Due.due("copies(0, 1)", y.copies(0, 1), 3);
    int[] came = {100, 101, -1, -1, -1, -1, -1, 107};
    for (int f = 0; f < 8; f++) Due.due("file(1, " + f + ", 0)", y.file(1, f, 0), came[f]);
  }

  private static void copyByTakesOfTheOther() {
    Due.of("TO COPY: else, if takes (of the other) is not 0");
    InTheOldOne x = disks(CLOUD, 2, CLOUD, 9);
    x.write(0, 0, 1);
    x.write(1, 1, 2);
    Due.text(x, "takes number=9;goes 0;worth 0;");
    Due.text(x, "takes 0;goes 0;worth 0;");
    x.force(1);
    Due.due("copies(0, 1): the other has NUMBER 9", x.copies(0, 1), 1);
    Due.due("copies(1, 0): the other has NUMBER 2", x.copies(1, 0), 0);
    Due.due("on(1)", x.on(1), 2);
    x.force(2);
    x.lose(1, 0);
    Due.due("copies(0, 1): takes is 0, with nothing there", x.copies(0, 1), 0);
    Due.due("on(0)", x.on(0), 1);
  }

  private static void copyKeepsAndStamps() {
    Due.of("TO COPY: what the other KEEPS of it is there, with the STAMP that it has on the one");
    InTheOldOne x = disks(CLOUD, 0, OLD, 8, PAPER, 8, SHARED, 9, CARD, 9);
    x.set(0, 0, 6);
    x.write(0, 2, 999);
    x.set(0, 0, 40);
    int[] kept = {999, 899, 990, 999, 999};
    for (int d = 1; d < 5; d++) {
      Due.due("copies(0, " + d + ")", x.copies(0, d), 1);
      Due.due("file(" + d + ", 2, 0)", x.file(d, 2, 0), kept[d]);
      Due.due("file(" + d + ", 2, 1)", x.file(d, 2, 1), 6);
    }
    Due.due("file(0, 2, 0), as it was", x.file(0, 2, 0), 999);
    x.lose(0, 2);
    Due.due("copies(1, 0): back from the OLD one", x.copies(1, 0), 1);
    Due.due("file(0, 2, 0)", x.file(0, 2, 0), 899);
    Due.due("file(0, 2, 1)", x.file(0, 2, 1), 6);
    x.lose(1, 2);
    Due.due("copies(2, 1): from the PAPER", x.copies(2, 1), 1);
    Due.due("file(1, 2, 0)", x.file(1, 2, 0), 899);
    x.lose(2, 2);
    Due.due("copies(0, 2): 899 onto PAPER", x.copies(0, 2), 1);
    Due.due("file(2, 2, 0)", x.file(2, 2, 0), 890);
  }

  private static void copyHowMany() {
    Due.of("TO COPY: How many so came");
    for (int n = 0; n <= 8; n++) {
      InTheOldOne x = disks(CLOUD, 0, CLOUD, 0);
      for (int f = 0; f < n; f++) x.write(0, 7 - f, 1);
      Due.due("copies(0, 1) with " + n + " FILES", x.copies(0, 1), n);
      Due.due("told(1, 7)", x.told(1, 7), n);
      Due.due("told(0, 7)", x.told(0, 7), n);
      Due.due("copies(0, 1) once more", x.copies(0, 1), 0);
    }
    // What comes counts, like as it may be to what is there.
    InTheOldOne x = disks(CLOUD, 0, CLOUD, 0);
    for (int f = 0; f < 8; f++) x.write(f % 2, f, 3);
    for (int f = 0; f < 8; f++) x.write(1, f, 3);
    Due.text(x, "takes 1;goes 0;worth 0;");
    x.force(1);
    Due.due("copies(0, 1): all alike", x.copies(0, 1), 4);
  }

  private static void copiesRefused() {
    Due.of("11. BAD: no such, one and the same");
    InTheOldOne x = disks(CLOUD, 0, DISK, 0);
    for (int d : NO_DISK) {
      Due.due("copies(0, " + d + ")", x.copies(0, d), -2);
      Due.due("copies(" + d + ", 0)", x.copies(d, 0), -2);
      Due.due("copies(" + d + ", " + d + ")", x.copies(d, d), -2);
    }
    Due.due("copies(0, 0)", x.copies(0, 0), -2);
    Due.due("copies(1, 1)", x.copies(1, 1), -2);
    Due.of("11. BAD; STATE: BAD is named first");
    x.set(0, 0, 301);
    Due.due("copies(1, 1), it doesn't READ", x.copies(1, 1), -2);
    Due.due("copies(1, 2), the one doesn't READ", x.copies(1, 2), -2);
    Due.due("copies(-1, 1), the other doesn't READ", x.copies(-1, 1), -2);
  }

  private static void on() {
    Due.of("ON (a FILE): DISKS (bits) that READ and have something of it");
    InTheOldOne x = disks(CLOUD, 0, DISK, 0, CLOUD, 0, CARD, 0, CLOUD, 0, CLOUD, 0);
    Due.due("on(7), none", x.on(7), 0);
    for (int d = 0; d < 6; d++) {
      x.write(d, 7, 0);
      Due.due("on(7)", x.on(7), (2 << d) - 1);
    }
    Due.due("on(6)", x.on(6), 0);
    x.set(0, 0, 20);
    Due.due("on(7) on DAY 20", x.on(7), 0b111111);
    x.set(0, 0, 21);
    Due.due("on(7) on DAY 21", x.on(7), 0b110111);
    x.set(0, 0, 301);
    Due.due("on(7) on DAY 301", x.on(7), 0b110101);
    Due.of("12. BAD");
    for (int f : NO_FILE) Due.due("on(" + f + ")", x.on(f), -2);
  }

  private static void newest() {
    Due.of("NEWEST: that of these with the most STAMP");
    InTheOldOne x = disks(CLOUD, 0, DISK, 0, CLOUD, 0);
    int[] days = {5, 7, 6};
    for (int d = 0; d < 3; d++) {
      x.set(0, 0, days[d]);
      x.write(d, 0, 50 + d);
    }
    Due.due("newest(0, 0)", x.newest(0, 0), 1);
    Due.due("newest(0, 1)", x.newest(0, 1), 51);
    Due.due("newest(0, 2)", x.newest(0, 2), 7);
    Due.of("NEWEST: of these (that READ)");
    x.set(0, 0, 301);
    Due.due("newest(0, 0): 1 doesn't READ", x.newest(0, 0), 2);
    Due.due("newest(0, 1): 1 doesn't READ", x.newest(0, 1), 52);
    Due.due("newest(0, 2): 1 doesn't READ", x.newest(0, 2), 6);
    Due.of("NEWEST: a STAMP below 0 is one, too");
    InTheOldOne y = disks(CARD, 9, CARD, 8, CARD, 9);
    y.write(0, 0, 1);
    Due.due("newest(0, 0)", y.newest(0, 0), 0);
    Due.due("newest(0, 2)", y.newest(0, 2), -9);
    y.write(2, 0, 3);
    y.write(1, 0, 2);
    Due.due("newest(0, 0): -8 is more than -9", y.newest(0, 0), 1);
    Due.due("newest(0, 2)", y.newest(0, 2), -8);
  }

  private static void newestOfLikeOnes() {
    Due.of("NEWEST: of like ones the first");
    InTheOldOne x = disks(CLOUD, 0, CLOUD, 0, CLOUD, 0, CLOUD, 0, CLOUD, 0, CLOUD, 0);
    for (int d = 5; d >= 0; d--) {
      x.write(d, 0, 50 + d);
      Due.due("newest(0, 0)", x.newest(0, 0), d);
      Due.due("newest(0, 1)", x.newest(0, 1), 50 + d);
    }
    x.set(0, 0, 1);
    x.write(4, 0, 60);
    Due.due("newest(0, 0), one is newer", x.newest(0, 0), 4);
    x.write(5, 0, 60);
    Due.due("newest(0, 0), two are", x.newest(0, 0), 4);
    x.write(2, 0, 60);
    Due.due("newest(0, 0), three are", x.newest(0, 0), 2);
  }

  private static void newestRefused() {
    Due.of("13. its STAMP (2; -100). NONE (what 0, 1): it is ON none");
    InTheOldOne x = disks(DISK, 0, CLOUD, 0);
    for (int f = 0; f < 8; f += 7) {
      Due.due("newest(" + f + ", 0)", x.newest(f, 0), -1);
      Due.due("newest(" + f + ", 1)", x.newest(f, 1), -1);
      Due.due("newest(" + f + ", 2)", x.newest(f, 2), -100);
    }
    x.write(0, 0, 0);
    Due.due("newest(0, 0)", x.newest(0, 0), 0);
    Due.due("newest(0, 1)", x.newest(0, 1), 0);
    Due.due("newest(0, 2)", x.newest(0, 2), 0);
    x.set(0, 0, 301);
    Due.due("newest(0, 0): it is LOST", x.newest(0, 0), -1);
    Due.due("newest(0, 1): it is LOST", x.newest(0, 1), -1);
    Due.due("newest(0, 2): it is LOST", x.newest(0, 2), -100);
    Due.of("13. BAD (ahead of NONE)");
    for (int f : NO_FILE) for (int what = 0; what < 3; what++) Due.due("newest(" + f + ", " + what + ")", x.newest(f, what), -2);
    int[] no = {Integer.MIN_VALUE, -1, 3, Integer.MAX_VALUE};
    for (int what : no) Due.due("newest(0, " + what + ")", x.newest(0, what), -2);
  }

  private static void differ() {
    Due.of("DIFFER: FILES (bits) of which two DISKS that READ have unlike CONTENTS");
    InTheOldOne x = disks(CLOUD, 0, CLOUD, 0, CLOUD, 0, DISK, 0);
    Due.due("all(0), nothing there", x.all(0), 0);
    x.write(0, 0, 5);
    x.write(0, 7, 0);
    Due.due("all(0), on one alone", x.all(0), 0);
    x.write(1, 0, 5);
    x.write(1, 7, 0);
    Due.due("all(0), two alike", x.all(0), 0);
    x.write(2, 7, 1);
    Due.due("all(0), the third is not like", x.all(0), 0b10000000);
    x.write(1, 7, 1);
    Due.due("all(0), the first is not like", x.all(0), 0b10000000);
    x.write(0, 7, 1);
    Due.due("all(0), alike again", x.all(0), 0);
    x.set(0, 0, 5);
    x.write(1, 0, 5);
    Due.due("all(0), STAMPS don't matter", x.all(0), 0);
    x.write(3, 0, 6);
    x.write(3, 1, 6);
    Due.due("all(0), the last is not like", x.all(0), 1);
    x.set(0, 0, 301);
    Due.due("all(0), the last doesn't READ", x.all(0), 0);
  }

  private static void safe() {
    Due.of("SAFE (k): FILES (bits) that are ON k DISKS or more. 14. SAFE (what, 1 .. 6)");
    InTheOldOne x = disks(CLOUD, 0, CLOUD, 0, CLOUD, 0, CLOUD, 0, CLOUD, 0, DISK, 0);
    for (int k = 1; k < 7; k++) Due.due("all(" + k + "), nothing there", x.all(k), 0);
    for (int on = 1; on < 7; on++) {
      x.write(6 - on, 7, on);
      for (int k = 1; k < 7; k++) Due.due("all(" + k + "), on " + on, x.all(k), k <= on ? 0b10000000 : 0);
    }
    x.set(0, 0, 301);
    Due.due("all(6), one doesn't READ", x.all(6), 0);
    Due.due("all(5), one doesn't READ", x.all(5), 0b10000000);
    for (int f = 0; f < 7; f++) x.write(0, f, 1);
    Due.due("all(1), all FILES", x.all(1), 255);
  }

  private static void lost() {
    Due.of("LOST: FILES (bits) that are ON none, but on some DISK that doesn't READ");
    InTheOldOne x = disks(DISK, 0, CARD, 0, CLOUD, 0);
    Due.due("all(7), nothing there", x.all(7), 0);
    x.write(0, 0, 1);
    x.write(0, 7, 1);
    x.write(1, 0, 1);
    x.write(2, 3, 1);
    Due.due("all(7), all READ", x.all(7), 0);
    x.set(0, 0, 21);
    Due.due("all(7): FILE 0 is ON one still", x.all(7), 0);
    x.set(0, 0, 301);
    Due.due("all(7)", x.all(7), 0b10000001);
    x.write(2, 7, 5);
    Due.due("all(7): FILE 7 is ON one", x.all(7), 1);
    x.set(0, 0, 300);
    Due.due("all(7), on DAY 300", x.all(7), 0);
    x.lose(0, 0);
    x.lose(0, 7);
    x.set(0, 0, 301);
    Due.due("all(7): FILE 0 is on the CARD", x.all(7), 1);
  }

  private static void worth() {
    Due.of("WORTH: worth of all FILES that are ON any DISK, together");
    InTheOldOne x = disks(DISK, 0, CLOUD, 0, CLOUD, 0);
    Due.due("all(8), nothing there", x.all(8), 0);
    x.write(0, 0, 1);
    x.write(1, 7, 1);
    Due.due("all(8): 1 and 8", x.all(8), 9);
    x.write(2, 7, 2);
    Due.due("all(8): a FILE counts once", x.all(8), 9);
    x.set(0, 0, 301);
    Due.due("all(8): what is LOST counts not", x.all(8), 8);
    for (int f = 0; f < 8; f++) x.write(1, f, 0);
    Due.due("all(8), all FILES", x.all(8), 36);
    Due.text(x, "takes 1;goes 0;worth 99;");
    x.force(1);
    Due.due("all(8), the most", x.all(8), 792);
  }

  private static void allRefused() {
    Due.of("14. BAD");
    InTheOldOne x = disks(CLOUD, 0);
    int[] no = {Integer.MIN_VALUE, -100, -1, 9, 10, Integer.MAX_VALUE};
    for (int what : no) Due.due("all(" + what + ")", x.all(what), -2);
  }
}
