/** Promises 15 to 21: best, fewest, worst, letGo, again, goes, plan. */
public final class BestTest {
  public static void main(String[] args) {
    best();
    fewest();
    fewestWithoutWay();
    fewestByStamps();
    worst();
    letGo();
    again();
    goes();
    plan();
    planRefused();
    Due.end();
  }

  /** So many DISKS that always read, and one copy of FILES 0 .. files - 1 on the first. */
  private static InTheOldOne laidOut(int disks, int files) {
    InTheOldOne x = new InTheOldOne();
    for (int i = 0; i < disks; i++) x.disk(2, 0);
    for (int file = 0; file < files; file++) x.write(0, file, 100 + file);
    return x;
  }

  private static void best() {
    InTheOldOne x = laidOut(3, 0);
    Due.due("best(1, 0), nothing there", x.best(1, 0), -1);
    Due.due("best(1, 1), nothing there", x.best(1, 1), 0);
    x.write(1, 0, 5);
    x.write(2, 3, 6);
    x.write(2, 4, 7);
    Due.due("best(1, 0): a copy brings none more", x.best(1, 0), -1);
    Due.due("best(1, 1)", x.best(1, 1), 3);
    Due.due("best(2, 0): two FILES from 2, onto 0 first", x.best(2, 0), 20);
    Due.due("best(2, 1)", x.best(2, 1), 2);
    Due.due("best(3, 0)", x.best(3, 0), -1);
    Due.due("best(3, 1)", x.best(3, 1), 0);
    Due.due("count(2): in thought alone", x.count(2), 3);
    x.write(1, 1, 5);
    Due.due("best(2, 0): of like ones the first", x.best(2, 0), 10);
    x.set(2, 1, 0);
    Due.due("best(0, 0)", x.best(0, 0), -2);
    Due.due("best(7, 0)", x.best(7, 0), -2);
    Due.due("best(1, 2)", x.best(1, 2), -2);
    Due.due("best(1, -1)", x.best(1, -1), -2);
    // Where one doesn't READ no copy can be.
    InTheOldOne y = new InTheOldOne();
    y.disk(0, 0);
    y.disk(0, 0);
    y.write(0, 0, 1);
    Due.due("best(2, 0)", y.best(2, 0), 1);
    y.set(2, 1, 0);
    y.set(0, 0, 301);
    y.set(2, 0, 301);
    Due.due("best(2, 0), the other doesn't read", y.best(2, 0), -1);
    Due.due("best(2, 1)", y.best(2, 1), 0);
    y.disk(2, 0);
    Due.due("best(2, 0), a third does", y.best(2, 0), 2);
    y.set(2, 0, 0);
    Due.due("best(1, 0), the one doesn't read", y.best(1, 0), -1);
    Due.due("best(1, 1), the one doesn't read", y.best(1, 1), 0);
    InTheOldOne z = laidOut(6, 3);
    z.write(5, 7, 1);
    z.write(5, 6, 1);
    z.write(5, 5, 1);
    z.write(5, 4, 1);
    Due.due("best(2, 0), from the last", z.best(2, 0), 50);
    z.lose(0, 0);
    z.lose(0, 1);
    z.lose(0, 2);
    Due.due("worst(0), the last", z.worst(0), 5);
    Due.due("letGo(), the first", z.letGo(), 0);
  }

  private static void fewest() {
    InTheOldOne x = laidOut(6, 8);
    Due.due("fewest(1)", x.fewest(1), 0);
    Due.due("fewest(2)", x.fewest(2), 1);
    Due.due("fewest(3)", x.fewest(3), 2);
    Due.due("fewest(4)", x.fewest(4), 3);
    Due.due("fewest(5)", x.fewest(5), -1);
    Due.due("fewest(6)", x.fewest(6), -1);
    Due.due("fewest(0)", x.fewest(0), -2);
    Due.due("fewest(7)", x.fewest(7), -2);
    Due.due("count(2): in thought alone", x.count(2), 8);
    InTheOldOne y = laidOut(3, 0);
    Due.due("fewest(6), nothing there", y.fewest(6), 0);
    // Each FILE on a disk of its own: each disk must be the one once.
    for (int i = 0; i < 2; i++) y.write(i, i, 1);
    Due.due("fewest(2), two apart", y.fewest(2), 2);
    Due.due("fewest(3), two apart", y.fewest(3), 3);
    y.write(2, 2, 1);
    Due.due("fewest(2), three apart", y.fewest(2), 3);
    Due.due("fewest(3), three apart", y.fewest(3), -1);
    y.disk(2, 0);
    y.write(3, 3, 1);
    Due.due("fewest(2), four apart", y.fewest(2), -1);
    for (int i = 4; i < 6; i++) {
      y.disk(2, 0);
      y.write(i, i, 1);
    }
    Due.due("fewest(2), six apart", y.fewest(2), -1);
    Due.due("fewest(1), six apart", y.fewest(1), 0);
  }

  private static void fewestWithoutWay() {
    InTheOldOne x = new InTheOldOne();
    x.disk(2, 0);
    x.disk(1, 0);
    x.disk(1, 0);
    x.disk(1, 0);
    x.write(0, 0, 1);
    x.write(0, 1, 1);
    // A CARD 0 has room for one: FILE 0 comes first, and takes it.
    Due.due("fewest(2)", x.fewest(2), -1);
    x.set(1, 1, 2);
    Due.due("fewest(2), with room", x.fewest(2), 1);
    x.set(1, 1, 0);
    x.write(1, 1, 3);
    Due.due("fewest(2), FILE 1 is on a CARD", x.fewest(2), 1);
    x.set(0, 0, 21);
    Due.due("fewest(2), the CARDS are gone", x.fewest(2), -1);
    Due.due("fewest(1)", x.fewest(1), 0);
    // What doesn't READ can't be the one: DISK 2 would bring both at once.
    InTheOldOne y = laidOut(2, 1);
    y.disk(0, 0);
    y.disk(2, 0);
    y.write(1, 1, 1);
    y.write(2, 0, 1);
    y.write(2, 1, 1);
    y.set(0, 0, 301);
    Due.due("fewest(2), a disk with both doesn't read", y.fewest(2), 2);
    y.set(2, 2, 301);
    Due.due("fewest(3), it reads", y.fewest(3), 1);
    // What is LOST need not be SAFE.
    x.lose(0, 0);
    x.lose(0, 1);
    Due.due("fewest(6), nothing is ON any", x.fewest(6), 0);
  }

  /** A copy that brings no FILE anew may be a step, too: by its STAMP a FILE may go on from there. */
  private static void fewestByStamps() {
    InTheOldOne x = new InTheOldOne();
    for (int i = 0; i < 4; i++) x.disk(2, i);
    // Onto 1 comes all, onto 2 what has a STAMP above 4, onto 0 and 3 nothing.
    for (int i = 0; i < 2; i++) x.write(1, i, 5);
    x.set(0, 0, 5);
    for (int i = 0; i < 2; i++) x.write(0, i, 5);
    x.lose(0, 1);
    x.write(1, 1, 5);
    x.write(2, 1, 5);
    // FILE 0: on 0 (STAMP 5), on 1 (0). FILE 1: on 1 and 2 (5).
    Due.text(x, "takes number = 1 or number = 2 and 4 < there;goes 0;worth 0;");
    x.force(1);
    Due.due("again(1, 2): the STAMP of FILE 0 is 0 there", x.again(1, 2), 0);
    Due.due("fewest(3): FILE 1 can't come onto a third", x.fewest(3), -1);
    x.write(3, 1, 5);
    Due.due("fewest(3): FILE 0 from 0 onto 2", x.fewest(3), 1);
    // FILE 2 comes onto 2 from 1, FILE 0 with it only behind 0 onto 1.
    x.write(1, 2, 5);
    x.write(3, 2, 5);
    Due.due("fewest(3)", x.fewest(3), 2);
    Due.due("the steps are there: copies(0, 1)", x.copies(0, 1), 1);
    Due.due("copies(1, 2)", x.copies(1, 2), 3);
    Due.due("all(3)", x.all(3), 7);
  }

  private static void worst() {
    InTheOldOne x = new InTheOldOne();
    Due.due("worst(0), no disk", x.worst(0), -1);
    Due.due("worst(1), no disk", x.worst(1), -1);
    x.disk(0, 0);
    x.disk(2, 0);
    x.disk(2, 0);
    Due.due("worst(0), all empty: the first", x.worst(0), 0);
    Due.due("worst(1)", x.worst(1), 0);
    x.write(0, 7, 1);
    x.write(1, 7, 1);
    x.write(1, 3, 1);
    x.write(2, 4, 1);
    // All: 8 + 4 + 5 = 17. Without 0: 17, without 1: 13, without 2: 12.
    Due.due("worst(0)", x.worst(0), 2);
    Due.due("worst(1)", x.worst(1), 12);
    x.set(0, 0, 301);
    // Disk 0 is none any more: without 1: 5, without 2: 12.
    Due.due("worst(0)", x.worst(0), 1);
    Due.due("worst(1)", x.worst(1), 5);
    Due.due("worst(2)", x.worst(2), -2);
    Due.due("worst(-1)", x.worst(-1), -2);
  }

  private static void letGo() {
    InTheOldOne x = new InTheOldOne();
    Due.due("letGo(), no disk", x.letGo(), -1);
    x.disk(0, 0);
    Due.due("letGo(), an empty one", x.letGo(), 0);
    x.write(0, 0, 1);
    Due.due("letGo()", x.letGo(), -1);
    x.disk(2, 0);
    x.disk(2, 0);
    x.write(1, 0, 1);
    Due.due("letGo(): the first", x.letGo(), 0);
    x.write(0, 1, 1);
    Due.due("letGo(): 0 alone has FILE 1", x.letGo(), 1);
    x.set(0, 0, 301);
    Due.due("letGo(): 0 doesn't read", x.letGo(), 2);
  }

  private static void again() {
    InTheOldOne x = new InTheOldOne();
    x.disk(2, 0);
    x.disk(1, 2);
    x.disk(0, 0);
    for (int file = 0; file < 4; file++) x.write(0, file, file);
    x.write(1, 2, 9);
    // The CARD has room for one more alone: FILE 0.
    Due.due("again(0, 1)", x.again(0, 1), 1);
    Due.due("again(1, 0)", x.again(1, 0), 0);
    Due.due("again(0, 2)", x.again(0, 2), 15);
    x.write(2, 1, 0);
    x.lose(2, 1);
    Due.due("again(0, 2), thrown away", x.again(0, 2), 15);
    x.write(2, 1, 0);
    Due.due("again(0, 2)", x.again(0, 2), 13);
    Due.due("told(2, 7): in thought alone", x.told(2, 7), 1);
    Due.text(x, "takes file = 2 or file = 1;goes 0;worth 0;");
    x.force(1);
    Due.due("again(0, 2), by takes", x.again(0, 2), 4);
    Due.due("again(0, 0)", x.again(0, 0), -2);
    Due.due("again(0, 3)", x.again(0, 3), -2);
    Due.due("again(3, 0)", x.again(3, 0), -2);
    Due.due("again(-1, 0)", x.again(-1, 0), -2);
    Due.due("again(0, -1)", x.again(0, -1), -2);
    x.set(0, 0, 301);
    Due.due("again(0, 2), the other doesn't read", x.again(0, 2), 0);
    x.lose(0, 1);
    Due.due("again(2, 0), the one doesn't read", x.again(2, 0), 0);
  }

  private static void goes() {
    InTheOldOne x = new InTheOldOne();
    x.set(0, 0, 10);
    for (int kind = 0; kind < 6; kind++) x.disk(kind, 4);
    int[] days = {311, 111, -1, 11, 11, -1};
    for (int kind = 0; kind < 6; kind++) Due.due("goes(" + kind + ")", x.goes(kind), days[kind]);
    x.set(0, 0, 11);
    Due.due("goes(3), today", x.goes(3), 11);
    Due.due("goes(4), today", x.goes(4), 11);
    x.set(0, 0, 500);
    Due.due("goes(0), gone before", x.goes(0), 500);
    x.set(2, 0, 698);
    Due.due("goes(0), since 698", x.goes(0), 999);
    x.set(2, 0, 699);
    Due.due("goes(0), since 699", x.goes(0), -1);
    x.set(1, 4, 7);
    Due.due("goes(4), SHARED 7", x.goes(4), -1);
    Due.due("goes(6)", x.goes(6), -2);
    Due.due("goes(-1)", x.goes(-1), -2);
  }

  private static void plan() {
    InTheOldOne x = laidOut(3, 2);
    x.write(1, 5, 7);
    x.set(0, 0, 1);
    x.write(1, 0, 8);
    Due.sheet(x, 0, 2);
    Due.due("plan(0, 0), no row", x.plan(0, 0), -1);
    Due.due("plan(0, 1), no row", x.plan(0, 1), 1);
    Due.due("plan(0, 2), no row", x.plan(0, 2), 1);
    Due.sheet(x, 0, 2, 0, 2, 1, 2);
    Due.due("plan(0, 0)", x.plan(0, 0), -1);
    Due.due("plan(0, 1)", x.plan(0, 1), 0b100011);
    Due.due("plan(0, 2): 0 has the old FILE 0", x.plan(0, 2), 1);
    Due.sheet(x, 0, 0, 1, 0, 1, 1, 0, 2);
    Due.due("plan(0, 0): one and the same", x.plan(0, 0), 1);
    Due.due("plan(0, 1): those ahead of it alone", x.plan(0, 1), 0b100001);
    Due.due("plan(0, 2)", x.plan(0, 2), 0);
    x.disk(0, 0);
    x.set(2, 3, 600);
    x.set(0, 0, 901);
    Due.sheet(x, 0, 1, 0, 2, 3, 1, 0, 2);
    Due.due("plan(0, 0): 3 doesn't read", x.plan(0, 0), 1);
    Due.due("plan(0, 1)", x.plan(0, 1), 0b000011);
    Due.sheet(x, 0, 1, 2, 3, 0, 2);
    Due.due("plan(0, 0): it is first", x.plan(0, 0), 0);
    Due.due("plan(0, 1): as now", x.plan(0, 1), 1);
    Due.due("count(2): in thought alone", x.count(2), 4);
    int[] twenty = new int[40];
    for (int i = 0; i < 40; i++) twenty[i] = i == 39 ? 1 : i % 2;
    twenty[38] = 1;
    Due.sheet(x, 0, 0, twenty);
    Due.due("plan(0, 0), 20 rows", x.plan(0, 0), 19);
  }

  private static void planRefused() {
    InTheOldOne x = laidOut(2, 2);
    Due.due("plan(-1, 0)", x.plan(-1, 0), -2);
    Due.due("plan(4, 0)", x.plan(4, 0), -2);
    Due.due("plan(0, -1)", x.plan(0, -1), -2);
    Due.due("plan(0, 3), what ahead of missing", x.plan(0, 3), -2);
    Due.due("plan(0, 0), missing", x.plan(0, 0), -11);
    Due.sheet(x, 0, 2, 0, 1, 0);
    Due.due("plan(0, 0), not by twos", x.plan(0, 0), -2);
    Due.sheet(x, 0, 2, 0, 0, 0, 2);
    Due.due("plan(0, 0), no such disk behind", x.plan(0, 0), -2);
    Due.sheet(x, 0, 2, 2, 0);
    Due.due("plan(0, 0), no such disk ahead", x.plan(0, 0), -2);
    Due.sheet(x, 0, 2, 0, -1);
    Due.due("plan(0, 0), disk -1", x.plan(0, 0), -2);
  }
}
