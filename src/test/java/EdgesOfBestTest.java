/** Promises 15 to 21, and the terms 2 that they use: a test for each sentence that names a bound. */
public final class EdgesOfBestTest {
  private static final int DISK = 0, CARD = 1, CLOUD = 2, OLD = 3, SHARED = 4, PAPER = 5;
  private static final int[] NO_DISK = {Integer.MIN_VALUE, -1, 2, 3, 6, Integer.MAX_VALUE};
  private static final int[] NO_K = {Integer.MIN_VALUE, -1, 0, 7, Integer.MAX_VALUE};

  public static void main(String[] args) {
    bestSuchThatMost();
    bestIfMoreThanNow();
    bestOfLikeOnes();
    bestThatCanBe();
    bestRefused();
    fewestNoneAndOne();
    fewestTwoAndThree();
    fewestMore();
    fewestOnNow();
    fewestByReading();
    fewestByRoom();
    fewestByTakes();
    fewestInOrder();
    fewestRefused();
    worstLeast();
    worstOfLikeOnes();
    worstNone();
    worstRefused();
    letGoFirst();
    letGoAsMany();
    letGoNone();
    againNothingOfIt();
    againWouldBe();
    againReads();
    againRefused();
    goesFirstDay();
    goesUpTo999();
    goesRefused();
    planNone();
    planOneAndTheSame();
    planReads();
    planBehindThoseAhead();
    planOneBehindTheOther();
    planTwentyAtMost();
    planRefused();
    inThought();
    Due.end();
  }

  private static InTheOldOne disks(int... kindsAndNumbers) {
    InTheOldOne x = new InTheOldOne();
    for (int i = 0; i < kindsAndNumbers.length; i += 2) x.disk(kindsAndNumbers[i], kindsAndNumbers[i + 1]);
    return x;
  }

  /** CLOUDS, as many as there are rows, each with these FILES (bits). */
  private static InTheOldOne clouds(int... files) {
    InTheOldOne x = new InTheOldOne();
    for (int i = 0; i < files.length; i++) x.disk(CLOUD, i);
    for (int i = 0; i < files.length; i++) put(x, i, files[i]);
    return x;
  }

  private static void put(InTheOldOne x, int disk, int files) {
    for (int f = 0; f < 8; f++) if ((files >> f & 1) == 1) x.write(disk, f, 100 + f);
  }

  private static void best(InTheOldOne x, int k, int pair, int safe) {
    Due.due("best(" + k + ", 0)", x.best(k, 0), pair);
    Due.due("best(" + k + ", 1)", x.best(k, 1), safe);
  }

  private static void bestSuchThatMost() {
    Due.of("BEST COPY: 10 times the one, and the other, such that most FILES would be SAFE (k) then");
    best(clouds(0b1, 0b110), 2, 10, 2);
    best(clouds(0b11, 0b100), 2, 1, 2);
    best(clouds(0b1, 0b110, 0b111000), 2, 20, 3);
    best(clouds(0b1, 0b110, 0b111000, 0b11000000), 2, 20, 3);
    best(clouds(0b1, 0b1, 0b1, 0b1, 0b11110, 0b1), 2, 40, 5);
    best(clouds(0b1, 0b1, 0b1, 0b1, 0b1, 0b11111110), 2, 50, 8);
    best(clouds(0, 0, 0, 0, 0b1, 0b1), 3, 40, 1);
    best(clouds(0b1, 0b1, 0b1, 0b1, 0b1, 0), 6, 5, 1);
    best(clouds(0, 0b1, 0b1, 0b1, 0b1, 0b1), 6, 10, 1);
    // FILE 0 is on two, FILES 1 and 2 are on one: SAFE (3) and SAFE (2) want other copies.
    best(clouds(0b1, 0b1, 0b110, 0), 2, 20, 3);
    best(clouds(0b1, 0b1, 0b110, 0), 3, 2, 1);
  }

  private static void bestIfMoreThanNow() {
    Due.of("BEST COPY: if more than now; NONE. 15. how many are SAFE then (1; as now, if none)");
    best(clouds(0b11, 0b11), 2, -1, 2);
    best(clouds(0b11, 0b101), 2, 1, 2);
    best(clouds(0b11, 0b11), 1, -1, 2);
    best(clouds(0b11, 0b11), 3, -1, 0);
    best(clouds(0b11, 0b100, 0), 3, -1, 0);
    best(clouds(0, 0), 1, -1, 0);
    best(clouds(255), 1, -1, 8);
    best(clouds(255), 2, -1, 0);
    best(clouds(255, 255), 2, -1, 8);
    best(clouds(), 1, -1, 0);
    best(clouds(), 6, -1, 0);
    best(clouds(1, 1, 1, 1, 1, 1), 6, -1, 1);
  }

  private static void bestOfLikeOnes() {
    Due.of("BEST COPY: of like ones the first");
    best(clouds(0b1, 0b10), 2, 1, 1);
    best(clouds(0b1, 0, 0), 2, 1, 1);
    best(clouds(0, 0b1, 0), 2, 10, 1);
    best(clouds(0, 0, 0b1), 2, 20, 1);
    best(clouds(0, 0b1, 0b10), 2, 10, 1);
    best(clouds(0b1, 0b11, 0), 2, 10, 2);
    best(clouds(0b1, 0b110, 0b11000), 2, 10, 2);
    best(clouds(0, 0, 0, 0, 0, 0b1), 2, 50, 1);
    best(clouds(0, 0, 0, 0, 0b1, 0), 2, 40, 1);
  }

  private static void bestThatCanBe() {
    Due.of("BEST COPY: (TO COPY: both must READ)");
    InTheOldOne x = disks(DISK, 0, CLOUD, 0, CLOUD, 0);
    put(x, 0, 0b111);
    put(x, 1, 0b1000);
    x.set(0, 0, 300);
    best(x, 2, 1, 3);
    x.set(0, 0, 301);
    best(x, 2, 12, 1);
    best(x, 1, -1, 1);
    x.lose(1, 3);
    best(x, 2, -1, 0);
    InTheOldOne y = disks(CLOUD, 0, DISK, 0);
    put(y, 0, 1);
    y.set(0, 0, 300);
    best(y, 2, 1, 1);
    y.set(0, 0, 301);
    best(y, 2, -1, 0);
    Due.of("BEST COPY: (TO COPY: no ROOM, takes)");
    best(withCards(0b111, 0, 2), 2, 2, 2);
    InTheOldOne z = clouds(0b1, 0, 0);
    Due.text(z, "takes number=2;goes 0;worth 0;");
    z.force(1);
    best(z, 2, 2, 1);
    Due.text(z, "takes 0;goes 0;worth 0;");
    z.force(2);
    best(z, 2, -1, 0);
  }

  /** A CLOUD with FILES (bits), and two empty CARDS. */
  private static InTheOldOne withCards(int files, int first, int second) {
    InTheOldOne x = disks(CLOUD, 0, CARD, first, CARD, second);
    put(x, 0, files);
    return x;
  }

  private static void bestRefused() {
    Due.of("15. best. k 1 .. 6; what 0, 1; BAD");
    InTheOldOne x = clouds(0b1, 0);
    for (int k : NO_K) for (int what = 0; what < 2; what++) Due.due("best(" + k + ", " + what + ")", x.best(k, what), -2);
    int[] no = {Integer.MIN_VALUE, -1, 2, Integer.MAX_VALUE};
    for (int what : no) Due.due("best(1, " + what + ")", x.best(1, what), -2);
    for (int k = 1; k < 7; k++) best(x, k, k == 2 ? 1 : -1, k <= 2 ? 1 : 0);
  }

  private static void fewest(InTheOldOne x, int k, int due) {
    Due.due("fewest(" + k + ")", x.fewest(k), due);
  }

  private static void fewestNoneAndOne() {
    Due.of("FEWEST: how many copies (0 .. 3): 0");
    fewest(clouds(), 1, 0);
    fewest(clouds(), 6, 0);
    fewest(clouds(0), 6, 0);
    fewest(clouds(255), 1, 0);
    fewest(clouds(0b1, 0b10, 0b100, 0b1000, 0b10000, 0b100000), 1, 0);
    fewest(clouds(255, 255), 2, 0);
    fewest(clouds(255, 255, 255, 255, 255, 255), 6, 0);
    Due.of("FEWEST: how many copies (0 .. 3): 1");
    fewest(clouds(0b1, 0), 2, 1);
    fewest(clouds(0, 255), 2, 1);
    fewest(clouds(0b11, 0b1), 2, 1);
    fewest(clouds(0b1, 0b11), 2, 1);
    fewest(clouds(255, 255, 255, 255, 255, 0), 6, 1);
    fewest(clouds(0, 0, 0, 0, 0, 255), 2, 1);
  }

  private static void fewestTwoAndThree() {
    Due.of("FEWEST: how many copies (0 .. 3): 2");
    fewest(clouds(0b1, 0b10), 2, 2);
    fewest(clouds(0b1, 0, 0), 3, 2);
    fewest(clouds(0b11, 0b101, 0), 3, 3);
    fewest(clouds(0b11, 0b11, 0b11, 0b11, 0, 0), 6, 2);
    fewest(clouds(0, 0b1, 0b10), 2, 2);
    Due.of("FEWEST: how many copies (0 .. 3): 3");
    fewest(clouds(0b1, 0b10, 0b100), 2, 3);
    fewest(clouds(0b1, 0, 0, 0), 4, 3);
    fewest(clouds(0b1, 0b1, 0b1, 0, 0, 0), 6, 3);
    fewest(clouds(0b1, 0b10, 0), 3, 3);
    fewest(clouds(0b100000, 0, 0, 0, 0, 0), 4, 3);
  }

  private static void fewestMore() {
    Due.of("FEWEST: NONE: more");
    fewest(clouds(255), 2, -1);
    fewest(clouds(0b1, 0), 3, -1);
    fewest(clouds(0b1, 0, 0, 0, 0), 5, -1);
    fewest(clouds(0b1, 0, 0, 0, 0, 0), 6, -1);
    fewest(clouds(0b1, 0b1, 0, 0, 0, 0), 6, -1);
    fewest(clouds(0b1, 0b10, 0b100, 0b1000), 2, -1);
    fewest(clouds(0b1, 0b10, 0b100), 3, -1);
    fewest(clouds(0b1, 0b10, 0, 0), 4, -1);
  }

  private static void fewestOnNow() {
    Due.of("FEWEST: till all FILES that are ON any DISK now are SAFE (k)");
    InTheOldOne x = disks(DISK, 0, CLOUD, 0, CLOUD, 0);
    put(x, 0, 0b11);
    x.set(0, 0, 300);
    fewest(x, 2, 1);
    x.set(0, 0, 301);
    fewest(x, 2, 0);
    fewest(x, 6, 0);
    x.write(1, 7, 1);
    fewest(x, 2, 1);
    fewest(x, 3, -1);
    Due.of("FEWEST: all FILES, not as many");
    fewest(clouds(0b11, 0b10, 0b10), 2, 1);
    fewest(clouds(0b1, 0b10, 0b10), 2, 1);
    fewest(clouds(0b111, 0b1000, 0), 2, 2);
  }

  private static void fewestByReading() {
    Due.of("FEWEST: (TO COPY: both must READ)");
    InTheOldOne x = disks(CLOUD, 0, DISK, 0, DISK, 0, CLOUD, 0);
    put(x, 0, 0b11);
    fewest(x, 4, 3);
    x.set(0, 0, 300);
    fewest(x, 4, 3);
    x.set(0, 0, 301);
    fewest(x, 4, -1);
    fewest(x, 3, -1);
    fewest(x, 2, 1);
    // What is on a DISK that doesn't READ helps no FILE to be SAFE.
    x.set(0, 0, 0);
    put(x, 1, 0b11);
    put(x, 2, 0b11);
    fewest(x, 3, 0);
    x.set(0, 0, 301);
    fewest(x, 2, 1);
    fewest(x, 3, -1);
    // A DISK with both FILES would bring them at once onto the empty one, did it READ.
    InTheOldOne y = disks(CLOUD, 0, CLOUD, 0, DISK, 0, CLOUD, 0);
    put(y, 0, 0b01);
    put(y, 1, 0b10);
    put(y, 2, 0b11);
    y.set(0, 0, 300);
    fewest(y, 3, 1);
    y.set(0, 0, 301);
    fewest(y, 2, 2);
    fewest(y, 3, 3);
    y.lose(0, 0);
    fewest(y, 2, 1);
  }

  private static void fewestByRoom() {
    Due.of("FEWEST: (TO COPY: no ROOM: it is left out)");
    fewest(withCards(0b1, 0, 0), 2, 1);
    fewest(withCards(0b11, 0, 0), 2, -1);
    fewest(withCards(0b11, 0, 2), 2, 1);
    fewest(withCards(0b11, 2, 0), 2, 1);
    fewest(withCards(0b11, 2, 0), 3, -1);
    fewest(withCards(0b11, 2, 2), 3, 2);
    InTheOldOne x = disks(CLOUD, 0, PAPER, 0);
    put(x, 0, 1);
    fewest(x, 2, -1);
    x.set(1, 1, 1);
    fewest(x, 2, 1);
  }

  private static void fewestByTakes() {
    Due.of("FEWEST: (TO COPY: takes)");
    InTheOldOne x = clouds(0b11, 0, 0, 0);
    // FILE 0 comes onto 1 alone, FILE 1 onto 2 alone: two copies make both SAFE (2).
    Due.text(x, "takes number=1 and file=0 or number=2 and file=1;goes 0;worth 0;");
    x.force(1);
    fewest(x, 2, 2);
    fewest(x, 3, -1);
    Due.text(x, "takes 0;goes 0;worth 0;");
    x.force(2);
    fewest(x, 1, 0);
    fewest(x, 2, -1);
    x.force(0);
    fewest(x, 4, 3);
  }

  private static void fewestInOrder() {
    Due.of("FEWEST: copies, one behind the other");
    // 0 onto 1, from where both FILES go on, twice.
    fewest(clouds(0b1, 0b10, 0), 3, 3);
    fewest(clouds(0b1, 0b10, 0, 0), 3, 3);
    fewest(clouds(0b1, 0b10, 0, 0), 4, -1);
    // What the first one brings takes the ROOM for one: FILE 0 must come onto the CARD ahead of FILE 1.
    InTheOldOne x = disks(CLOUD, 0, CARD, 0, PAPER, 1);
    put(x, 0, 0b1);
    fewest(x, 3, 2);
    x.write(0, 1, 100);
    fewest(x, 2, -1);
    x.write(2, 1, 100);
    fewest(x, 2, 1);
    fewest(x, 3, -1);
  }

  private static void fewestRefused() {
    Due.of("16. fewest. k 1 .. 6; BAD");
    InTheOldOne x = clouds(0b1, 0b1, 0b1, 0b1, 0b1, 0b1);
    for (int k : NO_K) fewest(x, k, -2);
    for (int k = 1; k < 7; k++) fewest(x, k, 0);
    for (int k : NO_K) fewest(clouds(), k, -2);
  }

  private static void worst(InTheOldOne x, int disk, int worth) {
    Due.due("worst(0)", x.worst(0), disk);
    Due.due("worst(1)", x.worst(1), worth);
  }

  private static void worstLeast() {
    Due.of("WORST LOSS: the DISK that READS without which WORTH would be least");
    worst(clouds(0b1, 0b10, 0b100), 2, 3);
    worst(clouds(0b10000000, 0b10, 0b100), 0, 5);
    worst(clouds(0b1, 0b1111110, 0b10000000), 1, 9);
    worst(clouds(0b11111, 0b11111, 0b1), 0, 15);
    worst(clouds(0b10000001, 0b10000000, 0b10), 2, 9);
    worst(clouds(0, 0, 0, 0, 0, 0b1), 5, 0);
    Due.of("WORST LOSS: (that READS)");
    InTheOldOne x = disks(DISK, 0, CLOUD, 0, CLOUD, 0);
    put(x, 0, 0b11110000);
    put(x, 1, 0b1);
    put(x, 2, 0b10);
    x.set(0, 0, 300);
    worst(x, 0, 3);
    x.set(0, 0, 301);
    worst(x, 2, 1);
  }

  private static void worstOfLikeOnes() {
    Due.of("WORST LOSS: of like ones the first");
    worst(clouds(0, 0, 0), 0, 0);
    worst(clouds(255, 255, 255), 0, 36);
    worst(clouds(0b10, 0b11, 0b1), 0, 3);
    worst(clouds(0b1100, 0b1110, 0b10, 0b1), 3, 9);
    InTheOldOne x = clouds(0b1, 0b10, 0b100);
    Due.text(x, "takes 1;goes 0;worth 7;");
    x.force(1);
    worst(x, 0, 14);
    x.write(0, 1, 1);
    x.write(0, 2, 1);
    worst(x, 0, 14);
    x.lose(0, 0);
    worst(x, 0, 14);
  }

  private static void worstNone() {
    Due.of("WORST LOSS: NONE. 17. WORTH then (1; NONE)");
    worst(clouds(), -1, -1);
    InTheOldOne x = disks(DISK, 0, DISK, 0);
    put(x, 0, 255);
    x.set(0, 0, 300);
    worst(x, 0, 0);
    x.set(0, 0, 301);
    worst(x, -1, -1);
    worst(clouds(0), 0, 0);
    worst(clouds(255), 0, 0);
  }

  private static void worstRefused() {
    Due.of("17. worst. BAD");
    int[] no = {Integer.MIN_VALUE, -1, 2, Integer.MAX_VALUE};
    for (int what : no) {
      Due.due("worst(" + what + ")", clouds(0b1).worst(what), -2);
      Due.due("worst(" + what + "), no DISK", clouds().worst(what), -2);
    }
  }

  private static void letGo(InTheOldOne x, int due) {
    Due.due("letGo()", x.letGo(), due);
  }

  private static void letGoFirst() {
    Due.of("LET GO: the first DISK");
    letGo(clouds(0), 0);
    letGo(clouds(0, 0), 0);
    letGo(clouds(0b1, 0b1, 0b1), 0);
    letGo(clouds(0b1, 0), 1);
    letGo(clouds(0b1, 0b10, 0b100, 0b1000, 0b10000, 0), 5);
    letGo(clouds(0b11, 0b10, 0b1), 0);
    Due.of("LET GO: that READS");
    InTheOldOne x = disks(DISK, 0, CLOUD, 0, CLOUD, 0);
    put(x, 1, 0b1);
    x.set(0, 0, 300);
    letGo(x, 0);
    x.set(0, 0, 301);
    letGo(x, 2);
  }

  private static void letGoAsMany() {
    Due.of("LET GO: without which as many FILES are ON any");
    letGo(clouds(0b1, 0b11), 0);
    letGo(clouds(0b11, 0b1), 1);
    letGo(clouds(0b110, 0b011, 0b101), 0);
    letGo(clouds(0b1001, 0b0011, 0b0101), -1);
    letGo(clouds(0b1111, 0b10001, 0b10000), 1);
    letGo(clouds(0b10000000, 0b10000000), 0);
    // What is on a DISK that doesn't READ helps nothing.
    InTheOldOne x = disks(DISK, 0, CLOUD, 0);
    put(x, 0, 0b1);
    put(x, 1, 0b1);
    letGo(x, 0);
    x.set(0, 0, 301);
    letGo(x, -1);
    // A WORTH of 0 is of FILES, too.
    InTheOldOne y = clouds(0b1, 0b10);
    Due.text(y, "takes 1;goes 0;worth 0;");
    y.force(1);
    letGo(y, -1);
  }

  private static void letGoNone() {
    Due.of("LET GO: NONE");
    letGo(clouds(), -1);
    letGo(clouds(0b1), -1);
    letGo(clouds(0b1, 0b10), -1);
    letGo(clouds(0b1, 0b10, 0b100, 0b1000, 0b10000, 0b100000), -1);
    InTheOldOne x = disks(DISK, 0);
    x.set(0, 0, 301);
    letGo(x, -1);
  }

  private static void againNothingOfIt() {
    Due.of("BACK AGAIN: FILES (bits) of which nothing is on the other one");
    Due.due("again(0, 1), all", clouds(255, 0).again(0, 1), 255);
    Due.due("again(0, 1), none", clouds(255, 255).again(0, 1), 0);
    Due.due("again(0, 1), the first and the last", clouds(255, 0b01111110).again(0, 1), 0b10000001);
    Due.due("again(1, 0)", clouds(255, 0b01111110).again(1, 0), 0);
    Due.due("again(0, 1), nothing on the one", clouds(0, 0b1).again(0, 1), 0);
    InTheOldOne x = clouds(0b11, 0b10);
    x.set(0, 0, 5);
    x.write(0, 0, 7);
    x.write(0, 1, 7);
    Due.due("again(0, 1): FILE 1 comes, but is there", x.again(0, 1), 1);
    x.write(1, 0, 0);
    Due.due("again(0, 1): a CONTENT of 0 is something", x.again(0, 1), 0);
    x.lose(1, 0);
    Due.due("again(0, 1): thrown away", x.again(0, 1), 1);
  }

  private static void againWouldBe() {
    Due.of("BACK AGAIN: that would be there, were the one copied onto it");
    InTheOldOne x = withCards(0b11110000, 0, 2);
    Due.due("again(0, 1): ROOM for one", x.again(0, 1), 0b00010000);
    Due.due("again(0, 2): ROOM for two", x.again(0, 2), 0b00110000);
    x.write(2, 0, 1);
    Due.due("again(0, 2): ROOM for one more", x.again(0, 2), 0b00010000);
    x.write(2, 1, 1);
    Due.due("again(0, 2): full", x.again(0, 2), 0);
    Due.text(x, "takes file=7;goes 0;worth 0;");
    Due.text(x, "takes 0;goes 0;worth 0;");
    x.force(1);
    Due.due("again(0, 1) by takes", x.again(0, 1), 0b10000000);
    x.force(2);
    Due.due("again(0, 1) by takes 0", x.again(0, 1), 0);
  }

  private static void againReads() {
    Due.of("19. (0, if one doesn't READ)");
    InTheOldOne x = disks(DISK, 0, CLOUD, 0);
    put(x, 0, 0b11);
    put(x, 1, 0b110);
    x.set(0, 0, 300);
    Due.due("again(0, 1) on DAY 300", x.again(0, 1), 1);
    Due.due("again(1, 0) on DAY 300", x.again(1, 0), 0b100);
    x.set(0, 0, 301);
    Due.due("again(0, 1): the one doesn't READ", x.again(0, 1), 0);
    Due.due("again(1, 0): the other doesn't READ", x.again(1, 0), 0);
    x.disk(DISK, 0);
    x.set(2, 2, 0);
    Due.due("again(0, 2): neither READS", x.again(0, 2), 0);
  }

  private static void againRefused() {
    Due.of("19. BAD: no such, one and the same");
    InTheOldOne x = disks(CLOUD, 0, DISK, 0);
    x.set(0, 0, 301);
    for (int d : NO_DISK) {
      Due.due("again(0, " + d + ")", x.again(0, d), -2);
      Due.due("again(" + d + ", 0)", x.again(d, 0), -2);
      Due.due("again(" + d + ", " + d + ")", x.again(d, d), -2);
      Due.due("again(1, " + d + "), 1 doesn't READ", x.again(1, d), -2);
    }
    Due.due("again(0, 0)", x.again(0, 0), -2);
    Due.due("again(1, 1), 1 doesn't READ", x.again(1, 1), -2);
  }

  private static void goes(int kind, int number, int day, int since, int due) {
    InTheOldOne x = disks(kind, number);
    x.set(0, 0, day);
    x.set(2, 0, since);
    Due.due("goes(0) of KIND " + kind + ", NUMBER " + number + ", on " + day + ", since " + since, x.goes(0), due);
    Due.due("told(0, 0)", x.told(0, 0), day);
  }

  private static void goesFirstDay() {
    Due.of("GOES WHEN: the first DAY from THE DAY on, on which it doesn't READ");
    goes(DISK, 0, 0, 0, 301);
    goes(DISK, 9, 300, 0, 301);
    goes(DISK, 0, 301, 0, 301);
    goes(DISK, 0, 302, 0, 302);
    goes(DISK, 0, 999, 0, 999);
    goes(DISK, 0, 0, 5, 306);
    goes(CARD, 0, 0, 0, 21);
    goes(CARD, 9, 0, 0, 201);
    goes(CARD, 9, 500, 0, 500);
    goes(CARD, 0, 0, 900, 921);
    goes(OLD, 0, 0, 0, 1);
    goes(OLD, 9, 2, 0, 3);
    goes(OLD, 9, 3, 0, 3);
    goes(OLD, 9, 0, 3, 0);
    goes(OLD, 9, 1, 3, 2);
    goes(OLD, 0, 22, 0, 22);
    goes(SHARED, 0, 0, 0, 0);
    goes(SHARED, 0, 1, 0, 7);
    goes(SHARED, 6, 0, 0, 6);
    goes(SHARED, 6, 6, 0, 6);
    goes(SHARED, 6, 7, 0, 13);
  }

  private static void goesUpTo999() {
    Due.of("GOES WHEN: (up to 999); NONE");
    goes(DISK, 0, 0, 698, 999);
    goes(DISK, 0, 0, 699, -1);
    goes(DISK, 0, 999, 699, -1);
    goes(DISK, 0, 999, 698, 999);
    goes(DISK, 0, 0, 999, -1);
    goes(CARD, 0, 0, 978, 999);
    goes(CARD, 0, 0, 979, -1);
    goes(CARD, 9, 0, 798, 999);
    goes(CARD, 9, 0, 799, -1);
    goes(OLD, 9, 999, 999, -1);
    goes(OLD, 9, 999, 998, 999);
    goes(CLOUD, 0, 0, 0, -1);
    goes(CLOUD, 9, 999, 0, -1);
    goes(PAPER, 0, 0, 0, -1);
    goes(PAPER, 9, 999, 0, -1);
    goes(SHARED, 7, 0, 0, -1);
    goes(SHARED, 9, 0, 0, -1);
    // 999 modulo 7 is 5: from then on no day that is 4 comes.
    goes(SHARED, 5, 999, 0, 999);
    goes(SHARED, 4, 999, 0, -1);
    goes(SHARED, 4, 998, 0, 998);
    goes(SHARED, 6, 994, 0, -1);
    goes(SHARED, 6, 993, 0, 993);
  }

  private static void goesRefused() {
    Due.of("20. goes. BAD");
    InTheOldOne x = disks(DISK, 0, DISK, 0);
    for (int d : NO_DISK) Due.due("goes(" + d + ")", x.goes(d), -2);
    Due.due("goes(1)", x.goes(1), 301);
    Due.due("goes(0), no DISK", new InTheOldOne().goes(0), -2);
  }

  private static void plan(InTheOldOne x, int first, int safe, int differ) {
    Due.due("plan(0, 0)", x.plan(0, 0), first);
    Due.due("plan(0, 1)", x.plan(0, 1), safe);
    Due.due("plan(0, 2)", x.plan(0, 2), differ);
  }

  private static void planNone() {
    Due.of("A PLAN: the first that can't be; NONE");
    InTheOldOne x = clouds(0b11, 0b100, 0);
    Due.sheet(x, 0, 0);
    plan(x, -1, 0, 0);
    Due.sheet(x, 0, 0, 0, 1);
    plan(x, -1, 0b011, 0);
    Due.sheet(x, 0, 1, 0, 1, 1, 2);
    plan(x, -1, 0b111, 0);
    Due.sheet(x, 0, 2, 2, 1, 2, 0);
    plan(x, -1, 0, 0);
    InTheOldOne y = clouds();
    Due.sheet(y, 0, 0);
    plan(y, -1, 0, 0);
  }

  private static void planOneAndTheSame() {
    Due.of("A PLAN: the first that can't be (one and the same)");
    InTheOldOne x = clouds(0b11, 0b100, 0);
    Due.sheet(x, 0, 0, 0, 0);
    plan(x, 0, 0, 0);
    Due.sheet(x, 0, 0, 0, 1, 2, 2);
    plan(x, 1, 0b011, 0);
    Due.sheet(x, 0, 0, 1, 1, 2, 2, 0, 1);
    plan(x, 0, 0, 0);
    Due.sheet(x, 0, 0, 0, 1, 0, 1, 0, 1, 0, 0, 1, 2);
    plan(x, 3, 0b011, 0);
  }

  private static void planReads() {
    Due.of("A PLAN: the first that can't be (one that doesn't READ)");
    InTheOldOne x = disks(CLOUD, 0, DISK, 0, CLOUD, 0);
    put(x, 0, 0b1);
    put(x, 1, 0b10);
    Due.sheet(x, 0, 0, 0, 2, 1, 2, 2, 1);
    x.set(0, 0, 300);
    plan(x, -1, 0b11, 0);
    x.set(0, 0, 301);
    plan(x, 1, 0b01, 0);
    Due.sheet(x, 0, 0, 0, 2, 2, 1);
    plan(x, 1, 0b01, 0);
    Due.sheet(x, 0, 0, 1, 0, 0, 2);
    plan(x, 0, 0, 0);
  }

  private static void planBehindThoseAhead() {
    Due.of("A PLAN: FILES (bits) that are SAFE (2), DIFFER behind those ahead of it");
    InTheOldOne x = clouds(0, 0, 0);
    x.write(0, 0, 1);
    x.write(0, 7, 1);
    x.write(1, 0, 2);
    Due.sheet(x, 0, 0, 1, 1, 0, 1);
    plan(x, 0, 0b1, 0b1);
    Due.sheet(x, 0, 0, 0, 1, 1, 1, 0, 2);
    plan(x, 1, 0b10000001, 0b1);
    x.set(0, 0, 1);
    x.write(0, 0, 3);
    plan(x, 1, 0b10000001, 0);
    Due.sheet(x, 0, 0, 0, 2, 0, 0);
    plan(x, 1, 0b10000001, 0b1);
    Due.due("all(2): SAFE (2) now", x.all(2), 1);
  }

  private static void planOneBehindTheOther() {
    Due.of("A PLAN: copies, one behind the other, in thought");
    InTheOldOne x = clouds(0b1, 0b10, 0);
    Due.sheet(x, 0, 0, 0, 1, 1, 2);
    plan(x, -1, 0b11, 0);
    Due.sheet(x, 0, 0, 1, 2, 0, 1);
    plan(x, -1, 0b11, 0);
    InTheOldOne y = clouds(0b1, 0, 0);
    Due.sheet(y, 0, 0, 1, 2, 0, 1);
    Due.due("plan(0, 1): 0 onto 1, too late for 2", y.plan(0, 1), 1);
    y.write(2, 1, 5);
    Due.sheet(y, 0, 0, 2, 1, 1, 0);
    plan(y, -1, 0b10, 0);
    Due.sheet(y, 0, 0, 1, 0, 2, 1);
    plan(y, -1, 0b10, 0);
    Due.due("count(2)", y.count(2), 2);
    Due.due("all(2)", y.all(2), 0);
    y.lose(2, 1);
    y.write(1, 2, 1);
    y.write(2, 3, 1);
    // 0 onto 1 brings two onto 1, 1 onto 2 both and 3 stays: in the other order FILE 0 doesn't come to 2.
    Due.sheet(y, 0, 0, 0, 1, 1, 2);
    plan(y, -1, 0b101, 0);
    Due.sheet(y, 0, 0, 1, 2, 0, 1, 2, 0);
    plan(y, -1, 0b1101, 0);
  }

  private static void planTwentyAtMost() {
    Due.of("A PLAN: rows of two, the one and the other (20 at most)");
    InTheOldOne x = clouds(0b1, 0, 0b10);
    int[] row = new int[40];
    for (int i = 0; i < 40; i++) row[i] = i % 2;
    row[38] = 2;
    Due.sheet(x, 0, 0, row);
    plan(x, -1, 0b11, 0);
    x.cell(0, 38, 1);
    plan(x, 19, 0b01, 0);
    x.cell(0, 38, 3);
    plan(x, -2, -2, -2);
    x.cell(0, 38, 0);
    x.cell(0, 39, -1);
    plan(x, -2, -2, -2);
  }

  private static void planRefused() {
    Due.of("21. BAD: SHEET, what");
    InTheOldOne x = clouds(0b1, 0b10);
    int[] noSheet = {Integer.MIN_VALUE, -1, 4, Integer.MAX_VALUE};
    int[] noWhat = {Integer.MIN_VALUE, -1, 3, Integer.MAX_VALUE};
    for (int s : noSheet) for (int what = 0; what < 3; what++) Due.due("plan(" + s + ", " + what + ")", x.plan(s, what), -2);
    Due.of("21. BAD: SHEET, what; -11: BAD is named first");
    for (int what : noWhat) Due.due("plan(0, " + what + "), missing", x.plan(0, what), -2);
    Due.of("21. -11");
    for (int s = 0; s < 4; s++) for (int what = 0; what < 3; what++) Due.due("plan(" + s + ", " + what + ")", x.plan(s, what), -11);
    Due.of("21. BAD: its size isn't by twos");
    for (int n = 1; n < 40; n += 2) {
      x.sheet(0, 0, n);
      plan(x, -2, -2, -2);
    }
    Due.due("cell(0, 39, 0)", x.cell(0, 39, 0), -12);
    Due.of("21. BAD: no such DISK");
    for (int d : NO_DISK) {
      Due.sheet(x, 0, 2, d, 0);
      plan(x, -2, -2, -2);
      Due.sheet(x, 0, 2, 0, d);
      plan(x, -2, -2, -2);
      Due.sheet(x, 0, 2, 0, 1, 1, d);
      plan(x, -2, -2, -2);
    }
    Due.sheet(x, 0, 2, 0, 1);
    for (int what : noWhat) Due.due("plan(0, " + what + ")", x.plan(0, what), -2);
    Due.sheet(new InTheOldOne(), 0, 2, 0, 1);
    InTheOldOne y = new InTheOldOne();
    Due.sheet(y, 0, 2, 0, 1);
    plan(y, -2, -2, -2);
  }

  private static void inThought() {
    Due.of("15 .. 21: in thought: nothing is there that was not");
    InTheOldOne x = clouds(0b1, 0b10, 0b100, 0);
    Due.sheet(x, 0, 0, 0, 1, 1, 2, 2, 3);
    x.best(2, 0);
    x.fewest(2);
    x.fewest(3);
    x.worst(0);
    x.letGo();
    x.again(0, 3);
    x.goes(0);
    plan(x, -1, 0b111, 0);
    int[] on = {0b1, 0b10, 0b100, 0, 0, 0, 0, 0};
    for (int f = 0; f < 8; f++) Due.due("on(" + f + ")", x.on(f), on[f]);
    Due.due("count(2)", x.count(2), 3);
    Due.due("told(0, 0)", x.told(0, 0), 0);
    Due.due("count(0)", x.count(0), 4);
  }
}
