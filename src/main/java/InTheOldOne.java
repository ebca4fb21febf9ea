import java.util.Arrays;

/** Up to six disks of kinds with eight files each: what is where, what copies come to, what a loss would be. */
public final class InTheOldOne {
    public static final int NONE = -1, BAD = -2, STATE = -3, FULL = -4;
    public static final long NO = -4611686018427387904L;

    private static final int MISSING = -11, OUTSIDE = -12, OTHER_SORT = -13, BELOW_ZERO = -14;
    private static final int FILES = 8, DISKS = 6, KINDS = 6, NUMBERS = 10, TEXTS = 6, SHEETS = 4;
    private static final int LAST_DAY = 999, MOST_CONTENT = 999, NO_STAMP = -100;
    private static final int TAPE_SIZE = 160, SHEET_SIZE = 40, MOST_COPIES = 3, MOST_SEEDS = 20;
    private static final int FAULT_BASE = -100;
    private static final String FIRST_RULE = "takes here < there ; goes 5 ; worth 1 + file ;";

    private final DiskKind[] kinds = new DiskKind[KINDS];
    private final Rule[] texts = new Rule[TEXTS];
    private final Sheet[] sheets = new Sheet[SHEETS];
    private final Tape tape = new Tape();
    private final World now = new World();
    private final World kept = new World();
    private final World thought = new World();
    /** What FEWEST lays back in thought, one for each copy that may stand open. */
    private final Disk[] before = new Disk[MOST_COPIES];
    private int textCount = 1;
    private boolean imageKept = false;

    public InTheOldOne() {
        kinds[0] = new DiskKind(0);
        kinds[1] = new CardKind(1);
        kinds[2] = new CloudKind(2);
        kinds[3] = new OldKind(3);
        kinds[4] = new SharedKind(4);
        kinds[5] = new PaperKind(5);
        for (int i = 0; i < TEXTS; i++) {
            texts[i] = new Rule();
        }
        for (int i = 0; i < SHEETS; i++) {
            sheets[i] = new Sheet();
        }
        for (int i = 0; i < MOST_COPIES; i++) {
            before[i] = new Disk();
        }
        for (int i = 0; i < FIRST_RULE.length(); i++) {
            tape.add(FIRST_RULE.charAt(i));
        }
        tape.read();
        tape.clear();
        texts[0].become(tape.rule);
    }

    // ---- disks, files

    public int set(int what, int of, int v) {
        if (what < 0 || what > 2 || what != 0 && !now.has(of)) {
            return BAD;
        }
        if (v < 0 || v > LAST_DAY || what == 1 && v >= NUMBERS) {
            return BAD;
        }
        int was;
        if (what == 0) {
            was = now.day;
            now.day = v;
        } else if (what == 1) {
            was = now.disks[of].number;
            now.disks[of].number = v;
        } else {
            was = now.disks[of].since;
            now.disks[of].since = v;
        }
        return was;
    }

    public int disk(int kind, int number) {
        return bring(kind, number);
    }

    public int told(int of, int what) {
        if (what == 0) {
            return now.day;
        }
        if (what < 0 || what > 8 || !now.has(of)) {
            return BAD;
        }
        Disk disk = now.disks[of];
        switch (what) {
            case 1: return disk.number;
            case 2: return disk.since;
            case 3: return disk.kind.code;
            case 4: return disk.readsOn(now.day) ? 1 : 0;
            case 5: return disk.kind.stampOn(now.day, disk.number);
            case 6: return disk.kind.roomBy(disk.number);
            case 7: return Integer.bitCount(disk.held);
            default: return rule().likelihood(disk.number, now.day);
        }
    }

    public int file(int disk, int file, int what) {
        if (!now.has(disk) || !isFile(file) || what < 0 || what > 1) {
            return BAD;
        }
        return what == 0 ? now.disks[disk].contents[file] : now.disks[disk].stamps[file];
    }

    // ---- texts

    public int feed(int letter) {
        if (letter < 0 || letter > 255) {
            return BAD;
        }
        return tape.add(letter) ? tape.size : FULL;
    }

    public int text() {
        if (textCount >= TEXTS) {
            return FULL;
        }
        int fault = tape.read();
        tape.clear();
        if (fault != NONE) {
            return FAULT_BASE - fault;
        }
        texts[textCount].become(tape.rule);
        textCount++;
        return textCount - 1;
    }

    public int force(int text) {
        if (text < 0 || text >= textCount) {
            return BAD;
        }
        int was = now.rule;
        now.rule = text;
        return was;
    }

    // ---- writing, copying

    public int write(int disk, int file, int content) {
        if (!now.has(disk) || !isFile(file) || content < 0 || content > MOST_CONTENT) {
            return BAD;
        }
        Disk onto = now.disks[disk];
        if (!onto.readsOn(now.day)) {
            return STATE;
        }
        if (!onto.takesIn(file)) {
            return FULL;
        }
        onto.put(file, content, onto.kind.stampOn(now.day, onto.number));
        return onto.contents[file];
    }

    public int lose(int disk, int file) {
        if (!now.has(disk) || !isFile(file)) {
            return BAD;
        }
        Disk from = now.disks[disk];
        if (!from.readsOn(now.day)) {
            return STATE;
        }
        int was = from.contents[file];
        from.drop(file);
        return was;
    }

    public int copies(int one, int other) {
        if (!areTwo(one, other)) {
            return BAD;
        }
        return now.canCopy(one, other) ? now.copyOnto(one, other, rule()) : STATE;
    }

    public int on(int file) {
        return isFile(file) ? now.holders(file) : BAD;
    }

    public int newest(int file, int what) {
        if (!isFile(file) || what < 0 || what > 2) {
            return BAD;
        }
        int disk = now.newestHolder(file);
        if (disk == NONE) {
            return what == 2 ? NO_STAMP : NONE;
        }
        if (what == 0) {
            return disk;
        }
        return what == 1 ? now.disks[disk].contents[file] : now.disks[disk].stamps[file];
    }

    public int all(int what) {
        if (what < 0 || what > 8) {
            return BAD;
        }
        if (what == 0) {
            return now.differing();
        }
        if (what == 7) {
            return now.lost();
        }
        return what == 8 ? worthOf(now.filesOn(now.readers())) : now.safe(what);
    }

    // ---- what would be best

    public int best(int k, int what) {
        if (!isHowMany(k) || what < 0 || what > 1) {
            return BAD;
        }
        int pair = NONE;
        int most = Integer.bitCount(now.safe(k));
        for (int one = 0; one < now.size; one++) {
            for (int other = 0; other < now.size; other++) {
                int then = safeBehind(one, other, k);
                if (then > most) {
                    most = then;
                    pair = 10 * one + other;
                }
            }
        }
        return what == 0 ? pair : most;
    }

    public int fewest(int k) {
        if (!isHowMany(k)) {
            return BAD;
        }
        int needed = now.filesOn(now.readers());
        thought.become(now);
        for (int n = 0; n <= MOST_COPIES; n++) {
            if (comesToSafe(needed, k, n)) {
                return n;
            }
        }
        return NONE;
    }

    public int worst(int what) {
        if (what < 0 || what > 1) {
            return BAD;
        }
        int readers = now.readers();
        int worstDisk = NONE;
        int least = NONE;
        for (int i = 0; i < now.size; i++) {
            if (isIn(readers, i)) {
                int then = worthOf(now.filesOn(without(readers, i)));
                if (worstDisk == NONE || then < least) {
                    worstDisk = i;
                    least = then;
                }
            }
        }
        return what == 0 ? worstDisk : least;
    }

    public int letGo() {
        int readers = now.readers();
        int files = now.filesOn(readers);
        for (int i = 0; i < now.size; i++) {
            if (isIn(readers, i) && now.filesOn(without(readers, i)) == files) {
                return i;
            }
        }
        return NONE;
    }

    public int again(int one, int other) {
        if (!areTwo(one, other)) {
            return BAD;
        }
        if (!now.canCopy(one, other)) {
            return 0;
        }
        thought.become(now);
        thought.copyOnto(one, other, rule());
        return thought.disks[other].held & ~now.disks[other].held;
    }

    public int goes(int disk) {
        if (!now.has(disk)) {
            return BAD;
        }
        for (int day = now.day; day <= LAST_DAY; day++) {
            if (!now.disks[disk].readsOn(day)) {
                return day;
            }
        }
        return NONE;
    }

    public int plan(int sheet, int what) {
        if (!isSheet(sheet) || what < 0 || what > 2) {
            return BAD;
        }
        Sheet rows = sheets[sheet];
        if (rows.isMissing()) {
            return MISSING;
        }
        if (rows.size % 2 != 0 || !tellsDisks(rows)) {
            return BAD;
        }
        thought.become(now);
        int stop = copyInThought(rows);
        if (what == 0) {
            return stop;
        }
        return what == 1 ? thought.safe(2) : thought.differing();
    }

    // ---- contents that were told

    public int tells(int sheet, int disk, int one, int what) {
        if (!isSheet(sheet) || !now.has(disk) || what < 0 || what > 4) {
            return BAD;
        }
        boolean oneMatters = what == 1 || what == 2 || what == 4;
        if (oneMatters && !areTwo(one, disk)) {
            return BAD;
        }
        Sheet told = sheets[sheet];
        if (told.isMissing()) {
            return MISSING;
        }
        if (told.size != FILES) {
            return BAD;
        }
        switch (what) {
            case 0: return otherwise(now.disks[disk], told);
            case 1: return kindsTold(told, disk, one);
            case 2: return numbersTold(told, disk, one);
            case 3: return disksTold(told, disk);
            default: return textsTold(told, disk, one);
        }
    }

    public int film(int sheet, int disk) {
        if (!isSheet(sheet) || !now.has(disk)) {
            return BAD;
        }
        sheets[sheet].become(1, FILES);
        for (int file = 0; file < FILES; file++) {
            sheets[sheet].put(file, now.disks[disk].contents[file]);
        }
        return FILES;
    }

    public int lot(int seed) {
        return worthOf(now.filesOn(stayers(seed)));
    }

    public long chance(int seed, int n, int part) {
        if (n < 1 || n > MOST_SEEDS || part < 0 || part > 1) {
            return NO;
        }
        int files = now.filesOn(now.readers());
        int good = 0;
        for (int i = 0; i < n; i++) {
            if (now.filesOn(stayers(seed + i)) == files) {
                good++;
            }
        }
        int divisor = commonDivisor(good, n);
        return part == 0 ? good / divisor : n / divisor;
    }

    public int image() {
        kept.become(now);
        imageKept = true;
        return now.size;
    }

    public int back() {
        if (!imageKept) {
            return STATE;
        }
        now.become(kept);
        return now.size;
    }

    public int count(int what) {
        switch (what) {
            case 0: return now.size;
            case 1: return Integer.bitCount(now.readers());
            case 2: return now.contentCount();
            case 3: return textCount;
            case 4: return tape.size;
            case 5: return now.rule;
            default: return BAD;
        }
    }

    // ---- the host

    public int sheet(int sheet, int sort, int n) {
        if (!isSheet(sheet) || sort < Sheet.NO_SORT || sort > Sheet.LAST_SORT) {
            return BAD;
        }
        if (sort == Sheet.NO_SORT) {
            sheets[sheet].become(Sheet.NO_SORT, 0);
            return 1;
        }
        if (n > SHEET_SIZE) {
            return BAD;
        }
        if (n < 0) {
            return BELOW_ZERO;
        }
        sheets[sheet].become(sort, n);
        return 1;
    }

    public int cell(int sheet, int i, int v) {
        if (!isSheet(sheet)) {
            return BAD;
        }
        if (sheets[sheet].isMissing()) {
            return MISSING;
        }
        if (!sheets[sheet].has(i)) {
            return OUTSIDE;
        }
        sheets[sheet].put(i, v);
        return 1;
    }

    public int copy(int sheet, int i, int other, int j, int n) {
        if (!isSheet(sheet) || !isSheet(other)) {
            return BAD;
        }
        Sheet from = sheets[sheet];
        Sheet to = sheets[other];
        if (from.isMissing() || to.isMissing()) {
            return MISSING;
        }
        if (from.sort != to.sort) {
            return OTHER_SORT;
        }
        if (!from.hasPart(i, n) || !to.hasPart(j, n)) {
            return OUTSIDE;
        }
        System.arraycopy(from.row, i, to.row, j, n);
        return n;
    }

    public int disks(int sheet, int sort, int from, int n) {
        if (!isSheet(sheet) || sort < 0 || sort > Sheet.LAST_SORT || n < 0 || n > DISKS) {
            return BAD;
        }
        Sheet rows = sheets[sheet];
        if (rows.isMissing()) {
            return MISSING;
        }
        if (rows.sort != sort) {
            return OTHER_SORT;
        }
        int came = 0;
        int at = from;
        for (int i = 0; i < n; i++) {
            if (!rows.hasPart(at, 2)) {
                return OUTSIDE;
            }
            if (bring(rows.row[at], rows.row[at + 1]) >= 0) {
                came++;
            }
            at += 2;
        }
        return came;
    }

    public int taken(int disk, int k) {
        if (k < 0 || k >= KINDS) {
            return BAD;
        }
        if (!now.has(disk)) {
            return MISSING;
        }
        return isUnder(now.disks[disk].kind, k) ? now.disks[disk].number : OTHER_SORT;
    }

    // ---- what several calls ask

    private Rule rule() {
        return texts[now.rule];
    }

    private static boolean isFile(int file) {
        return file >= 0 && file < FILES;
    }

    private static boolean isSheet(int sheet) {
        return sheet >= 0 && sheet < SHEETS;
    }

    private static boolean isHowMany(int k) {
        return k >= 1 && k <= DISKS;
    }

    private boolean areTwo(int one, int other) {
        return now.has(one) && now.has(other) && one != other;
    }

    private static boolean isIn(int bits, int i) {
        return (bits >>> i & 1) != 0;
    }

    private static int without(int bits, int i) {
        return bits & ~(1 << i);
    }

    private int bring(int kind, int number) {
        if (kind < 0 || kind >= KINDS || number < 0 || number >= NUMBERS) {
            return BAD;
        }
        if (now.size >= DISKS) {
            return FULL;
        }
        now.disks[now.size].begin(kinds[kind], number, now.day);
        now.size++;
        return now.size - 1;
    }

    private static boolean isUnder(DiskKind kind, int k) {
        switch (k) {
            case 1: return kind instanceof CardKind;
            case 2: return kind instanceof CloudKind;
            case 3: return kind instanceof OldKind;
            case 4: return kind instanceof SharedKind;
            case 5: return kind instanceof PaperKind;
            default: return true;
        }
    }

    private int worthOf(int files) {
        int sum = 0;
        for (int file = 0; file < FILES; file++) {
            if (isIn(files, file)) {
                sum += rule().worth(file, now.day);
            }
        }
        return sum;
    }

    // ---- copies in thought

    private int safeBehind(int one, int other, int k) {
        if (one == other || !now.canCopy(one, other)) {
            return NONE;
        }
        thought.become(now);
        thought.copyOnto(one, other, rule());
        return Integer.bitCount(thought.safe(k));
    }

    /** Whether at most left more copies in thought can make all that is needed SAFE (k). */
    private boolean comesToSafe(int needed, int k, int left) {
        if ((needed & ~thought.safe(k)) == 0) {
            return true;
        }
        if (left < 1 || left > MOST_COPIES) {
            return false;
        }
        // A copy brings a FILE onto one more DISK at most: what lacks more than are left can't be helped,
        // and what lacks as many must come by each.
        if ((needed & ~thought.safe(k - left)) != 0) {
            return false;
        }
        int urgent = needed & ~thought.safe(k - left + 1);
        for (int one = 0; one < thought.size; one++) {
            for (int other = 0; other < thought.size; other++) {
                if (one != other && bringsAll(urgent, one, other) && leadsToSafe(one, other, needed, k, left)) {
                    return true;
                }
            }
        }
        return false;
    }

    private boolean bringsAll(int urgent, int one, int other) {
        int fresh = thought.disks[one].held & ~thought.disks[other].held;
        return (urgent & ~fresh) == 0 && thought.canCopy(one, other);
    }

    private boolean leadsToSafe(int one, int other, int needed, int k, int left) {
        Disk onto = thought.disks[other];
        before[left - 1].become(onto);
        // A copy by which nothing comes is no step: fewer copies were tried before.
        boolean leads = thought.copyOnto(one, other, rule()) > 0 && comesToSafe(needed, k, left - 1);
        onto.become(before[left - 1]);
        return leads;
    }

    private boolean tellsDisks(Sheet rows) {
        for (int i = 0; i < rows.size; i++) {
            if (!now.has(rows.row[i])) {
                return false;
            }
        }
        return true;
    }

    private int copyInThought(Sheet rows) {
        for (int i = 0; 2 * i + 1 < rows.size; i++) {
            int one = rows.row[2 * i];
            int other = rows.row[2 * i + 1];
            if (!areTwo(one, other) || !thought.canCopy(one, other)) {
                return i;
            }
            thought.copyOnto(one, other, rule());
        }
        return NONE;
    }

    // ---- what would have led to what was told

    private static int otherwise(Disk disk, Sheet told) {
        int files = 0;
        for (int file = 0; file < FILES; file++) {
            if (disk.contents[file] != told.row[file]) {
                files |= 1 << file;
            }
        }
        return files;
    }

    private boolean comesToTold(Sheet told, int disk, int one, Rule by) {
        if (!thought.canCopy(one, disk)) {
            return false;
        }
        thought.copyOnto(one, disk, by);
        return otherwise(thought.disks[disk], told) == 0;
    }

    private int kindsTold(Sheet told, int disk, int one) {
        int bits = 0;
        for (int kind = 0; kind < KINDS; kind++) {
            thought.become(now);
            thought.disks[disk].kind = kinds[kind];
            if (comesToTold(told, disk, one, rule())) {
                bits |= 1 << kind;
            }
        }
        return bits;
    }

    private int numbersTold(Sheet told, int disk, int one) {
        int bits = 0;
        for (int number = 0; number < NUMBERS; number++) {
            thought.become(now);
            thought.disks[disk].number = number;
            if (comesToTold(told, disk, one, rule())) {
                bits |= 1 << number;
            }
        }
        return bits;
    }

    private int disksTold(Sheet told, int disk) {
        int bits = 0;
        for (int one = 0; one < now.size; one++) {
            thought.become(now);
            if (one != disk && comesToTold(told, disk, one, rule())) {
                bits |= 1 << one;
            }
        }
        return bits;
    }

    private int textsTold(Sheet told, int disk, int one) {
        int bits = 0;
        for (int text = 0; text < textCount; text++) {
            thought.become(now);
            if (comesToTold(told, disk, one, texts[text])) {
                bits |= 1 << text;
            }
        }
        return bits;
    }

    // ---- by lot

    private int stayers(int seed) {
        int stay = now.readers();
        int z = seed;
        for (int i = 0; i < now.size; i++) {
            if (isIn(stay, i)) {
                z = z * 1103515245 + 12345;
                if ((z >>> 9) % 100 < rule().likelihood(now.disks[i].number, now.day)) {
                    stay = without(stay, i);
                }
            }
        }
        return stay;
    }

    /** The greatest that divides both; 1 at least, so that it can divide. */
    private static int commonDivisor(int some, int of) {
        for (int d = of; d > 1; d--) {
            if (some % d == 0 && of % d == 0) {
                return d;
            }
        }
        return 1;
    }

    // ---- the kinds

    private static class DiskKind {
        final int code;

        DiskKind(int code) {
            this.code = code;
        }

        boolean reads(int age, int day, int number) {
            return age <= 300;
        }

        int stampOn(int day, int number) {
            return day;
        }

        int keeps(int content) {
            return content;
        }

        int roomBy(int number) {
            return FILES;
        }
    }

    private static class CardKind extends DiskKind {
        CardKind(int code) {
            super(code);
        }

        boolean reads(int age, int day, int number) {
            return age <= 20 * number + 20;
        }

        int stampOn(int day, int number) {
            return super.stampOn(day, number) - number;
        }

        int roomBy(int number) {
            return 1 + number / 2;
        }
    }

    private static final class OldKind extends CardKind {
        OldKind(int code) {
            super(code);
        }

        boolean reads(int age, int day, int number) {
            return super.reads(age, day, number) && age % 2 == 0;
        }

        int stampOn(int day, int number) {
            return super.stampOn(day, number) / 2;
        }

        int keeps(int content) {
            return Math.min(content, 899);
        }
    }

    private static class CloudKind extends DiskKind {
        CloudKind(int code) {
            super(code);
        }

        boolean reads(int age, int day, int number) {
            return true;
        }
    }

    private static final class SharedKind extends CloudKind {
        SharedKind(int code) {
            super(code);
        }

        boolean reads(int age, int day, int number) {
            return super.reads(age, day, number) && day % 7 != number;
        }

        int stampOn(int day, int number) {
            return super.stampOn(day, number) + 1;
        }
    }

    private static final class PaperKind extends DiskKind {
        PaperKind(int code) {
            super(code);
        }

        boolean reads(int age, int day, int number) {
            return true;
        }

        int stampOn(int day, int number) {
            return 0;
        }

        int keeps(int content) {
            return content - content % 10;
        }

        int roomBy(int number) {
            return number;
        }
    }

    // ---- a disk, and all disks

    private static final class Disk {
        /** There from the first on, so that it is never missing. */
        DiskKind kind = new DiskKind(0);
        int number;
        int since;
        /** FILES (bits) of which something is there. */
        int held;
        final int[] contents = new int[FILES];
        final int[] stamps = new int[FILES];

        void begin(DiskKind newKind, int newNumber, int day) {
            kind = newKind;
            number = newNumber;
            since = day;
            for (int file = 0; file < FILES; file++) {
                drop(file);
            }
        }

        void become(Disk other) {
            kind = other.kind;
            number = other.number;
            since = other.since;
            held = other.held;
            System.arraycopy(other.contents, 0, contents, 0, FILES);
            System.arraycopy(other.stamps, 0, stamps, 0, FILES);
        }

        boolean readsOn(int day) {
            return kind.reads(day - since, day, number);
        }

        boolean takesIn(int file) {
            return isIn(held, file) || Integer.bitCount(held) < kind.roomBy(number);
        }

        void put(int file, int content, int stamp) {
            contents[file] = kind.keeps(content);
            stamps[file] = stamp;
            held |= 1 << file;
        }

        void drop(int file) {
            contents[file] = NONE;
            stamps[file] = NO_STAMP;
            held = without(held, file);
        }
    }

    private static final class World {
        int day;
        int rule;
        int size;
        final Disk[] disks = new Disk[DISKS];

        World() {
            for (int i = 0; i < DISKS; i++) {
                disks[i] = new Disk();
            }
        }

        void become(World other) {
            day = other.day;
            rule = other.rule;
            size = other.size;
            for (int i = 0; i < DISKS; i++) {
                disks[i].become(other.disks[i]);
            }
        }

        boolean has(int disk) {
            return disk >= 0 && disk < size;
        }

        int readers() {
            int bits = 0;
            for (int i = 0; i < size; i++) {
                if (disks[i].readsOn(day)) {
                    bits |= 1 << i;
                }
            }
            return bits;
        }

        int filesOn(int these) {
            int files = 0;
            for (int i = 0; i < size; i++) {
                if (isIn(these, i)) {
                    files |= disks[i].held;
                }
            }
            return files;
        }

        int holders(int file) {
            return holdersAmong(readers(), file);
        }

        int holdersAmong(int these, int file) {
            int bits = these;
            for (int i = 0; i < size; i++) {
                if (!isIn(disks[i].held, file)) {
                    bits = without(bits, i);
                }
            }
            return bits;
        }

        int newestHolder(int file) {
            int bits = holders(file);
            int newest = NONE;
            for (int i = 0; i < size; i++) {
                if (isIn(bits, i) && (newest == NONE || disks[i].stamps[file] > disks[newest].stamps[file])) {
                    newest = i;
                }
            }
            return newest;
        }

        int differing() {
            int readers = readers();
            int files = 0;
            for (int file = 0; file < FILES; file++) {
                if (areUnlike(file, holdersAmong(readers, file))) {
                    files |= 1 << file;
                }
            }
            return files;
        }

        boolean areUnlike(int file, int these) {
            int first = NONE;
            for (int i = 0; i < size; i++) {
                if (isIn(these, i)) {
                    if (first == NONE) {
                        first = disks[i].contents[file];
                    } else if (first != disks[i].contents[file]) {
                        return true;
                    }
                }
            }
            return false;
        }

        int safe(int k) {
            int readers = readers();
            int files = 0;
            for (int file = 0; file < FILES; file++) {
                if (Integer.bitCount(holdersAmong(readers, file)) >= k) {
                    files |= 1 << file;
                }
            }
            return files;
        }

        int lost() {
            int readers = readers();
            return filesOn(~readers) & ~filesOn(readers);
        }

        int contentCount() {
            int sum = 0;
            for (int i = 0; i < size; i++) {
                sum += Integer.bitCount(disks[i].held);
            }
            return sum;
        }

        boolean canCopy(int one, int other) {
            return disks[one].readsOn(day) && disks[other].readsOn(day);
        }

        int copyOnto(int one, int other, Rule by) {
            Disk from = disks[one];
            Disk onto = disks[other];
            int came = 0;
            for (int file = 0; file < FILES; file++) {
                if (isIn(from.held, file) && onto.takesIn(file)) {
                    int same = from.contents[file] == onto.contents[file] ? 1 : 0;
                    if (by.takes(onto.stamps[file], from.stamps[file], same, onto.number, file, day)) {
                        onto.put(file, from.contents[file], from.stamps[file]);
                        came++;
                    }
                }
            }
            return came;
        }
    }

    // ---- a text that was read, and how it is read

    /** A TEXT as steps for a stack: a step from 0 on puts a NUMBER there, others are those below. */
    private static final class Rule {
        static final int FIRST_NAME = -1, LAST_NAME = -6, NEGATE = -7, DENY = -8;
        static final int TIMES = -9, PLUS = -10, MINUS = -11, LESS = -12, LIKE = -13, BOTH = -14, EITHER = -15;
        static final int PARTS = 3;
        /** At most 5 wait ahead of each of 6 levels of brackets, and the newest: 31. */
        static final int STACK = 32;

        final int[] steps = new int[TAPE_SIZE];
        final int[] ends = new int[PARTS];
        final int[] names = new int[FIRST_NAME - LAST_NAME + 1];
        final int[] stack = new int[STACK];
        int size;
        int top;

        void clear() {
            size = 0;
        }

        void become(Rule other) {
            size = other.size;
            System.arraycopy(other.steps, 0, steps, 0, TAPE_SIZE);
            System.arraycopy(other.ends, 0, ends, 0, PARTS);
        }

        void add(int step) {
            if (size < steps.length) {
                steps[size] = step;
                size++;
            }
        }

        void endPart(int part) {
            ends[part] = size;
        }

        boolean takes(int here, int there, int same, int number, int file, int day) {
            names[0] = here;
            names[1] = there;
            names[2] = same;
            nameRest(number, file, day);
            return answer(0) != 0;
        }

        int likelihood(int number, int day) {
            nameNothingThere();
            nameRest(number, 0, day);
            return Math.max(0, Math.min(100, answer(1)));
        }

        int worth(int file, int day) {
            nameNothingThere();
            nameRest(0, file, day);
            return Math.max(0, Math.min(99, answer(2)));
        }

        void nameNothingThere() {
            names[0] = 0;
            names[1] = 0;
            names[2] = 0;
        }

        void nameRest(int number, int file, int day) {
            names[3] = number;
            names[4] = file;
            names[5] = day;
        }

        int answer(int part) {
            top = 0;
            int from = part == 0 ? 0 : ends[part - 1];
            for (int i = from; i < ends[part] && i < steps.length; i++) {
                int step = steps[i];
                if (step >= 0) {
                    push(step);
                } else if (step >= LAST_NAME) {
                    push(names[FIRST_NAME - step]);
                } else if (step >= DENY) {
                    turnTop(step);
                } else {
                    joinTwo(step);
                }
            }
            return top > 0 ? stack[top - 1] : 0;
        }

        void push(int value) {
            if (top < stack.length) {
                stack[top] = value;
                top++;
            }
        }

        void turnTop(int step) {
            if (top > 0) {
                int value = stack[top - 1];
                int denied = value == 0 ? 1 : 0;
                stack[top - 1] = step == NEGATE ? -value : denied;
            }
        }

        void joinTwo(int step) {
            if (top < 2) {
                return;
            }
            int a = stack[top - 2];
            int b = stack[top - 1];
            int joined;
            switch (step) {
                case TIMES: joined = a * b; break;
                case PLUS: joined = a + b; break;
                case MINUS: joined = a - b; break;
                case LESS: joined = a < b ? 1 : 0; break;
                case LIKE: joined = a == b ? 1 : 0; break;
                case BOTH: joined = a != 0 && b != 0 ? 1 : 0; break;
                default: joined = a != 0 || b != 0 ? 1 : 0; break;
            }
            top--;
            stack[top - 1] = joined;
        }
    }

    /** THE TAPE; a FAULT is always at the TOKEN that stands next, so place tells it. */
    private static final class Tape {
        static final String WORDS = "takes goes worth or and not here there same number file day ";
        /** TOKENS: the SIGNS by their bytes, the KEYS from TAKES on in the order of WORDS, the NAMES as one. */
        static final int END = 0, WRONG = 1, NUMBER = 2, NAME = 3;
        static final int TAKES = 4, OR = 7, AND = 8, NOT = 9, KEYS = 6;
        static final int MOST_DIGITS = 4, MOST_OPEN = 5;
        /** The levels of an E, from what holds least together to a ONE. */
        static final int EITHER = 0, BOTH = 1, COMPARED = 2, SUM = 3, TERM = 4, ONE = 5;

        final int[] bytes = new int[TAPE_SIZE];
        /** What was read last, whole if there was no FAULT. */
        final Rule rule = new Rule();
        int size;
        int place;
        int next;
        int token;
        int value;

        boolean add(int letter) {
            if (size >= bytes.length) {
                return false;
            }
            bytes[size] = letter;
            size++;
            return true;
        }

        void clear() {
            size = 0;
        }

        /** The place of the FAULT; NONE. */
        int read() {
            rule.clear();
            next = 0;
            advance();
            for (int part = 0; part < Rule.PARTS; part++) {
                if (token != TAKES + part) {
                    return place;
                }
                advance();
                if (!readLevel(EITHER, 0) || token != ';') {
                    return place;
                }
                rule.endPart(part);
                advance();
            }
            return token == END ? NONE : place;
        }

        /** Reads what stands on a level while so many of ( not - are open; false: a FAULT. */
        private boolean readLevel(int level, int open) {
            if (level >= ONE) {
                return readOne(open);
            }
            if (level == COMPARED && token == NOT) {
                return readDenied(open);
            }
            boolean fine = readLevel(level + 1, open);
            int most = level == COMPARED ? 1 : TAPE_SIZE;
            for (int turn = 0; turn < most && fine && stepOn(level) != NONE; turn++) {
                int step = stepOn(level);
                advance();
                fine = readLevel(level + 1, open);
                rule.add(step);
            }
            return fine;
        }

        private boolean readDenied(int open) {
            if (open >= MOST_OPEN) {
                return false;
            }
            advance();
            boolean fine = readLevel(COMPARED, open + 1);
            rule.add(Rule.DENY);
            return fine;
        }

        private boolean readOne(int open) {
            if (token == NUMBER || token == NAME) {
                rule.add(token == NUMBER ? value : Rule.FIRST_NAME - value);
                advance();
                return true;
            }
            if (token != '(' && token != '-' || open >= MOST_OPEN) {
                return false;
            }
            boolean bracket = token == '(';
            advance();
            if (!bracket) {
                boolean fine = readOne(open + 1);
                rule.add(Rule.NEGATE);
                return fine;
            }
            if (!readLevel(EITHER, open + 1) || token != ')') {
                return false;
            }
            advance();
            return true;
        }

        /** The step by which the TOKEN joins two of what a level is made of; NONE: it joins none there. */
        private int stepOn(int level) {
            switch (token) {
                case OR: return level == EITHER ? Rule.EITHER : NONE;
                case AND: return level == BOTH ? Rule.BOTH : NONE;
                case '<': return level == COMPARED ? Rule.LESS : NONE;
                case '=': return level == COMPARED ? Rule.LIKE : NONE;
                case '+': return level == SUM ? Rule.PLUS : NONE;
                case '-': return level == SUM ? Rule.MINUS : NONE;
                case '*': return level == TERM ? Rule.TIMES : NONE;
                default: return NONE;
            }
        }

        private void advance() {
            while (next < size && (bytes[next] == 32 || bytes[next] == 10)) {
                next++;
            }
            place = next;
            if (next >= size) {
                token = END;
            } else if (isLetter(bytes[next])) {
                readWord();
            } else if (isDigit(bytes[next])) {
                readNumber();
            } else {
                token = isSign(bytes[next]) ? bytes[next] : WRONG;
                next++;
            }
        }

        private void readWord() {
            while (next < size && isLetter(bytes[next])) {
                next++;
            }
            int word = wordIndex();
            if (word >= KEYS) {
                token = NAME;
                value = word - KEYS;
            } else {
                token = word == NONE ? WRONG : TAKES + word;
            }
        }

        private void readNumber() {
            value = 0;
            int digits = 0;
            while (next < size && isDigit(bytes[next])) {
                value = value * 10 + bytes[next] - '0';
                digits++;
                next++;
            }
            token = digits > MOST_DIGITS ? WRONG : NUMBER;
        }

        /** Which of WORDS stands from place till next; NONE. */
        private int wordIndex() {
            int index = 0;
            int from = 0;
            for (int i = 0; i < WORDS.length(); i++) {
                if (WORDS.charAt(i) == ' ') {
                    if (isSpelled(from, i)) {
                        return index;
                    }
                    index++;
                    from = i + 1;
                }
            }
            return NONE;
        }

        private boolean isSpelled(int from, int to) {
            if (to - from != next - place) {
                return false;
            }
            for (int i = from; i < to; i++) {
                if (WORDS.charAt(i) != bytes[place + i - from]) {
                    return false;
                }
            }
            return true;
        }

        private static boolean isLetter(int letter) {
            return letter >= 'a' && letter <= 'z';
        }

        private static boolean isDigit(int letter) {
            return letter >= '0' && letter <= '9';
        }

        private static boolean isSign(int letter) {
            switch (letter) {
                case '(': case ')': case ';': case '+': case '-': case '*': case '<': case '=': return true;
                default: return false;
            }
        }
    }

    // ---- a sheet

    private static final class Sheet {
        static final int NO_SORT = -1, LAST_SORT = 2;

        final int[] row = new int[SHEET_SIZE];
        int sort = NO_SORT;
        int size;

        void become(int newSort, int newSize) {
            sort = newSort;
            size = newSize;
            Arrays.fill(row, 0);
        }

        boolean isMissing() {
            return sort == NO_SORT;
        }

        boolean has(int i) {
            return i >= 0 && i < size;
        }

        boolean hasPart(int i, int n) {
            return n >= 0 && i >= 0 && i <= size - n;
        }

        void put(int i, int v) {
            if (sort == 0) {
                row[i] = (byte) v;
            } else {
                row[i] = sort == 1 ? (short) v : v;
            }
        }
    }
}
