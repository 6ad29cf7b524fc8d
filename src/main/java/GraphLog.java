import java.util.Arrays;

/** Graphs kept on a disk, as the document GraphLog tells it: a log of rows, and two heads by turns. */
public final class GraphLog {
    public static final int NONE = -1, FULL = -3;

    private static final int NODES = 64;
    /** A graph has so many chunks, and a chunk tells of so many nodes. */
    private static final int PARTS = 8;
    private static final int FIRST_ROOM = 64, MOST_ROOM = 65536;
    private static final int MOST_VERSIONS = 100, MOST_ANSWERS = 100;

    private static final int DISK_BYTES = 24032, LOG_PLACE = 32, LOG_BYTES = 24000;
    private static final int EVEN_HEAD = 0, ODD_HEAD = 16, HEAD_BYTES = 16, HEAD_SUM_START = 1;
    private static final int SUM_BYTES = 8, ROW_FRONT = 4, ROW_FRAME = ROW_FRONT + SUM_BYTES;
    private static final long SUM_FACTOR = 0xC2B2AE3D27D4EB4FL;

    private static final int CHUNK = 1, CHANGE = 2, VERSION = 3, ANSWER = 4, DROP = 5;
    private static final int CHUNK_SIZE = 64, CHANGE_SIZE = 3, VERSION_SIZE = 16, ANSWER_SIZE = 10, DROP_SIZE = 0;

    private static final int MOST_CALLS = 512;
    private static final int MOST_ROWS = LOG_BYTES / ROW_FRAME;
    /** A log has no room for more chunk rows, so no more chunks can have come. */
    private static final int MOST_CHUNKS = LOG_BYTES / (CHUNK_SIZE + ROW_FRAME);
    /** Between two openings the log grows to its end at most, and each call keeps one head at most. */
    private static final int MOST_WRITTEN = LOG_BYTES + MOST_CALLS * HEAD_BYTES;

    private final Disk disk;
    private final Known known;
    /** Looked at by badAt, so that what the store knows stays as it is. */
    private final Known onDisk;
    private final Plan plan;
    private int turn;
    private boolean opened;

    public GraphLog() {
        disk = new Disk();
        known = new Known();
        onDisk = new Known();
        plan = new Plan();
        startAnew(FIRST_ROOM);
    }

    public void begin(int chunks) throws NegativeArraySizeException, IllegalArgumentException {
        if (chunks < 0) {
            throw new NegativeArraySizeException("the room is below 0");
        }
        if (chunks == 0 || chunks > MOST_ROOM) {
            throw new IllegalArgumentException("the room is not 1 .. 65536");
        }
        startAnew(chunks);
    }

    public int edge(int a, int b, boolean on) throws IllegalStateException, IndexOutOfBoundsException {
        requireOpen();
        requireNode(a);
        requireNode(b);
        if (known.joins(NONE, a, b) == on) {
            return 0;
        }
        if (!logHasRoom(CHANGE_SIZE + ROW_FRAME)) {
            return FULL;
        }
        startRow(CHANGE, known.changes);
        disk.write(a, 1);
        disk.write(b, 1);
        disk.write(on ? 1 : 0, 1);
        endRow();
        return 1;
    }

    public int version() throws IllegalStateException {
        requireOpen();
        if (known.versions >= MOST_VERSIONS || !plan.numberChunks(known) || !logHasRoom(plan.bytes())) {
            return FULL;
        }
        for (int g = 0; g < PARTS; g++) {
            if (plan.isNew(g)) {
                writeChunk(g, plan.numberOf(g));
            }
        }
        int number = known.versions;
        startRow(VERSION, number);
        for (int g = 0; g < PARTS; g++) {
            disk.write(plan.numberOf(g), 2);
        }
        endRow();
        return number;
    }

    public int answer(int version, int node) throws IllegalStateException, IndexOutOfBoundsException {
        requireOpen();
        requireVersion(version);
        requireNode(node);
        if (known.answers >= MOST_ANSWERS || !logHasRoom(ANSWER_SIZE + ROW_FRAME)) {
            return FULL;
        }
        int number = known.answers;
        startRow(ANSWER, number);
        disk.write(version, 1);
        disk.write(node, 1);
        disk.write(reachedFrom(version, node), 8);
        endRow();
        return number;
    }

    public int drop(int version) throws IllegalStateException, IndexOutOfBoundsException {
        requireOpen();
        requireVersion(version);
        if (!logHasRoom(DROP_SIZE + ROW_FRAME)) {
            return FULL;
        }
        int before = known.chunks.countNamed();
        startRow(DROP, version);
        endRow();
        return before - known.chunks.countNamed();
    }

    public int keep() throws IllegalStateException {
        requireOpen();
        turn++;
        writeHead();
        return turn;
    }

    public int crash(int n) {
        if (!opened) {
            return 0;
        }
        opened = false;
        return disk.takeBack(n);
    }

    public int open() {
        opened = false;
        int head = headToTake();
        if (head == NONE) {
            return NONE;
        }
        int bad = known.readLog(disk, (int) disk.number(head + 4, 4), known.room);
        if (bad != NONE) {
            return -2 - bad;
        }
        turn = (int) disk.number(head, 4);
        disk.forgetWritten();
        opened = true;
        return known.countThere();
    }

    public int poke(int place, int mask) throws IndexOutOfBoundsException {
        requirePlace(place);
        int was = disk.get(place);
        disk.set(place, was ^ mask);
        return was;
    }

    public int byteAt(int place) throws IndexOutOfBoundsException {
        requirePlace(place);
        return disk.get(place);
    }

    public int badAt() throws IllegalStateException {
        requireOpen();
        return onDisk.readLog(disk, known.length, known.room);
    }

    public boolean has(int version, int a, int b) throws IllegalStateException, IndexOutOfBoundsException {
        requireOpen();
        requireGraph(version);
        requireNode(a);
        requireNode(b);
        return known.joins(version, a, b);
    }

    public int chunk(int version, int g) throws IllegalStateException, IndexOutOfBoundsException {
        requireOpen();
        requireVersion(version);
        if (g < 0 || g >= PARTS) {
            throw new IndexOutOfBoundsException("a graph has no such chunk");
        }
        return known.chunks.numberIn(known.slotOf(version, g));
    }

    public int named(int chunk) throws IllegalStateException, IndexOutOfBoundsException {
        requireOpen();
        if (chunk < 0 || chunk >= known.room) {
            throw new IndexOutOfBoundsException("no such chunk");
        }
        return known.chunks.namesOf(known.chunks.find(chunk));
    }

    public int differ(int one, int other) throws IllegalStateException, IndexOutOfBoundsException {
        requireOpen();
        requireGraph(one);
        requireGraph(other);
        int count = 0;
        for (int node = 0; node < NODES; node++) {
            count += Long.bitCount(known.edgesFrom(one, node) ^ known.edgesFrom(other, node));
        }
        return count;
    }

    public int far(int version, int a, int b) throws IllegalStateException, IndexOutOfBoundsException {
        requireOpen();
        requireGraph(version);
        requireNode(a);
        requireNode(b);
        long seen = 1L << a;
        long latest = seen;
        for (int steps = 0; steps < NODES; steps++) {
            if ((latest >>> b & 1L) != 0L) {
                return steps;
            }
            latest = oneEdgeOn(version, latest) & ~seen;
            seen |= latest;
        }
        return NONE;
    }

    public boolean usable(int answer) throws IllegalStateException, IndexOutOfBoundsException {
        requireOpen();
        requireAnswer(answer);
        return known.isThere(known.versionOfAnswer(answer));
    }

    public long mask(int answer) throws IllegalStateException, IndexOutOfBoundsException {
        requireOpen();
        requireAnswer(answer);
        return known.maskOfAnswer(answer);
    }

    public int told(int what) throws IllegalStateException, IndexOutOfBoundsException {
        requireOpen();
        switch (what) {
            case 0: return known.countThere();
            case 1: return known.versions;
            case 2: return known.answers;
            case 3: return known.length;
            case 4: return known.changes;
            case 5: return turn;
            case 6: return known.countEdges();
            case 7: return known.chunks.countNamed();
            case 8: return known.rows;
            case 9: return disk.written;
            default: throw new IndexOutOfBoundsException("nothing of that number is told");
        }
    }

    public boolean isOpen() {
        return opened;
    }

    private void requireOpen() {
        if (!opened) {
            throw new IllegalStateException("the store is closed");
        }
    }

    private void requireNode(int node) {
        if (node < 0 || node >= NODES) {
            throw new IndexOutOfBoundsException("no such node");
        }
    }

    private void requireVersion(int version) {
        if (!known.isThere(version)) {
            throw new IndexOutOfBoundsException("no such version");
        }
    }

    private void requireGraph(int version) {
        if (version != NONE) {
            requireVersion(version);
        }
    }

    private void requireAnswer(int answer) {
        if (answer < 0 || answer >= known.answers) {
            throw new IndexOutOfBoundsException("no such answer");
        }
    }

    private void requirePlace(int place) {
        if (place < 0 || place >= DISK_BYTES) {
            throw new IndexOutOfBoundsException("no such place");
        }
    }

    private void startAnew(int room) {
        disk.clear();
        known.forget(room);
        turn = 0;
        writeHead();
        disk.forgetWritten();
        opened = true;
    }

    private boolean logHasRoom(int bytes) {
        return known.length + bytes <= LOG_BYTES;
    }

    private void startRow(int kind, int number) {
        disk.goTo(LOG_PLACE + known.length);
        disk.write(kind, 1);
        disk.write(number, 2);
        disk.write(sizeOf(kind), 1);
    }

    /** What is known changes by the row itself, so that it is the same after an open(). */
    private void endRow() {
        int place = LOG_PLACE + known.length;
        disk.write(disk.sum(place, disk.at, place), SUM_BYTES);
        known.takeRow(disk, place);
    }

    private void writeChunk(int g, int number) {
        startRow(CHUNK, number);
        for (int i = 0; i < PARTS; i++) {
            disk.write(known.edgesOfNow(g * PARTS + i), 8);
        }
        endRow();
    }

    private void writeHead() {
        int place = (turn & 1) == 1 ? ODD_HEAD : EVEN_HEAD;
        disk.goTo(place);
        disk.write(turn, 4);
        disk.write(known.length, 4);
        disk.write(disk.sum(place, disk.at, HEAD_SUM_START), SUM_BYTES);
    }

    private int headToTake() {
        boolean even = isHeadRight(EVEN_HEAD);
        boolean odd = isHeadRight(ODD_HEAD);
        if (even && odd) {
            return disk.number(ODD_HEAD, 4) > disk.number(EVEN_HEAD, 4) ? ODD_HEAD : EVEN_HEAD;
        }
        if (even) {
            return EVEN_HEAD;
        }
        return odd ? ODD_HEAD : NONE;
    }

    private boolean isHeadRight(int place) {
        int sumPlace = place + HEAD_BYTES - SUM_BYTES;
        return disk.sum(place, sumPlace, HEAD_SUM_START) == disk.number(sumPlace, SUM_BYTES)
            && disk.number(place + 4, 4) <= LOG_BYTES;
    }

    private long reachedFrom(int version, int node) {
        long seen = 1L << node;
        long latest = seen;
        for (int steps = 0; steps < NODES && latest != 0L; steps++) {
            latest = oneEdgeOn(version, latest) & ~seen;
            seen |= latest;
        }
        return seen;
    }

    private long oneEdgeOn(int version, long nodes) {
        long next = 0L;
        for (int node = 0; node < NODES; node++) {
            if ((nodes >>> node & 1L) != 0L) {
                next |= known.edgesFrom(version, node);
            }
        }
        return next;
    }

    private static int sizeOf(int kind) {
        switch (kind) {
            case CHUNK: return CHUNK_SIZE;
            case CHANGE: return CHANGE_SIZE;
            case VERSION: return VERSION_SIZE;
            case ANSWER: return ANSWER_SIZE;
            case DROP: return DROP_SIZE;
            default: return NONE;
        }
    }

    /** The bytes, and what those that were written since the latest opening were before. */
    private static final class Disk {
        private final byte[] bytes = new byte[DISK_BYTES];
        /** A place, and below it eight bits for what its byte was. */
        private final int[] before = new int[MOST_WRITTEN];
        private int written;
        private int at;

        void clear() {
            Arrays.fill(bytes, (byte) 0);
        }

        void forgetWritten() {
            written = 0;
        }

        void goTo(int place) {
            at = place;
        }

        int get(int place) {
            return place < 0 || place >= bytes.length ? 0 : bytes[place] & 255;
        }

        void set(int place, int value) {
            if (place >= 0 && place < bytes.length) {
                bytes[place] = (byte) value;
            }
        }

        long number(int place, int count) {
            long value = 0L;
            for (int i = 0; i < count; i++) {
                value = value << 8 | get(place + i);
            }
            return value;
        }

        void write(long value, int count) {
            for (int i = count - 1; i >= 0; i--) {
                writeByte((int) (value >>> 8 * i) & 255);
            }
        }

        private void writeByte(int value) {
            // only an object with more calls than the document allows comes to the end of this array
            if (written < before.length) {
                before[written] = at << 8 | get(at);
                written++;
            }
            set(at, value);
            at++;
        }

        int takeBack(int n) {
            int count = n < 0 ? 0 : Math.min(n, written);
            for (int i = 0; i < count && written > 0 && written <= before.length; i++) {
                written--;
                set(before[written] >>> 8, before[written] & 255);
            }
            return count;
        }

        long sum(int from, int to, long start) {
            long s = start;
            int end = Math.min(to, bytes.length);
            for (int place = Math.max(from, 0); place < end; place++) {
                long mixed = s ^ (bytes[place] & 255);
                s = (mixed << 29 | mixed >>> 35) * SUM_FACTOR;
            }
            return s;
        }
    }

    /** The chunks that came, each number in a slot of its own, and how many versions name each. */
    private static final class Chunks {
        private final int[] numbers = new int[MOST_CHUNKS];
        private final int[] names = new int[MOST_CHUNKS];
        private final long[] edges = new long[MOST_CHUNKS * PARTS];
        private int count;

        void forget() {
            count = 0;
        }

        private boolean isSlot(int slot) {
            return slot >= 0 && slot < count && slot < MOST_CHUNKS;
        }

        int find(int number) {
            for (int slot = 0; slot < count && slot < MOST_CHUNKS; slot++) {
                if (numbers[slot] == number) {
                    return slot;
                }
            }
            return NONE;
        }

        int numberIn(int slot) {
            return isSlot(slot) ? numbers[slot] : NONE;
        }

        int namesOf(int slot) {
            return isSlot(slot) ? names[slot] : 0;
        }

        void addName(int slot, int change) {
            if (isSlot(slot)) {
                names[slot] += change;
            }
        }

        long edgesOf(int slot, int i) {
            return isSlot(slot) && i >= 0 && i < PARTS ? edges[slot * PARTS + i] : 0L;
        }

        void take(int number, Disk disk, int place) {
            int slot = find(number);
            if (slot == NONE) {
                slot = addSlot(number);
            }
            for (int i = 0; i < PARTS && isSlot(slot); i++) {
                edges[slot * PARTS + i] = disk.number(place + 8 * i, 8);
            }
        }

        private int addSlot(int number) {
            if (count < 0 || count >= MOST_CHUNKS) {
                return NONE;
            }
            numbers[count] = number;
            names[count] = 0;
            count++;
            return count - 1;
        }

        int countNamed() {
            int named = 0;
            for (int slot = 0; slot < count; slot++) {
                if (namesOf(slot) > 0) {
                    named++;
                }
            }
            return named;
        }

        /** The least number, since a log that calls did not write may have two chunks that are alike. */
        int namedAlike(Known known, int g) {
            int least = NONE;
            for (int slot = 0; slot < count; slot++) {
                int number = numberIn(slot);
                if (namesOf(slot) > 0 && (least == NONE || number < least) && isAlike(slot, known, g)) {
                    least = number;
                }
            }
            return least;
        }

        private boolean isAlike(int slot, Known known, int g) {
            for (int i = 0; i < PARTS; i++) {
                if (edgesOf(slot, i) != known.edgesOfNow(g * PARTS + i)) {
                    return false;
                }
            }
            return true;
        }

        void markNamed(boolean[] marks) {
            for (int i = 0; i < marks.length; i++) {
                marks[i] = false;
            }
            for (int slot = 0; slot < count; slot++) {
                int number = numberIn(slot);
                if (namesOf(slot) > 0 && number >= 0 && number < marks.length) {
                    marks[number] = true;
                }
            }
        }
    }

    /** What the rows of a log tell, and when the next of them is right. */
    private static final class Known {
        private final long[] now = new long[NODES];
        private final Chunks chunks = new Chunks();
        /** Of the versions that came; what stands behind them counts for nothing. */
        private final boolean[] there = new boolean[MOST_VERSIONS];
        private final int[] slots = new int[MOST_VERSIONS * PARTS];
        private final int[] answerVersions = new int[MOST_ANSWERS];
        private final long[] answerMasks = new long[MOST_ANSWERS];
        private int room;
        private int changes;
        private int versions;
        private int answers;
        private int rows;
        private int length;

        void forget(int newRoom) {
            room = newRoom;
            Arrays.fill(now, 0L);
            chunks.forget();
            changes = 0;
            versions = 0;
            answers = 0;
            rows = 0;
            length = 0;
        }

        boolean isThere(int version) {
            return version >= 0 && version < versions && version < MOST_VERSIONS && there[version];
        }

        int countThere() {
            int count = 0;
            for (int version = 0; version < versions; version++) {
                if (isThere(version)) {
                    count++;
                }
            }
            return count;
        }

        int slotOf(int version, int g) {
            boolean right = version >= 0 && version < MOST_VERSIONS && g >= 0 && g < PARTS;
            return right ? slots[version * PARTS + g] : NONE;
        }

        long edgesOfNow(int node) {
            return node >= 0 && node < NODES ? now[node] : 0L;
        }

        /** A version of NONE is NOW. */
        long edgesFrom(int version, int node) {
            if (version == NONE) {
                return edgesOfNow(node);
            }
            return chunks.edgesOf(slotOf(version, node / PARTS), node % PARTS);
        }

        boolean joins(int version, int a, int b) {
            return (edgesFrom(version, a) >>> b & 1L) != 0L;
        }

        int countEdges() {
            int count = 0;
            for (int node = 0; node < NODES; node++) {
                count += Long.bitCount(now[node]);
            }
            return count;
        }

        int versionOfAnswer(int answer) {
            return answer >= 0 && answer < MOST_ANSWERS ? answerVersions[answer] : NONE;
        }

        long maskOfAnswer(int answer) {
            return answer >= 0 && answer < MOST_ANSWERS ? answerMasks[answer] : 0L;
        }

        /** The number of the first row that is not right; NONE: all are. */
        int readLog(Disk disk, int logLength, int logRoom) {
            forget(logRoom);
            int end = LOG_PLACE + logLength;
            for (int i = 0; i < MOST_ROWS && length < logLength; i++) {
                if (!isRowRight(disk, LOG_PLACE + length, end)) {
                    return rows;
                }
                takeRow(disk, LOG_PLACE + length);
            }
            return NONE;
        }

        private boolean isRowRight(Disk disk, int place, int end) {
            int size = sizeOf(disk.get(place));
            int sumPlace = place + ROW_FRONT + size;
            if (size == NONE || sumPlace + SUM_BYTES > end || disk.get(place + 3) != size) {
                return false;
            }
            return disk.sum(place, sumPlace, place) == disk.number(sumPlace, SUM_BYTES) && isTextRight(disk, place);
        }

        private boolean isTextRight(Disk disk, int place) {
            int number = (int) disk.number(place + 1, 2);
            int text = place + ROW_FRONT;
            switch (disk.get(place)) {
                case CHUNK: return number < room && chunks.namesOf(chunks.find(number)) == 0;
                case CHANGE: return number == changes
                    && isChange(disk.get(text), disk.get(text + 1), disk.get(text + 2));
                case VERSION: return number == versions && number < MOST_VERSIONS && haveCome(disk, text);
                case ANSWER: return number == answers && number < MOST_ANSWERS
                    && isThere(disk.get(text)) && disk.get(text + 1) < NODES;
                case DROP: return isThere(number);
                default: return false;
            }
        }

        /** A byte that is neither 1 nor 0 tells neither that the edge comes nor that it goes: it changes nothing. */
        private boolean isChange(int a, int b, int on) {
            return a < NODES && b < NODES && on <= 1 && (edgesOfNow(a) >>> b & 1L) != on;
        }

        private boolean haveCome(Disk disk, int text) {
            for (int g = 0; g < PARTS; g++) {
                if (chunks.find((int) disk.number(text + 2 * g, 2)) == NONE) {
                    return false;
                }
            }
            return true;
        }

        /** A row that is right becomes known. */
        void takeRow(Disk disk, int place) {
            int kind = disk.get(place);
            int number = (int) disk.number(place + 1, 2);
            int text = place + ROW_FRONT;
            switch (kind) {
                case CHUNK: chunks.take(number, disk, text); break;
                case CHANGE: takeChange(disk.get(text), disk.get(text + 1)); break;
                case VERSION: takeVersion(disk, text); break;
                case ANSWER: takeAnswer(disk.get(text), disk.number(text + 2, 8)); break;
                default: takeDrop(number); break;
            }
            rows++;
            length += ROW_FRAME + sizeOf(kind);
        }

        /** A change that is right changes NOW, so it turns the edge whichever way it goes. */
        private void takeChange(int a, int b) {
            if (a >= 0 && a < NODES) {
                now[a] ^= 1L << b;
            }
            changes++;
        }

        private void takeVersion(Disk disk, int text) {
            if (versions < 0 || versions >= MOST_VERSIONS) {
                return;
            }
            for (int g = 0; g < PARTS; g++) {
                slots[versions * PARTS + g] = chunks.find((int) disk.number(text + 2 * g, 2));
            }
            there[versions] = true;
            nameChunks(versions, 1);
            versions++;
        }

        private void takeAnswer(int version, long mask) {
            if (answers < 0 || answers >= MOST_ANSWERS) {
                return;
            }
            answerVersions[answers] = version;
            answerMasks[answers] = mask;
            answers++;
        }

        private void takeDrop(int version) {
            if (isThere(version)) {
                there[version] = false;
                nameChunks(version, -1);
            }
        }

        /** A version that has a chunk more than once names it once. */
        private void nameChunks(int version, int change) {
            for (int g = 0; g < PARTS; g++) {
                if (!hasBefore(version, g)) {
                    chunks.addName(slotOf(version, g), change);
                }
            }
        }

        private boolean hasBefore(int version, int g) {
            for (int h = 0; h < g; h++) {
                if (slotOf(version, h) == slotOf(version, g)) {
                    return true;
                }
            }
            return false;
        }
    }

    /** The numbers that the chunks of the next version are to have. */
    private static final class Plan {
        private final int[] numbers = new int[PARTS];
        private final boolean[] fresh = new boolean[PARTS];
        /** Of so many numbers eight are free always, as no more than MOST_CHUNKS are named. */
        private final boolean[] taken = new boolean[MOST_CHUNKS + PARTS];
        private int freshCount;

        int numberOf(int g) {
            return g >= 0 && g < PARTS ? numbers[g] : NONE;
        }

        boolean isNew(int g) {
            return g >= 0 && g < PARTS && fresh[g];
        }

        int bytes() {
            return freshCount * (CHUNK_SIZE + ROW_FRAME) + VERSION_SIZE + ROW_FRAME;
        }

        /** False: there is no room for the chunks that are new. */
        boolean numberChunks(Known known) {
            freshCount = 0;
            known.chunks.markNamed(taken);
            for (int g = 0; g < PARTS; g++) {
                int number = known.chunks.namedAlike(known, g);
                if (number == NONE) {
                    number = alikeBefore(known, g);
                }
                fresh[g] = number == NONE;
                if (fresh[g]) {
                    number = takeLeast(known.room);
                    freshCount++;
                }
                if (number == NONE) {
                    return false;
                }
                numbers[g] = number;
            }
            return true;
        }

        private int alikeBefore(Known known, int g) {
            for (int h = 0; h < g; h++) {
                if (areAlike(known, h, g)) {
                    return numberOf(h);
                }
            }
            return NONE;
        }

        private boolean areAlike(Known known, int h, int g) {
            for (int i = 0; i < PARTS; i++) {
                if (known.edgesOfNow(h * PARTS + i) != known.edgesOfNow(g * PARTS + i)) {
                    return false;
                }
            }
            return true;
        }

        private int takeLeast(int room) {
            for (int number = 0; number < taken.length && number < room; number++) {
                if (!taken[number]) {
                    taken[number] = true;
                    return number;
                }
            }
            return NONE;
        }
    }
}
