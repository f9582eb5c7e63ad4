/**
 * A log of records in blocks: each record lies in fragments with checks, none of which goes beyond
 * its block; a reader that takes them together again, from the beginning or from any place on,
 * drops what is damaged or lacks its beginning or end, and tells what it dropped.
 */
public final class FragmentLog {
    public static final int NONE = -1;
    public static final int FULL = -2;
    public static final int BEYOND = 1;
    public static final int CHECKED = 2;
    public static final int TORN = 3;
    public static final int UNENDED = 4;
    public static final int UNBEGUN = 5;
    public static final int UNKNOWN = 6;

    private static final int LOG_LIMIT = 4096;
    private static final int BUFFER_LIMIT = 400;
    private static final int TOLD_LIMIT = 100;
    private static final int FEED_LIMIT = 16;
    private static final int FIRST_SIZE = 64;
    private static final int LEAST_SIZE = 16;
    private static final int MOST_SIZE = 512;
    private static final int BYTE_LIMIT = 255;

    /** The bytes of a FRAGMENT before its own: the CHECK, the length and the KIND. */
    private static final int HEAD = 7;
    private static final int CHECK_BYTES = 4;
    private static final int LENGTH_BYTES = 2;

    private static final int ALL = 1;
    private static final int FIRST = 2;
    private static final int MIDDLE = 3;
    private static final int LAST = 4;

    /** What a BIT of READING may come upon beside a KIND; no KIND is above 255. */
    private static final int END = 256;
    private static final int BROKEN = 257;

    private final Row buffer = new Row(BUFFER_LIMIT);
    private final Blocks blocks = new Blocks();
    private final Reader reader = new Reader(blocks);

    public FragmentLog() {
    }

    public void clear(int size) throws IllegalArgumentException {
        if (size < LEAST_SIZE || size > MOST_SIZE) {
            throw new IllegalArgumentException("a size is 16 .. 512");
        }
        blocks.startAnew(size);
        reader.beginAt(0);
    }

    public int feed(int many, int a, int b, int c, int d)
            throws IllegalArgumentException, IllegalStateException {
        if (many < 0 || many > FEED_LIMIT) {
            throw new IllegalArgumentException("many is 0 .. 16");
        }
        if (!buffer.hasRoomFor(many)) {
            throw new IllegalStateException("the buffer has at most 400 bytes");
        }
        feedFrom(a, Math.min(many, 4));
        feedFrom(b, Math.min(many - 4, 4));
        feedFrom(c, Math.min(many - 8, 4));
        feedFrom(d, Math.min(many - 12, 4));
        return buffer.many();
    }

    private void feedFrom(int number, int many) {
        for (int k = 0; k < many; k++) {
            buffer.add(number >>> (24 - 8 * k));
        }
    }

    public int erase() {
        int had = buffer.many();
        buffer.shorten(0);
        return had;
    }

    public int check(int kind) throws IllegalArgumentException {
        if (!isByte(kind)) {
            throw new IllegalArgumentException("a kind is 0 .. 255");
        }
        return Sum.of(kind, buffer, 0, buffer.many());
    }

    public int append() {
        return blocks.addRecord(buffer) ? blocks.bytes().many() : FULL;
    }

    public int raw(int kind) throws IllegalArgumentException {
        if (!isByte(kind)) {
            throw new IllegalArgumentException("a kind is 0 .. 255");
        }
        return blocks.addFragment(kind, buffer, 0, buffer.many()) ? blocks.bytes().many() : FULL;
    }

    public int put(int place, int value)
            throws IndexOutOfBoundsException, IllegalArgumentException {
        if (!blocks.bytes().has(place)) {
            throw new IndexOutOfBoundsException("the log has no such byte");
        }
        if (!isByte(value)) {
            throw new IllegalArgumentException("a byte is 0 .. 255");
        }
        int was = blocks.bytes().at(place);
        blocks.bytes().replace(place, value);
        return was;
    }

    public int cut(int n) throws IllegalArgumentException {
        int had = blocks.bytes().many();
        if (n < 0 || n > had) {
            throw new IllegalArgumentException("the log has not so many bytes");
        }
        blocks.bytes().shorten(n);
        reader.beginAt(0);
        return had - n;
    }

    public int begin(int place) throws IllegalArgumentException {
        if (place < 0 || place > LOG_LIMIT) {
            throw new IllegalArgumentException("a place is 0 .. 4096");
        }
        reader.beginAt(place);
        return reader.place();
    }

    public int read() {
        return reader.findRecord() ? reader.record().many() : NONE;
    }

    public int octet(int k) {
        return reader.record().at(k);
    }

    public int first() {
        return reader.recordPlace();
    }

    public int count(int what) throws IllegalArgumentException {
        switch (what) {
            case 0:
                return blocks.bytes().many();
            case 1:
                return reader.place();
            case 2:
                return reader.isLost() ? 1 : 0;
            case 3:
                return reader.drops().many();
            case 4:
                return reader.drops().allBytes();
            case 5:
                return buffer.many();
            default:
                throw new IllegalArgumentException("what is 0 .. 5");
        }
    }

    public int told(int k, int what) throws IllegalArgumentException {
        if (what != 0 && what != 1) {
            throw new IllegalArgumentException("what is 0 or 1");
        }
        return what == 0 ? reader.drops().whichAt(k) : reader.drops().bytesAt(k);
    }

    public int log(int k) {
        return blocks.bytes().at(k);
    }

    private static boolean isByte(int number) {
        return number >= 0 && number <= BYTE_LIMIT;
    }

    /** Bytes one behind another, up to a limit. */
    private static final class Row {
        private final byte[] held;
        private int many;

        Row(int limit) {
            held = new byte[limit];
            many = 0;
        }

        int many() {
            return many;
        }

        boolean hasRoomFor(int more) {
            return more <= held.length - many;
        }

        boolean has(int k) {
            return k >= 0 && k < many;
        }

        /** Looks at k itself, not by has: the calls that lead here are deep enough. */
        int at(int k) {
            return k >= 0 && k < many ? held[k] & BYTE_LIMIT : NONE;
        }

        void add(int value) {
            if (many < held.length) {
                held[many] = (byte) value;
                many++;
            }
        }

        void addLowestFirst(int number, int bytes) {
            for (int k = 0; k < bytes; k++) {
                add(number >>> (8 * k));
            }
        }

        void addPart(Row other, int from, int bytes) {
            for (int k = 0; k < bytes; k++) {
                add(other.at(from + k));
            }
        }

        int numberLowestFirst(int from, int bytes) {
            int number = 0;
            for (int k = 0; k < bytes; k++) {
                number |= at(from + k) << (8 * k);
            }
            return number;
        }

        void replace(int k, int value) {
            if (has(k)) {
                held[k] = (byte) value;
            }
        }

        void shorten(int n) {
            if (n >= 0 && n < many) {
                many = n;
            }
        }
    }

    /** The CHECK of a FRAGMENT. */
    private static final class Sum {
        private static final int ADDED = 0xA282EAD8;

        /** The remainders of four bits: half a byte a step needs no row of 256. */
        private static final int[] REMAINDERS = {
            0x00000000, 0x105EC76F, 0x20BD8EDE, 0x30E349B1,
            0x417B1DBC, 0x5125DAD3, 0x61C69362, 0x7198540D,
            0x82F63B78, 0x92A8FC17, 0xA24BB5A6, 0xB21572C9,
            0xC38D26C4, 0xD3D3E1AB, 0xE330A81A, 0xF36E6F75
        };

        static int of(int kind, Row row, int from, int many) {
            int remainder = withByte(-1, kind);
            for (int k = 0; k < many; k++) {
                remainder = withByte(remainder, row.at(from + k));
            }
            remainder = ~remainder;
            return ((remainder >>> 15) | (remainder << 17)) + ADDED;
        }

        private static int withByte(int remainder, int value) {
            int low = (remainder >>> 4) ^ REMAINDERS[(remainder ^ value) & 15];
            return (low >>> 4) ^ REMAINDERS[(low ^ (value >>> 4)) & 15];
        }
    }

    /** THE LOG, and what is put behind it. */
    private static final class Blocks {
        private final Row bytes = new Row(LOG_LIMIT);
        /** 16 .. 512 always, so that it may divide. */
        private int size = FIRST_SIZE;

        Row bytes() {
            return bytes;
        }

        void startAnew(int newSize) {
            bytes.shorten(0);
            size = newSize;
        }

        int startOfBlock(int place) {
            return place - place % size;
        }

        int endOfBlock(int place) {
            return startOfBlock(place) + size;
        }

        boolean isWhole(int place) {
            return endOfBlock(place) <= bytes.many();
        }

        /** How many bytes THE LOG has in the place's BLOCK from it on; below 0 behind its end. */
        int leftInBlock(int place) {
            return Math.min(endOfBlock(place), bytes.many()) - place;
        }

        boolean addRecord(Row record) {
            int before = bytes.many();
            if (addPieces(record)) {
                return true;
            }
            bytes.shorten(before);
            return false;
        }

        private boolean addPieces(Row record) {
            int done = 0;
            // Each FRAGMENT but the first takes a byte or more, so this is never too few.
            for (int piece = 0; piece <= BUFFER_LIMIT; piece++) {
                if (!fillBlock()) {
                    return false;
                }
                int taken = Math.min(record.many() - done, roomInBlock() - HEAD);
                boolean ends = done + taken == record.many();
                if (!addFragment(kindOf(piece == 0, ends), record, done, taken)) {
                    return false;
                }
                done += taken;
                if (ends) {
                    return true;
                }
            }
            return false;
        }

        /** Makes 0 what is left of a BLOCK that no FRAGMENT fits in; whether THE LOG has room. */
        private boolean fillBlock() {
            int room = roomInBlock();
            if (room >= HEAD) {
                return true;
            }
            if (!bytes.hasRoomFor(room)) {
                return false;
            }
            bytes.addLowestFirst(0, room);
            return true;
        }

        private int roomInBlock() {
            return endOfBlock(bytes.many()) - bytes.many();
        }

        private static int kindOf(boolean begins, boolean ends) {
            if (begins) {
                return ends ? ALL : FIRST;
            }
            return ends ? LAST : MIDDLE;
        }

        boolean addFragment(int kind, Row row, int from, int many) {
            if (!bytes.hasRoomFor(HEAD + many)) {
                return false;
            }
            bytes.addLowestFirst(Sum.of(kind, row, from, many), CHECK_BYTES);
            bytes.addLowestFirst(many, LENGTH_BYTES);
            bytes.add(kind);
            bytes.addPart(row, from, many);
            return true;
        }
    }

    /** What the READER told: all of it is counted, the first 100 are kept. */
    private static final class Drops {
        private final int[] which = new int[TOLD_LIMIT];
        private final int[] bytes = new int[TOLD_LIMIT];
        private int many = 0;
        private int allBytes = 0;

        void forget() {
            many = 0;
            allBytes = 0;
        }

        void tell(int what, int howMany) {
            if (many < TOLD_LIMIT) {
                which[many] = what;
                bytes[many] = howMany;
            }
            many++;
            allBytes += howMany;
        }

        int many() {
            return many;
        }

        int allBytes() {
            return allBytes;
        }

        int whichAt(int k) {
            return isKept(k) ? which[k] : NONE;
        }

        int bytesAt(int k) {
            return isKept(k) ? bytes[k] : NONE;
        }

        private boolean isKept(int k) {
            return k >= 0 && k < many && k < TOLD_LIMIT;
        }
    }

    /** The READER. */
    private static final class Reader {
        private final Blocks blocks;
        private final Drops drops = new Drops();
        /** FRAGMENTS put behind THE LOG by hand may make a RECORD of more than 400 bytes. */
        private final Row record = new Row(LOG_LIMIT);
        private int recordPlace = NONE;
        private boolean hasFirst = false;
        private int place = 0;
        private int begun = 0;
        private boolean lost = false;
        private int fragmentPlace = 0;
        private int fragmentBytes = 0;

        Reader(Blocks blocks) {
            this.blocks = blocks;
        }

        int place() {
            return place;
        }

        boolean isLost() {
            return lost;
        }

        Drops drops() {
            return drops;
        }

        Row record() {
            return record;
        }

        int recordPlace() {
            return recordPlace;
        }

        /** The RECORD that was read last stays: beginning is no reading. */
        void beginAt(int newPlace) {
            int ownBytes = blocks.endOfBlock(newPlace) - newPlace;
            place = ownBytes < HEAD ? blocks.endOfBlock(newPlace) : blocks.startOfBlock(newPlace);
            begun = newPlace;
            lost = newPlace > 0;
            drops.forget();
        }

        boolean findRecord() {
            dropRecord();
            // Each BIT but the last goes on by 7 bytes or more, so this is never too few.
            for (int bit = 0; bit <= LOG_LIMIT; bit++) {
                int came = nextBit();
                if (came == END) {
                    break;
                }
                if (came == BROKEN) {
                    tear();
                } else if (!passesOver(came) && takeFragment(came)) {
                    return true;
                }
            }
            dropRecord();
            return false;
        }

        /** Goes on by one FRAGMENT: its KIND, or END, or BROKEN. */
        private int nextBit() {
            if (blocks.leftInBlock(place) < HEAD && blocks.isWhole(place)) {
                place = blocks.endOfBlock(place);
            }
            int left = blocks.leftInBlock(place);
            if (left < HEAD) {
                return END;
            }
            int length = blocks.bytes().numberLowestFirst(place + CHECK_BYTES, LENGTH_BYTES);
            int kind = blocks.bytes().at(place + HEAD - 1);
            if (length > left - HEAD) {
                return blocks.isWhole(place) ? breakBlock(BEYOND, left) : END;
            }
            if (kind == 0 && length == 0) {
                place += left;
                return BROKEN;
            }
            if (!isCheckRight(kind, length)) {
                return breakBlock(CHECKED, left);
            }
            fragmentPlace = place;
            fragmentBytes = length;
            place += HEAD + length;
            return fragmentPlace < begun ? BROKEN : kind;
        }

        private boolean isCheckRight(int kind, int length) {
            int written = blocks.bytes().numberLowestFirst(place, CHECK_BYTES);
            return written == Sum.of(kind, blocks.bytes(), place + HEAD, length);
        }

        private int breakBlock(int what, int left) {
            drops.tell(what, left);
            place += left;
            return BROKEN;
        }

        private void tear() {
            if (hasFirst) {
                drops.tell(TORN, record.many());
                dropRecord();
            }
        }

        /** While it is LOST, the rest of a RECORD that began before is no damage. */
        private boolean passesOver(int kind) {
            if (!lost) {
                return false;
            }
            lost = kind == MIDDLE;
            return kind == MIDDLE || kind == LAST;
        }

        /** Whether the RECORD is whole with this FRAGMENT. */
        private boolean takeFragment(int kind) {
            switch (kind) {
                case ALL:
                    startRecord();
                    return true;
                case FIRST:
                    startRecord();
                    return false;
                case MIDDLE:
                    goOnWithRecord();
                    return false;
                case LAST:
                    return goOnWithRecord();
                default:
                    drops.tell(UNKNOWN, fragmentBytes + record.many());
                    dropRecord();
                    return false;
            }
        }

        private void startRecord() {
            if (record.many() > 0) {
                drops.tell(UNENDED, record.many());
            }
            dropRecord();
            recordPlace = fragmentPlace;
            hasFirst = true;
            addFragmentBytes();
        }

        /** Whether there was a beginning to put it behind. */
        private boolean goOnWithRecord() {
            if (!hasFirst) {
                drops.tell(UNBEGUN, fragmentBytes);
                return false;
            }
            addFragmentBytes();
            return true;
        }

        private void addFragmentBytes() {
            record.addPart(blocks.bytes(), fragmentPlace + HEAD, fragmentBytes);
        }

        private void dropRecord() {
            record.shorten(0);
            recordPlace = NONE;
            hasFirst = false;
        }
    }
}
