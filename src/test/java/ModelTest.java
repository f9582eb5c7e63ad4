import java.util.ArrayList;
import java.util.Arrays;
import java.util.List;
import java.util.Random;
import java.util.zip.CRC32C;

/** Runs of calls, drawn by fixed seeds, against the document told a second time in plain Java. */
final class ModelTest {
    private static final int RUNS = 4000;
    private static final int CALLS = 512;

    public static void main(String[] args) {
        for (int seed = 0; seed < RUNS; seed++) {
            new Run(seed).go();
        }
        Expect.end("ModelTest");
    }

    private static final class Run {
        private final int seed;
        private final Random random;
        private final FragmentLog log = new FragmentLog();
        private final Model model = new Model();
        /** Small pieces make many fragments a block, large ones make many blocks a record. */
        private final int longest;

        Run(int seed) {
            this.seed = seed;
            random = new Random(seed);
            longest = new int[] {1, 4, 16, 60, 400}[seed % 5];
        }

        void go() {
            if (random.nextInt(8) > 0) {
                int size = new int[] {16, 17, 23, 32, 64, 100, 241, 512}[random.nextInt(8)];
                log.clear(size);
                model.clear(size);
            }
            for (int call = 0; call < CALLS; call++) {
                step();
                same("count(1)", log.count(1), model.place);
                same("count(2)", log.count(2), model.lost ? 1 : 0);
            }
            same("told", Expect.toldBy(log), model.toldText());
            for (int k = -1; k <= model.bytes.size(); k++) {
                same("log(" + k + ")", log.log(k), at(model.bytes, k));
            }
        }

        private void same(String call, Object got, Object due) {
            Expect.same("seed " + seed + ": " + call, got, due);
        }

        private void step() {
            int drawn = random.nextInt(100);
            if (drawn < 14) {
                refill(random.nextInt(longest + 1));
            } else if (drawn < 32) {
                same("append()", log.append(), model.append());
            } else if (drawn < 48) {
                int kind = random.nextInt(10) == 0 ? random.nextInt(256) : random.nextInt(6);
                same("raw(" + kind + ")", log.raw(kind), model.raw(kind));
            } else if (drawn < 58) {
                damage();
            } else if (drawn < 59) {
                int n = random.nextInt(model.bytes.size() + 1);
                same("cut(" + n + ")", log.cut(n), model.cut(n));
            } else if (drawn < 66) {
                int place = drawn < 60 ? random.nextInt(4097) : random.nextInt(model.bytes.size() + 9);
                place = drawn == 65 ? 0 : Math.min(4096, place);
                same("begin(" + place + ")", log.begin(place), model.begin(place));
            } else {
                look();
            }
        }

        private void refill(int many) {
            same("erase()", log.erase(), model.buffer.size());
            model.buffer.clear();
            for (int left = many; left > 0; left -= 16) {
                int[] four = {random.nextInt(), random.nextInt(), random.nextInt(), random.nextInt()};
                int taken = Math.min(left, 16);
                for (int k = 0; k < taken; k++) {
                    model.buffer.add(four[k / 4] >> (24 - 8 * (k % 4)) & 255);
                }
                same("feed", log.feed(taken, four[0], four[1], four[2], four[3]), model.buffer.size());
            }
        }

        private void damage() {
            if (model.bytes.isEmpty()) {
                return;
            }
            int place = random.nextInt(model.bytes.size());
            int value = random.nextInt(3) == 0 ? 0 : random.nextInt(256);
            same("put", log.put(place, value), model.bytes.get(place));
            model.bytes.set(place, value);
        }

        private void look() {
            same("read()", log.read(), model.read());
            same("first()", log.first(), model.first);
            for (int k : new int[] {0, 1, 8, 9, 56, 57, 399, 400}) {
                same("octet(" + k + ")", log.octet(k), at(model.record, k));
            }
            same("count(0)", log.count(0), model.bytes.size());
            same("count(3)", log.count(3), model.told.size());
            same("count(4)", log.count(4), model.toldBytes());
            same("count(5)", log.count(5), model.buffer.size());
        }
    }

    private static int at(List<Integer> row, int k) {
        return k < 0 || k >= row.size() ? FragmentLog.NONE : row.get(k);
    }

    private static final class Model {
        private final List<Integer> buffer = new ArrayList<>();
        private final List<Integer> bytes = new ArrayList<>();
        private final List<Integer> record = new ArrayList<>();
        private final List<int[]> told = new ArrayList<>();
        private int size = 64;
        private int place = 0;
        private int begun = 0;
        private boolean lost = false;
        private int first = -1;

        void clear(int newSize) {
            size = newSize;
            bytes.clear();
            begin(0);
        }

        int cut(int n) {
            int gone = bytes.size() - n;
            bytes.subList(n, bytes.size()).clear();
            begin(0);
            return gone;
        }

        int begin(int at) {
            begun = at;
            lost = at > 0;
            told.clear();
            int block = at / size;
            place = (block + 1) * size - at < 7 ? (block + 1) * size : block * size;
            return place;
        }

        private static int check(int kind, List<Integer> part) {
            CRC32C sum = new CRC32C();
            sum.update(kind);
            for (int value : part) {
                sum.update(value);
            }
            return Integer.rotateRight((int) sum.getValue(), 15) + 0xA282EAD8;
        }

        private static List<Integer> fragment(int kind, List<Integer> part) {
            int check = check(kind, part);
            List<Integer> made = new ArrayList<>(Arrays.asList(check & 255, check >> 8 & 255, check >> 16 & 255,
                    check >> 24 & 255, part.size() % 256, part.size() / 256, kind));
            made.addAll(part);
            return made;
        }

        int raw(int kind) {
            return putBehind(fragment(kind, buffer));
        }

        int append() {
            List<Integer> behind = new ArrayList<>();
            int done = 0;
            boolean begins = true;
            boolean ends = false;
            while (!ends) {
                while (size - (bytes.size() + behind.size()) % size < 7) {
                    behind.add(0);
                }
                int fits = size - (bytes.size() + behind.size()) % size - 7;
                ends = buffer.size() - done <= fits;
                int next = ends ? buffer.size() : done + fits;
                int kind = begins && ends ? 1 : begins ? 2 : ends ? 4 : 3;
                behind.addAll(fragment(kind, buffer.subList(done, next)));
                done = next;
                begins = false;
            }
            return putBehind(behind);
        }

        private int putBehind(List<Integer> behind) {
            if (bytes.size() + behind.size() > 4096) {
                return -2;
            }
            bytes.addAll(behind);
            return bytes.size();
        }

        private void tell(int which, int many) {
            told.add(new int[] {which, many});
        }

        int toldBytes() {
            return told.stream().mapToInt(one -> one[1]).sum();
        }

        String toldText() {
            StringBuilder text = new StringBuilder();
            told.stream().limit(100).forEach(one -> text.append(one[0]).append('/').append(one[1]).append(' '));
            return text.toString().trim();
        }

        int read() {
            record.clear();
            first = -1;
            List<Integer> had = null;
            int start = -1;
            while (true) {
                int block = place / size;
                int end = Math.min(bytes.size(), (block + 1) * size);
                boolean whole = bytes.size() >= (block + 1) * size;
                if (end - place < 7) {
                    if (!whole) {
                        return -1;
                    }
                    place = (block + 1) * size;
                    continue;
                }
                int length = bytes.get(place + 4) + 256 * bytes.get(place + 5);
                int kind = bytes.get(place + 6);
                boolean beyond = place + 7 + length > end;
                if (beyond && !whole) {
                    return -1;
                }
                boolean zero = kind == 0 && length == 0;
                List<Integer> part = beyond ? null : bytes.subList(place + 7, place + 7 + length);
                boolean damaged = !beyond && !zero && !fragment(kind, part).equals(
                        bytes.subList(place, place + 7 + length));
                if (beyond || damaged) {
                    tell(beyond ? FragmentLog.BEYOND : FragmentLog.CHECKED, end - place);
                }
                int from = place;
                place = beyond || zero || damaged ? end : place + 7 + length;
                if (beyond || zero || damaged || from < begun) {
                    if (had != null) {
                        tell(FragmentLog.TORN, had.size());
                    }
                    had = null;
                    continue;
                }
                if (lost && kind == 3) {
                    continue;
                }
                boolean wasLost = lost;
                lost = false;
                if (wasLost && kind == 4) {
                    continue;
                }
                if (kind == 1 || kind == 2) {
                    if (had != null && !had.isEmpty()) {
                        tell(FragmentLog.UNENDED, had.size());
                    }
                    had = new ArrayList<>(part);
                    start = from;
                } else if (kind != 3 && kind != 4) {
                    tell(FragmentLog.UNKNOWN, length + (had == null ? 0 : had.size()));
                    had = null;
                } else if (had == null) {
                    tell(FragmentLog.UNBEGUN, length);
                } else {
                    had.addAll(part);
                }
                if (had != null && (kind == 1 || kind == 4)) {
                    record.addAll(had);
                    first = start;
                    return had.size();
                }
            }
        }
    }
}
