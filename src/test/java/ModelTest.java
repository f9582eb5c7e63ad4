import java.util.ArrayList;
import java.util.Arrays;
import java.util.List;
import java.util.Random;
import java.util.zip.CRC32C;

/** Runs of calls, drawn by fixed seeds, against the document told a second time in plain Java. */
final class ModelTest {
    private static final int RUNS = 8000;

    public static void main(String[] args) {
        for (int seed = 0; seed < RUNS; seed++) {
            new Run(seed).go();
        }
        Expect.end("ModelTest");
    }

    private static final class Run {
        private final int seed;
        private final Random random;
        private final Asked log = new Asked();
        private final Model model = new Model();
        /** Small pieces make many fragments a block, large ones make many blocks a record. */
        private final int longest;
        /** Some runs seldom look, so that the log grows full and much is told. */
        private final int looks;

        Run(int seed) {
            this.seed = seed;
            random = new Random(seed);
            longest = new int[] {1, 4, 16, 60, 400}[seed % 5];
            looks = seed % 3 == 0 ? 5 : 30;
        }

        void go() {
            if (random.nextInt(8) > 0) {
                int size = new int[] {16, 17, 23, 32, 64, 100, 241, 512}[random.nextInt(8)];
                log.clear(size);
                model.clear(size);
            }
            while (log.calls() < Asked.MOST_CALLS - 130) {
                step();
            }
            look();
            lookAtAll();
        }

        private void same(String call, Object got, Object due) {
            Expect.same("seed " + seed + ": " + call, got, due);
        }

        private void step() {
            int drawn = random.nextInt(70 + looks);
            if (drawn < 10) {
                refill(random.nextInt(longest + 1));
            } else if (drawn < 28) {
                same("append()", log.append(), model.append());
            } else if (drawn < 44) {
                int kind = random.nextInt(10) == 0 ? random.nextInt(256) : random.nextInt(6);
                same("raw(" + kind + ")", log.raw(kind), model.raw(kind));
            } else if (drawn < 56) {
                damage();
            } else if (drawn < 57) {
                int n = random.nextInt(model.bytes.size() + 1);
                same("cut(" + n + ")", log.cut(n), model.cut(n));
            } else if (drawn < 63) {
                int place = drawn < 58 ? random.nextInt(4097) : random.nextInt(model.bytes.size() + 9);
                place = drawn == 62 ? 0 : Math.min(4096, place);
                same("begin(" + place + ")", log.begin(place), model.begin(place));
            } else if (drawn < 70) {
                refused();
            } else {
                look();
            }
        }

        /** What throws changes nothing: the model is not called at all. */
        private void refused() {
            int beyond = random.nextBoolean() ? -1 - random.nextInt(9) : 4097 + random.nextInt(9);
            Class<?> argument = IllegalArgumentException.class;
            switch (random.nextInt(9)) {
                case 0 -> Expect.thrown("clear", log, argument, one -> one.clear(beyond));
                case 1 -> Expect.thrown("feed", log, argument, one -> one.feed(beyond, 1, 2, 3, 4));
                case 2 -> Expect.thrown("check", log, argument, one -> one.check(beyond));
                case 3 -> Expect.thrown("raw", log, argument, one -> one.raw(beyond));
                case 4 -> Expect.thrown("put", log, IndexOutOfBoundsException.class, one -> one.put(beyond, 0));
                case 5 -> Expect.thrown("cut", log, argument, one -> one.cut(beyond));
                case 6 -> Expect.thrown("begin", log, argument, one -> one.begin(beyond));
                case 7 -> Expect.thrown("count", log, argument, one -> one.count(beyond));
                default -> Expect.thrown("told", log, argument, one -> one.told(0, beyond));
            }
        }

        private void refill(int many) {
            same("erase()", log.erase(), model.buffer.size());
            model.buffer.clear();
            for (int left = many; left > 0; left -= 16) {
                int[] four = {random.nextInt(), random.nextInt(), random.nextInt(), random.nextInt()};
                int taken = Math.min(left, 16);
                for (int k = 0; k < taken; k++) {
                    model.buffer.add(four[k / 4] >> (24 - 8 * (k % 4)) & 255);
                }
                same("feed", log.feed(taken, four[0], four[1], four[2], four[3]), model.buffer.size());
            }
        }

        private void damage() {
            if (model.bytes.isEmpty()) {
                return;
            }
            int place = random.nextInt(model.bytes.size());
            int value = random.nextInt(3) == 0 ? 0 : random.nextInt(256);
            same("put", log.put(place, value), model.bytes.get(place));
            model.bytes.set(place, value);
        }

        private void look() {
            same("read()", log.read(), model.read());
            same("first()", log.first(), model.first);
            int k = random.nextInt(model.record.size() + 1);
            same("octet(" + k + ")", log.octet(k), at(model.record, k));
            same("count(1)", log.count(1), model.place);
            same("count(2)", log.count(2), model.lost ? 1 : 0);
            same("count(3)", log.count(3), model.told.size());
            same("count(4)", log.count(4), model.toldBytes());
        }

        private void lookAtAll() {
            same("count(0)", log.count(0), model.bytes.size());
            same("count(5)", log.count(5), model.buffer.size());
            same("check(1)", log.check(1), Model.check(1, model.buffer));
            while (log.calls() < Asked.MOST_CALLS - 3) {
                int k = random.nextInt(model.bytes.size() + 1);
                same("log(" + k + ")", log.log(k), at(model.bytes, k));
                int one = random.nextInt(model.told.size() + 1);
                same("told(" + one + ", 0)", log.told(one, 0), model.toldAt(one, 0));
                same("told(" + one + ", 1)", log.told(one, 1), model.toldAt(one, 1));
            }
        }
    }

    private static int at(List<Integer> row, int k) {
        return k < 0 || k >= row.size() ? FragmentLog.NONE : row.get(k);
    }

    private static final class Model {
        private final List<Integer> buffer = new ArrayList<>();
        private final List<Integer> bytes = new ArrayList<>();
        private final List<Integer> record = new ArrayList<>();
        private final List<int[]> told = new ArrayList<>();
        private int size = 64;
        private int place = 0;
        private int begun = 0;
        private boolean lost = false;
        private int first = -1;

        void clear(int newSize) {
            size = newSize;
            bytes.clear();
            begin(0);
        }

        int cut(int n) {
            int gone = bytes.size() - n;
            bytes.subList(n, bytes.size()).clear();
            begin(0);
            return gone;
        }

        int begin(int at) {
            begun = at;
            lost = at > 0;
            told.clear();
            int block = at / size;
            place = (block + 1) * size - at < 7 ? (block + 1) * size : block * size;
            return place;
        }

        private static int check(int kind, List<Integer> part) {
            CRC32C sum = new CRC32C();
            sum.update(kind);
            for (int value : part) {
                sum.update(value);
            }
            return Integer.rotateRight((int) sum.getValue(), 15) + 0xA282EAD8;
        }

        private static List<Integer> fragment(int kind, List<Integer> part) {
            int check = check(kind, part);
            List<Integer> made = new ArrayList<>(Arrays.asList(check & 255, check >> 8 & 255, check >> 16 & 255,
                    check >> 24 & 255, part.size() % 256, part.size() / 256, kind));
            made.addAll(part);
            return made;
        }

        int raw(int kind) {
            return putBehind(fragment(kind, buffer));
        }

        int append() {
            List<Integer> behind = new ArrayList<>();
            int done = 0;
            boolean begins = true;
            boolean ends = false;
            while (!ends) {
                while (size - (bytes.size() + behind.size()) % size < 7) {
                    behind.add(0);
                }
                int fits = size - (bytes.size() + behind.size()) % size - 7;
                ends = buffer.size() - done <= fits;
                int next = ends ? buffer.size() : done + fits;
                int kind = begins && ends ? 1 : begins ? 2 : ends ? 4 : 3;
                behind.addAll(fragment(kind, buffer.subList(done, next)));
                done = next;
                begins = false;
            }
            return putBehind(behind);
        }

        private int putBehind(List<Integer> behind) {
            if (bytes.size() + behind.size() > 4096) {
                return -2;
            }
            bytes.addAll(behind);
            return bytes.size();
        }

        private void tell(int which, int many) {
            told.add(new int[] {which, many});
        }

        int toldBytes() {
            return told.stream().mapToInt(one -> one[1]).sum();
        }

        int toldAt(int k, int what) {
            return k < told.size() && k < 100 ? told.get(k)[what] : FragmentLog.NONE;
        }

        int read() {
            record.clear();
            first = -1;
            List<Integer> had = null;
            int start = -1;
            while (true) {
                int block = place / size;
                int end = Math.min(bytes.size(), (block + 1) * size);
                boolean whole = bytes.size() >= (block + 1) * size;
                if (end - place < 7) {
                    if (!whole) {
                        return -1;
                    }
                    place = (block + 1) * size;
                    continue;
                }
                int length = bytes.get(place + 4) + 256 * bytes.get(place + 5);
                int kind = bytes.get(place + 6);
                boolean beyond = place + 7 + length > end;
                if (beyond && !whole) {
                    return -1;
                }
                boolean zero = kind == 0 && length == 0;
                List<Integer> part = beyond ? null : bytes.subList(place + 7, place + 7 + length);
                boolean damaged = !beyond && !zero && !fragment(kind, part).equals(
                        bytes.subList(place, place + 7 + length));
                if (beyond || damaged) {
                    tell(beyond ? FragmentLog.BEYOND : FragmentLog.CHECKED, end - place);
                }
                int from = place;
                place = beyond || zero || damaged ? end : place + 7 + length;
                if (beyond || zero || damaged || from < begun) {
                    if (had != null) {
                        tell(FragmentLog.TORN, had.size());
                    }
                    had = null;
                    continue;
                }
                if (lost && kind == 3) {
                    continue;
                }
                boolean wasLost = lost;
                lost = false;
                if (wasLost && kind == 4) {
                    continue;
                }
                if (kind == 1 || kind == 2) {
                    if (had != null && !had.isEmpty()) {
                        tell(FragmentLog.UNENDED, had.size());
                    }
                    had = new ArrayList<>(part);
                    start = from;
                } else if (kind != 3 && kind != 4) {
                    tell(FragmentLog.UNKNOWN, length + (had == null ? 0 : had.size()));
                    had = null;
                } else if (had == null) {
                    tell(FragmentLog.UNBEGUN, length);
                } else {
                    had.addAll(part);
                }
                if (had != null && (kind == 1 || kind == 4)) {
                    record.addAll(had);
                    first = start;
                    return had.size();
                }
            }
        }
    }
}
