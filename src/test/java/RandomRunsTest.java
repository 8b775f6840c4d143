import java.util.Random;
import java.util.function.LongSupplier;

/** All promises: runs of 512 calls, the same at every time, answered as the model answers them. */
public final class RandomRunsTest {
    private static final int RUNS = 4000;
    private static final int CALLS = 512;
    private static final String[] NAMES = {"a", "b", "c", "dd", "e", "ffff", "..", "", "x"};
    private static final String[] TEXTS = {"a", "b", "c", "dd", "e", "/", "/", "/", "..", ".", " ",
        "ffff", "x"};
    private static final int[] WAYS = {0, 0, 0, 0, 1, 2, 2, 16, 17, 18, 3, 32};

    private final Random random;
    private final MountYard yard = new MountYard();
    private final Model model = new Model();
    private final int run;
    private int calls = 0;

    private RandomRunsTest(int number) {
        run = number;
        random = new Random(number);
    }

    public static void main(String[] args) {
        int runs = args.length == 0 ? RUNS : Integer.parseInt(args[0]);
        for (int i = 0; i < runs; i++) {
            new RandomRunsTest(i).go();
        }
        Check.end();
    }

    private void go() {
        if (random.nextInt(20) != 0) {
            long most = random.nextInt(3) == 0 ? 64 + random.nextInt(100) : 160;
            send(Message.begin(most, "9P2000").frame());
            send(Message.attach(1).frame());
        }
        switch (run % 8) {
            case 4 -> nearlyAllFiles();
            case 5 -> nearlyAllHandles();
            case 6 -> nearlyFullRows();
            case 7 -> nearlyFullTables();
            default -> { }
        }
        while (calls < CALLS) {
            int kind = random.nextInt(20);
            if (kind < 12) {
                byte[] frame = message().frame();
                if (random.nextInt(25) == 0) {
                    spoil(frame);
                }
                send(frame);
            } else if (kind < 15) {
                process();
            } else if (kind < 16) {
                oddCall();
            } else {
                observe();
            }
        }
    }

    /** The runs that begin near a limit are soon at it and behind it. */
    private void nearlyAllFiles() {
        int files = 36 + random.nextInt(5);
        for (int i = 1; i < files; i++) {
            String name = i < 3 ? NAMES[i] : "y" + (char) ('a' + i / 26) + (char) ('a' + i % 26);
            feedAll(Message.walk(1, 50 + i), Message.create(50 + i, name, 7, 0));
            if (i % 7 == 0 || i == files - 1) {
                feedAll(Message.begin(160, "9P2000"), Message.attach(1));
                drop(model.size(true));
            }
        }
    }

    private void feedAll(Message... messages) {
        for (Message message : messages) {
            feedFrame(message.frame());
            both("serve()", yard::serve, model::serve);
        }
    }

    private void nearlyAllHandles() {
        for (int i = 2 + random.nextInt(2); i < 9; i++) {
            feedAll(random.nextBoolean() ? Message.attach(i) : Message.walk(1, i));
        }
        drop(model.size(true));
    }

    private void nearlyFullRows() {
        for (int i = 0; i < 21 + random.nextInt(3); i++) {
            feedAll(Message.of(random.nextInt(100)));
        }
        for (int i = 0; i < 5 + random.nextInt(3); i++) {
            type(Client.word("a/../b/."), 8);
        }
        for (int i = 0; i < 36 + random.nextInt(5); i++) {
            feed(7 + (random.nextInt(3) == 0 ? 1 : 0), random.nextInt(8) == 0 ? 8 : 7);
        }
    }

    private void nearlyFullTables() {
        for (int i = 0; i < 5; i++) {
            feedAll(Message.walk(1, 9), Message.create(9, NAMES[i], Client.DIR, 0),
                    Message.close(9));
        }
        drop(model.size(true));
        int keys = 3 + random.nextInt(2);
        for (int i = 0; i < keys; i++) {
            clear();
            String words = NAMES[random.nextInt(5)] + " " + NAMES[i];
            type(Client.word(words), words.length());
            bind(0, random.nextInt(3));
            bind(0, random.nextInt(3));
        }
        fork(0, 1, random.nextBoolean());
    }

    /** Both answer, or throw just the same. */
    private void both(String call, LongSupplier real, LongSupplier due) {
        if (calls >= CALLS) {
            return;
        }
        calls++;
        Check.same("run " + run + ", call " + calls + ", " + call, answer(real), answer(due));
    }

    private static String answer(LongSupplier call) {
        try {
            return Long.toString(call.getAsLong());
        } catch (RuntimeException e) {
            return e.getClass().getName();
        }
    }

    private void feed(long w, int n) {
        both("feed(" + w + ", " + n + ")", () -> {
            yard.feed(w, n);
            return 0;
        }, () -> {
            model.feed(w, n);
            return 0;
        });
    }

    private void feedFrame(byte[] frame) {
        for (int from = 0; from < frame.length; from += 8) {
            int count = Math.min(8, frame.length - from);
            long word = random.nextLong() << 1;
            word = count == 8 ? 0 : word << 8 * count;
            for (int i = 0; i < count; i++) {
                word |= (frame[from + i] & 255L) << 8 * i;
            }
            feed(word, count);
        }
    }

    private void send(byte[] frame) {
        feedFrame(frame);
        both("serve()", yard::serve, model::serve);
        if (random.nextInt(3) != 0) {
            look();
            drop(model.size(true));
        }
    }

    private void look() {
        for (int i = 0; i < 3; i++) {
            int place = random.nextInt(model.size(true) + 2) - 1;
            both("out(" + place + ")", () -> yard.out(place), () -> model.out(place));
        }
    }

    private void drop(int n) {
        both("drop(" + n + ")", () -> yard.drop(n) ? 1 : 0, () -> model.drop(n) ? 1 : 0);
    }

    private void spoil(byte[] frame) {
        int place = random.nextInt(4) == 0 ? 0 : 4 + random.nextInt(frame.length - 4);
        frame[place] += (byte) (random.nextInt(5) - 2);
    }

    private long handle() {
        int kind = random.nextInt(30);
        return kind == 0 ? Message.NO_HANDLE : kind < 14 ? 1 : 1 + random.nextInt(9);
    }

    private String name() {
        return NAMES[random.nextInt(NAMES.length)];
    }

    private long mode() {
        long kind = random.nextInt(3) == 0 ? 0 : Message.DIRECTORY;
        return kind + (random.nextInt(4) == 0 ? random.nextInt(2048) : 7);
    }

    private int way() {
        return WAYS[random.nextInt(WAYS.length)];
    }

    private long place() {
        int kind = random.nextInt(20);
        return kind == 0 ? random.nextLong() : kind < 8 ? 0 : kind < 14 ? random.nextInt(27)
                : 29 * random.nextInt(3) + random.nextInt(7);
    }

    private Message message() {
        long handle = handle();
        switch (random.nextInt(24)) {
            case 0:
                return random.nextInt(8) != 0 ? Message.attach(handle)
                        : Message.begin(50 + random.nextInt(150),
                                random.nextInt(4) == 0 ? "9P" : "9P2000.x");
            case 1:
                return Message.attach(handle);
            case 2:
                return Message.of(108).tag(random.nextInt(65536)).number(random.nextInt(), 2);
            case 3, 4, 5, 6, 7:
                String[] names = new String[random.nextInt(4) == 0 ? random.nextInt(6) : 1];
                for (int i = 0; i < names.length; i++) {
                    names[i] = name();
                }
                return Message.walk(handle, random.nextInt(3) == 0 ? handle : handle(), names);
            case 8, 9, 10:
                return Message.open(handle, way());
            case 11, 12, 13, 14:
                return Message.create(handle, name(), mode(), random.nextInt(2) == 0 ? 0 : way());
            case 15, 16, 17:
                return Message.read(handle, place(),
                        random.nextInt(9) == 0 ? random.nextInt() : random.nextInt(120));
            case 18, 19:
                return Message.write(handle, place(), "abcdefgh".substring(random.nextInt(9)));
            case 20, 21:
                return Message.close(handle);
            case 22:
                return Message.remove(handle);
            default:
                return Message.stat(handle);
        }
    }

    private void text() {
        if (random.nextInt(3) != 0) {
            clear();
        }
        for (int i = random.nextInt(6); i >= 0; i--) {
            String part = TEXTS[random.nextInt(TEXTS.length)];
            type(Client.word(part), part.length());
        }
    }

    private void clear() {
        both("clear()", () -> {
            yard.clear();
            return 0;
        }, () -> {
            model.clear();
            return 0;
        });
    }

    private void type(long w, int n) {
        both("type(" + w + ", " + n + ")", () -> yard.type(w, n) ? 1 : 0,
                () -> model.type(w, n) ? 1 : 0);
    }

    private void process() {
        text();
        int process = random.nextInt(30) == 0 ? random.nextInt(7) - 1 : random.nextInt(2);
        int how = random.nextInt(30) == 0 ? random.nextInt(7) - 1 : random.nextInt(3);
        bind(process, how);
        both("look", () -> yard.look(process), () -> model.look(process));
        int k = random.nextInt(6) - 1;
        both("member", () -> yard.member(process, k), () -> model.member(process, k));
        if (random.nextInt(4) == 0) {
            both("unbind", () -> yard.unbind(process), () -> model.unbind(process));
        }
        if (random.nextInt(4) == 0) {
            fork(process, random.nextInt(6) - 1, random.nextBoolean());
        }
    }

    private void bind(int process, int how) {
        both("bind", () -> yard.bind(process, how), () -> model.bind(process, how));
    }

    private void fork(int from, int to, boolean share) {
        both("fork", () -> yard.fork(from, to, share) ? 1 : 0,
                () -> model.fork(from, to, share) ? 1 : 0);
    }

    private int odd() {
        int[] all = {-1, 0, 9, 61, 320, Integer.MAX_VALUE, Integer.MIN_VALUE};
        return all[random.nextInt(all.length)];
    }

    private void oddCall() {
        int n = odd();
        int i = odd();
        switch (random.nextInt(8)) {
            case 0 -> feed(random.nextLong(), n);
            case 1 -> type(random.nextLong(), 1 + random.nextInt(8));
            case 2 -> type(Client.word("/"), n);
            case 3 -> drop(n);
            case 4 -> both("out", () -> yard.out(n), () -> model.out(n));
            case 5 -> both("member", () -> yard.member(0, n), () -> model.member(0, n));
            case 6 -> both("data", () -> yard.data(n, i), () -> model.data(n, i));
            default -> both("about", () -> yard.about(n, i), () -> model.about(n, i));
        }
    }

    private void observe() {
        int file = random.nextInt(model.files() + 1);
        int part = random.nextInt(6);
        int i = random.nextInt(25);
        both("about", () -> yard.about(file, part), () -> model.about(file, part));
        both("data", () -> yard.data(file, i), () -> model.data(file, i));
        both("files", yard::files, model::files);
        both("handles", yard::handles, model::handles);
        both("size", () -> yard.size(false), () -> model.size(false));
        both("size", () -> yard.size(true), () -> model.size(true));
        look();
    }
}
