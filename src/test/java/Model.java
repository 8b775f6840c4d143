import java.util.ArrayList;
import java.util.Arrays;
import java.util.HashMap;
import java.util.LinkedHashMap;
import java.util.List;
import java.util.Map;
import java.util.NoSuchElementException;
import java.util.TreeMap;

/** The document once more, written with the library and no thought of room, to compare with. */
final class Model {
    private static final class Entry {
        String name = "";
        int parent;
        long mode;
        int version;
        boolean gone;
        byte[] data = {};

        boolean directory() {
            return mode >= 1L << 31;
        }
    }

    private static final class Grip {
        int file;
        String open = "";
        long sum;
        int last;
    }

    /** An error in a message, told by its letter. */
    private static final class Wrong extends Exception {
        private static final long serialVersionUID = 1;
        final char letter;

        Wrong(char letter) {
            this.letter = letter;
        }
    }

    private final List<Entry> files = new ArrayList<>();
    private List<Integer> in = new ArrayList<>();
    private final List<Integer> out = new ArrayList<>();
    private final Map<Long, Grip> grips = new TreeMap<>();
    private final List<Map<Integer, List<Integer>>> tables = new ArrayList<>();
    private String text = "";
    private boolean begun = false;
    private int most = 160;
    private Bytes body;

    Model() {
        Entry root = new Entry();
        root.mode = (1L << 31) + 7;
        files.add(root);
        for (int i = 0; i < 4; i++) {
            tables.add(new HashMap<>());
        }
    }

    /** The bytes of a body, read from the front. */
    private static final class Bytes {
        final List<Integer> left;

        Bytes(List<Integer> bytes) {
            left = new ArrayList<>(bytes);
        }

        long number(int bytes) throws Wrong {
            if (left.size() < bytes) {
                throw new Wrong('f');
            }
            long value = 0;
            for (int i = 0; i < bytes; i++) {
                value += (long) left.remove(0) << 8 * i;
            }
            return value;
        }

        String string(long length) throws Wrong {
            StringBuilder made = new StringBuilder();
            for (long i = 0; i < length; i++) {
                made.append((char) number(1));
            }
            return made.toString();
        }

        String string() throws Wrong {
            return string(number(2));
        }
    }

    void feed(long w, int n) {
        if (n < 1 || n > 8) {
            throw new IllegalArgumentException();
        }
        if (in.size() + n > 320) {
            throw new UnsupportedOperationException();
        }
        for (int i = 0; i < n; i++) {
            in.add((int) (w >>> 8 * i & 255));
        }
    }

    int serve() {
        if (out.size() > 240) {
            throw new UnsupportedOperationException();
        }
        if (in.size() < 4) {
            throw new NoSuchElementException();
        }
        long length = in.get(0) + (in.get(1) << 8) + (in.get(2) << 16) + ((long) in.get(3) << 24);
        if (length < 7 || length > most) {
            in.clear();
            grips.clear();
            begun = false;
            most = 160;
            return 0;
        }
        if (in.size() < length) {
            throw new NoSuchElementException();
        }
        List<Integer> frame = in.subList(0, (int) length);
        in = new ArrayList<>(in.subList((int) length, in.size()));
        int type = frame.get(4);
        int tag = frame.get(5) + frame.get(6) * 256;
        Message reply = new Message();
        try {
            body = new Bytes(frame.subList(7, frame.size()));
            perform(type, tag, reply);
            type++;
        } catch (Wrong e) {
            type = 107;
            reply = new Message().string("" + e.letter);
        }
        Message whole =
                new Message().number(7 + reply.body().length, 4).number(type, 1).number(tag, 2);
        for (byte[] part : new byte[][] {whole.body(), reply.body()}) {
            for (byte one : part) {
                out.add(one & 255);
            }
        }
        return type;
    }

    private void perform(int type, int tag, Message reply) throws Wrong {
        switch (type) {
            case 100 -> {
                long m = body.number(4);
                String version = body.string();
                full(tag == 65535);
                begin(m, version, reply);
            }
            case 104 -> {
                long handle = body.number(4);
                long other = body.number(4);
                body.string();
                body.string();
                ready();
                attach(handle, other, reply);
            }
            case 108 -> {
                body.number(2);
                ready();
            }
            case 110 -> {
                long handle = body.number(4);
                long target = body.number(4);
                long count = body.number(2);
                full(count <= 4);
                List<String> names = new ArrayList<>();
                for (int i = 0; i < count; i++) {
                    names.add(body.string());
                }
                ready();
                walk(handle, target, names, reply);
            }
            case 112 -> {
                long handle = body.number(4);
                int way = (int) body.number(1);
                ready();
                open(handle, way, reply);
            }
            case 114 -> {
                long handle = body.number(4);
                String name = body.string();
                long mode = body.number(4);
                int way = (int) body.number(1);
                ready();
                create(handle, name, mode, way, reply);
            }
            case 116 -> {
                long handle = body.number(4);
                long place = body.number(8);
                long count = body.number(4);
                ready();
                read(handle, place, count, reply);
            }
            case 118 -> {
                long handle = body.number(4);
                long place = body.number(8);
                long count = body.number(4);
                full(count == body.left.size());
                String bytes = body.string(count);
                ready();
                write(handle, place, bytes, reply);
            }
            case 120, 122, 124 -> {
                long handle = body.number(4);
                ready();
                Grip grip = grip(handle);
                if (type == 124) {
                    stat(there(grip), reply);
                } else {
                    grips.remove(handle);
                }
                if (type == 122) {
                    remove(grip);
                }
            }
            default -> throw new Wrong('f');
        }
    }

    private static void full(boolean fine) throws Wrong {
        check(fine, 'f');
    }

    private void ready() throws Wrong {
        full(body.left.isEmpty());
        check(begun, 'v');
    }

    private static void check(boolean fine, char letter) throws Wrong {
        if (!fine) {
            throw new Wrong(letter);
        }
    }

    private Grip grip(long handle) throws Wrong {
        check(grips.containsKey(handle), 'h');
        return grips.get(handle);
    }

    private int there(Grip grip) throws Wrong {
        check(!files.get(grip.file).gone, 'g');
        return grip.file;
    }

    private void qid(int file, Message reply) {
        reply.qid(files.get(file).directory(), files.get(file).version, file);
    }

    private void stat(int file, Message reply) {
        Entry e = files.get(file);
        reply.stat(e.directory(), e.version, file, (int) (e.mode % 8), e.data.length, e.name);
    }

    private List<Integer> children(int file) {
        List<Integer> found = new ArrayList<>();
        for (int i = 0; i < files.size(); i++) {
            if (files.get(i).parent == file && !files.get(i).gone) {
                found.add(i);
            }
        }
        return found;
    }

    private int child(int file, String name) {
        for (int one : children(file)) {
            if (one != 0 && files.get(one).name.equals(name)) {
                return one;
            }
        }
        return -1;
    }

    private void begin(long m, String version, Message reply) throws Wrong {
        full(body.left.isEmpty());
        check(m >= 64, 'l');
        most = m > 160 ? 160 : (int) m;
        grips.clear();
        begun = version.startsWith("9P2000");
        reply.number(most, 4).string(begun ? "9P2000" : "unknown");
    }

    private void attach(long handle, long other, Message reply) throws Wrong {
        check(other == 4294967295L, 'a');
        check(handle != 4294967295L && !grips.containsKey(handle), 'h');
        check(grips.size() < 8, 'l');
        grips.put(handle, new Grip());
        qid(0, reply);
    }

    private void walk(long handle, long target, List<String> names, Message reply) throws Wrong {
        Grip grip = grip(handle);
        check(grip.open.isEmpty(), 'o');
        if (handle != target) {
            check(target != 4294967295L && !grips.containsKey(target), 'h');
            check(grips.size() < 8, 'l');
        }
        int at = there(grip);
        List<Integer> gone = new ArrayList<>();
        for (String name : names) {
            Entry e = files.get(at);
            int next = child(at, name);
            char error = !e.directory() ? 'd' : e.mode % 2 == 0 ? 'm' : next < 0 ? 'n' : ' ';
            if (name.equals("..")) {
                next = e.parent;
                error = ' ';
            }
            if (error != ' ') {
                check(!gone.isEmpty(), error);
                break;
            }
            at = next;
            gone.add(at);
        }
        reply.number(gone.size(), 2);
        for (int one : gone) {
            qid(one, reply);
        }
        if (gone.size() == names.size()) {
            Grip made = new Grip();
            made.file = at;
            grips.put(target, made);
        }
    }

    private static String ways(int way) throws Wrong {
        return switch (way) {
            case 0 -> "r";
            case 16 -> "rt";
            case 1 -> "w";
            case 17 -> "wt";
            case 2 -> "rw";
            case 18 -> "rwt";
            default -> throw new Wrong('m');
        };
    }

    private void open(long handle, int way, Message reply) throws Wrong {
        Grip grip = grip(handle);
        check(grip.open.isEmpty(), 'o');
        String ways = ways(way);
        Entry e = files.get(there(grip));
        check(!e.directory() || way == 0, 'd');
        check(!ways.contains("r") || e.mode % 8 / 4 == 1, 'm');
        check(!ways.contains("w") && !ways.contains("t") || e.mode % 4 / 2 == 1, 'm');
        if (ways.contains("t")) {
            e.data = new byte[0];
            e.version++;
        }
        grip.open = ways;
        qid(grip.file, reply);
        reply.number(most - 24, 4);
    }

    private void create(long handle, String name, long mode, int way, Message reply) throws Wrong {
        Grip grip = grip(handle);
        check(grip.open.isEmpty(), 'o');
        String ways = ways(way);
        Entry e = files.get(there(grip));
        check(e.directory(), 'd');
        check(e.mode % 4 / 2 == 1, 'm');
        check(name.matches("[a-z]{1,4}"), 'n');
        check(child(grip.file, name) < 0, 'x');
        check(mode < 1L << 31 || way == 0, 'd');
        check(files.size() < 40, 'l');
        Entry made = new Entry();
        made.name = name;
        made.mode = mode % 8 + (mode >= 1L << 31 ? 1L << 31 : 0);
        made.parent = grip.file;
        e.version++;
        files.add(made);
        grip.file = files.size() - 1;
        grip.open = ways;
        qid(grip.file, reply);
        reply.number(most - 24, 4);
    }

    private void read(long handle, long place, long count, Message reply) throws Wrong {
        Grip grip = grip(handle);
        check(grip.open.contains("r"), 'o');
        Entry e = files.get(there(grip));
        long room = Math.min(count, most - 11);
        Message told = new Message();
        if (e.directory()) {
            check(place == 0 || place == grip.sum, 'f');
            if (place == 0) {
                grip.sum = 0;
                grip.last = -1;
            }
            for (int one : children(grip.file)) {
                if (one <= grip.last) {
                    continue;
                }
                Message stat = new Message();
                stat(one, stat);
                if (told.body().length + stat.body().length > room) {
                    break;
                }
                stat(one, told);
                grip.last = one;
            }
            grip.sum += told.body().length;
        } else if (Long.compareUnsigned(place, e.data.length) < 0) {
            for (int i = (int) place; i < e.data.length && i - place < room; i++) {
                told.number(e.data[i], 1);
            }
        }
        reply.number(told.body().length, 4);
        for (byte one : told.body()) {
            reply.number(one, 1);
        }
    }

    private void write(long handle, long place, String bytes, Message reply) throws Wrong {
        Grip grip = grip(handle);
        check(grip.open.contains("w"), 'o');
        Entry e = files.get(there(grip));
        check(Long.compareUnsigned(place, 24) <= 0 && place + bytes.length() <= 24, 'l');
        if (!bytes.isEmpty()) {
            int end = (int) place + bytes.length();
            e.data = Arrays.copyOf(e.data, Math.max(e.data.length, end));
            for (int i = 0; i < bytes.length(); i++) {
                e.data[(int) place + i] = (byte) bytes.charAt(i);
            }
        }
        e.version++;
        reply.number(bytes.length(), 4);
    }

    private void remove(Grip grip) throws Wrong {
        Entry e = files.get(there(grip));
        check(grip.file != 0 && files.get(e.parent).mode % 4 / 2 == 1, 'm');
        check(children(grip.file).isEmpty(), 'b');
        e.gone = true;
        files.get(e.parent).version++;
    }

    int size(boolean which) {
        return which ? out.size() : in.size();
    }

    int out(int i) {
        range(i, out.size());
        return out.get(i);
    }

    private static void range(int i, int end) {
        if (i < 0 || i >= end) {
            throw new IndexOutOfBoundsException();
        }
    }

    boolean drop(int n) {
        if (n < 0 || n > out.size()) {
            return false;
        }
        out.subList(0, n).clear();
        return true;
    }

    int handles() {
        return grips.size();
    }

    int files() {
        return files.size();
    }

    int about(int file, int part) {
        range(file, files.size());
        range(part, 5);
        Entry e = files.get(file);
        int[] all = {e.parent, e.version, e.data.length,
            (int) (e.mode % 8) + (e.directory() ? 8 : 0), e.gone ? 1 : 0};
        return all[part];
    }

    int data(int file, int i) {
        range(file, files.size());
        range(i, files.get(file).data.length);
        return files.get(file).data[i] & 255;
    }

    boolean type(long w, int n) {
        StringBuilder more = new StringBuilder();
        for (int i = 0; i < n && i < 8; i++) {
            more.append((char) (w >>> 8 * i & 255));
        }
        if (n < 1 || n > 8 || text.length() + n > 60 || !more.toString().matches("[a-z./ ]+")) {
            return false;
        }
        text += more;
        return true;
    }

    void clear() {
        text = "";
    }

    private List<Integer> union(int process, int file) {
        List<Integer> found =
                new ArrayList<>(tables.get(process).getOrDefault(file, List.of(file)));
        found.removeIf(one -> files.get(one).gone);
        return found;
    }

    /** The list, with the last file come to behind it; null when nothing is found. */
    private List<Integer> lookUp(int process, String path) {
        List<String> pieces = new ArrayList<>();
        for (String piece : path.split("/")) {
            if (piece.equals("..") && !pieces.isEmpty()) {
                pieces.remove(pieces.size() - 1);
            } else if (!piece.isEmpty() && !piece.equals(".") && !piece.equals("..")) {
                pieces.add(piece);
            }
        }
        int last = 0;
        List<Integer> list = union(process, 0);
        for (String piece : pieces) {
            int found = -1;
            for (int one : list) {
                found = found < 0 && files.get(one).directory() ? child(one, piece) : found;
            }
            if (found < 0) {
                return null;
            }
            last = found;
            list = union(process, found);
        }
        list.add(last);
        return list;
    }

    private List<Integer> lookUpA(int process) {
        if (process < 0 || process > 3) {
            throw new IllegalArgumentException();
        }
        List<Integer> found = lookUp(process, text.split(" ", 2)[0]);
        if (found == null) {
            throw new NoSuchElementException();
        }
        return found;
    }

    int look(int process) {
        List<Integer> found = lookUpA(process);
        if (found.size() == 1) {
            throw new NoSuchElementException();
        }
        return found.get(0);
    }

    int member(int process, int k) {
        List<Integer> found = lookUpA(process);
        range(k, found.size() - 1);
        return found.get(k);
    }

    int bind(int process, int how) {
        if (process < 0 || process > 3 || how < 0 || how > 2) {
            throw new IllegalArgumentException();
        }
        List<Integer> a = lookUpA(process);
        a.remove(a.size() - 1);
        String[] paths = text.split(" ", 2);
        List<Integer> found = lookUp(process, paths.length == 1 ? "" : paths[1]);
        if (found == null || a.isEmpty()) {
            throw new NoSuchElementException();
        }
        int b = found.get(found.size() - 1);
        List<Integer> all = new ArrayList<>(a);
        all.add(b);
        long directories = all.stream().filter(one -> files.get(one).directory()).count();
        if (directories != all.size() && (how != 0 || directories != 0)) {
            throw new IllegalStateException();
        }
        List<Integer> list = new ArrayList<>(a);
        if (how != 0) {
            list.addAll(how == 1 ? list.size() : 0, union(process, b));
        }
        Map<Integer, List<Integer>> table = tables.get(process);
        if (list.size() > 4 || table.size() == 4 && !table.containsKey(b)) {
            throw new UnsupportedOperationException();
        }
        table.put(b, list);
        return list.size();
    }

    int unbind(int process) {
        List<Integer> found = lookUpA(process);
        if (tables.get(process).remove(found.get(found.size() - 1)) == null) {
            throw new NoSuchElementException();
        }
        return tables.get(process).size();
    }

    boolean fork(int from, int to, boolean share) {
        if (from < 0 || from > 3 || to < 0 || to > 3 || from == to) {
            return false;
        }
        Map<Integer, List<Integer>> table = tables.get(from);
        tables.set(to, share ? table : new LinkedHashMap<>(table));
        return true;
    }
}
