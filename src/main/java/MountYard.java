import java.util.NoSuchElementException;

/**
 * A tree of files served by messages of bytes, and processes that look names up in it, each through
 * a table of its own. All rows are made with the object, so that no call makes anything.
 */
public final class MountYard {
    public static final int NONE = -1;

    private static final int IN_ROOM = 320;
    private static final int OUT_FULL = 240;
    private static final int MOST_FRAME = 160;
    private static final int LEAST_FRAME = 7;
    private static final int MOST_FED = 8;
    private static final int TEXT_ROOM = 60;
    private static final int PROCESSES = 4;
    private static final int LIST_ROOM = 4;

    private final Tree tree;
    private final Row incoming;
    private final Row outgoing;
    private final Talk talk;
    private final Text text;
    private final Table[] pool;
    private final Table[] tableOf;
    private final Route routeA;
    private final Route routeB;
    private final FileList joined;

    public MountYard() {
        tree = new Tree();
        incoming = new Row(IN_ROOM);
        outgoing = new Row(OUT_FULL + MOST_FRAME);
        talk = new Talk(tree);
        text = new Text();
        pool = new Table[PROCESSES];
        tableOf = new Table[PROCESSES];
        for (int i = 0; i < PROCESSES; i++) {
            pool[i] = new Table();
            tableOf[i] = pool[i];
        }
        routeA = new Route();
        routeB = new Route();
        joined = new FileList(2 * LIST_ROOM);
    }

    public void feed(long w, int n) throws IllegalArgumentException, UnsupportedOperationException {
        if (n < 1 || n > MOST_FED) {
            throw new IllegalArgumentException();
        }
        if (incoming.used + n > IN_ROOM) {
            throw new UnsupportedOperationException();
        }
        incoming.putNumber(w, n);
    }

    public int serve() throws UnsupportedOperationException, NoSuchElementException {
        if (outgoing.used > OUT_FULL) {
            throw new UnsupportedOperationException();
        }
        if (incoming.used < 4) {
            throw new NoSuchElementException();
        }
        long told = incoming.number(0, 4);
        if (told < LEAST_FRAME || told > talk.limit) {
            incoming.used = 0;
            talk.breakOff();
            return 0;
        }
        if (told > incoming.used) {
            throw new NoSuchElementException();
        }
        talk.takeFrame(incoming, (int) told);
        return talk.finish(talk.perform(), outgoing);
    }

    public int size(boolean out) {
        return out ? outgoing.used : incoming.used;
    }

    public int out(int i) throws IndexOutOfBoundsException {
        if (i < 0 || i >= outgoing.used) {
            throw new IndexOutOfBoundsException();
        }
        return outgoing.at(i);
    }

    public boolean drop(int n) {
        if (n < 0 || n > outgoing.used) {
            return false;
        }
        outgoing.takeFirst(n);
        return true;
    }

    public int handles() {
        return talk.handles.count;
    }

    public int about(int file, int part) throws IndexOutOfBoundsException {
        FileNode node = tree.node(file);
        if (node == null) {
            throw new IndexOutOfBoundsException();
        }
        switch (part) {
            case 0:
                return node.parent.number;
            case 1:
                return node.version;
            case 2:
                return node.length;
            case 3:
                return (node.mode & FileNode.ALL_RIGHTS) + (node.isDirectory() ? 8 : 0);
            case 4:
                return node.gone ? 1 : 0;
            default:
                throw new IndexOutOfBoundsException();
        }
    }

    public int data(int file, int i) throws IndexOutOfBoundsException {
        FileNode node = tree.node(file);
        if (node == null || i < 0 || i >= node.length) {
            throw new IndexOutOfBoundsException();
        }
        return node.bytes[i];
    }

    public int files() {
        return tree.count;
    }

    public boolean type(long w, int n) {
        if (n < 1 || n > MOST_FED || text.letters.used + n > TEXT_ROOM || !Text.mayHold(w, n)) {
            return false;
        }
        text.letters.putNumber(w, n);
        return true;
    }

    public void clear() {
        text.letters.used = 0;
    }

    public int look(int process) throws IllegalArgumentException, NoSuchElementException {
        if (!isProcess(process)) {
            throw new IllegalArgumentException();
        }
        lookUp(process, false, routeA);
        if (!routeA.found || routeA.list.count == 0) {
            throw new NoSuchElementException();
        }
        return routeA.list.items[0].number;
    }

    public int member(int process, int k)
            throws IllegalArgumentException, NoSuchElementException, IndexOutOfBoundsException {
        if (!isProcess(process)) {
            throw new IllegalArgumentException();
        }
        lookUp(process, false, routeA);
        if (!routeA.found) {
            throw new NoSuchElementException();
        }
        if (k < 0 || k >= routeA.list.count) {
            throw new IndexOutOfBoundsException();
        }
        return routeA.list.items[k].number;
    }

    public int bind(int process, int how)
            throws IllegalArgumentException, NoSuchElementException, IllegalStateException,
                    UnsupportedOperationException {
        if (!isProcess(process) || how < 0 || how > 2) {
            throw new IllegalArgumentException();
        }
        lookUp(process, false, routeA);
        lookUp(process, true, routeB);
        if (!routeA.found || !routeB.found || routeA.list.count == 0) {
            throw new NoSuchElementException();
        }
        boolean directory = routeB.last.isDirectory();
        if (how != 0 && !directory || !routeA.list.areAll(directory)) {
            throw new IllegalStateException();
        }
        Table table = tableOf[process];
        join(table, how);
        if (joined.count > LIST_ROOM || !table.hasRoomFor(routeB.last)) {
            throw new UnsupportedOperationException();
        }
        table.replace(routeB.last, joined);
        return joined.count;
    }

    public int unbind(int process) throws IllegalArgumentException, NoSuchElementException {
        if (!isProcess(process)) {
            throw new IllegalArgumentException();
        }
        lookUp(process, false, routeA);
        Table table = tableOf[process];
        if (!routeA.found || table.slotOf(routeA.last) == NONE) {
            throw new NoSuchElementException();
        }
        table.forget(routeA.last);
        return table.count;
    }

    public boolean fork(int from, int to, boolean share) {
        if (!isProcess(from) || !isProcess(to) || from == to) {
            return false;
        }
        if (share) {
            tableOf[to] = tableOf[from];
        } else {
            Table own = tableFor(to);
            own.copyFrom(tableOf[from]);
            tableOf[to] = own;
        }
        return true;
    }

    private static boolean isProcess(int process) {
        return process >= 0 && process < PROCESSES;
    }

    /** The other processes have three tables at most, so one of the four is always left over. */
    private Table tableFor(int process) {
        for (int i = 0; i < PROCESSES; i++) {
            if (!isUsedBeside(pool[i], process)) {
                return pool[i];
            }
        }
        return tableOf[process];
    }

    private boolean isUsedBeside(Table table, int process) {
        for (int i = 0; i < PROCESSES; i++) {
            if (i != process && tableOf[i] == table) {
                return true;
            }
        }
        return false;
    }

    private void lookUp(int process, boolean second, Route route) {
        Table table = tableOf[process];
        text.split(second);
        route.found = true;
        route.last = tree.root;
        table.fill(route.list, tree.root);
        for (int i = 0; i < text.pieces && route.found; i++) {
            FileNode child = tree.childInList(route.list, text.nameOfPiece(i));
            route.found = child != null;
            if (child != null) {
                route.last = child;
                table.fill(route.list, child);
            }
        }
    }

    /** The joined list stands apart from the table, because the call may still be refused. */
    private void join(Table table, int how) {
        joined.count = 0;
        if (how == 2) {
            table.addUnion(joined, routeB.last);
        }
        joined.addAll(routeA.list);
        if (how == 1) {
            table.addUnion(joined, routeB.last);
        }
    }

    /** A row of bytes that grows behind and is taken away in front. */
    private static final class Row {
        final int[] cells;
        int used;

        Row(int room) {
            cells = new int[room];
            used = 0;
        }

        int at(int i) {
            return i >= 0 && i < used ? cells[i] : 0;
        }

        /** Bytes that are not there count as 0: a frame too short is seen by its end alone. */
        long number(int from, int bytes) {
            long value = 0;
            for (int i = 0; i < bytes && from + i < used; i++) {
                value |= (long) cells[from + i] << 8 * i;
            }
            return value;
        }

        void putNumber(long value, int bytes) {
            for (int i = 0; i < bytes && used < cells.length; i++) {
                cells[used] = (int) (value >>> 8 * i) & 255;
                used++;
            }
        }

        void setNumber(int from, long value, int bytes) {
            for (int i = 0; i < bytes && from + i < used; i++) {
                cells[from + i] = (int) (value >>> 8 * i) & 255;
            }
        }

        void putText(String words) {
            putNumber(words.length(), 2);
            for (int i = 0; i < words.length(); i++) {
                putNumber(words.charAt(i), 1);
            }
        }

        void putFrom(int[] source, int from, int count) {
            for (int i = 0; i < count && from + i < source.length && used < cells.length; i++) {
                cells[used] = source[from + i];
                used++;
            }
        }

        void takeFirst(int n) {
            for (int i = n; i < used; i++) {
                cells[i - n] = cells[i];
            }
            used -= n;
        }

        boolean startsWith(int from, int length, String words) {
            if (length < words.length()) {
                return false;
            }
            for (int i = 0; i < words.length(); i++) {
                if (at(from + i) != words.charAt(i)) {
                    return false;
                }
            }
            return true;
        }

        /** A name packed into one number, its first letter lowest; 0 for what is no name. */
        int nameAt(int from, int length) {
            if (length < 1 || length > FileNode.MOST_LETTERS) {
                return 0;
            }
            int name = 0;
            for (int i = length - 1; i >= 0; i--) {
                int letter = at(from + i);
                if (letter < 'a' || letter > 'z') {
                    return 0;
                }
                name = name << 8 | letter;
            }
            return name;
        }
    }

    /** One file; it means nothing until the tree counts it. */
    private static final class FileNode {
        static final int DIRECTORY = -2147483648;
        static final int READ = 4;
        static final int WRITTEN = 2;
        static final int GONE_THROUGH = 1;
        static final int ALL_RIGHTS = 7;
        static final int MOST_BYTES = 24;
        static final int MOST_LETTERS = 4;

        final int number;
        final int[] bytes;
        int length;
        int name;
        int mode;
        int version;
        boolean gone;
        FileNode parent;

        FileNode(int fileNumber) {
            number = fileNumber;
            bytes = new int[MOST_BYTES];
        }

        boolean isDirectory() {
            return mode < 0;
        }

        boolean may(int rights) {
            return (mode & rights) == rights;
        }

        boolean isChildOf(FileNode directory) {
            return parent == directory && !gone;
        }

        int nameLength() {
            int letters = 0;
            for (int i = 0; i < MOST_LETTERS; i++) {
                letters += (name >>> 8 * i & 255) != 0 ? 1 : 0;
            }
            return letters;
        }

        int statLength() {
            return 29 + nameLength();
        }

        void putQid(Row row) {
            row.putNumber(isDirectory() ? 128 : 0, 1);
            row.putNumber(version, 4);
            row.putNumber(number, 8);
        }

        void putStat(Row row) {
            row.putNumber(statLength() - 2, 2);
            putQid(row);
            row.putNumber(mode, 4);
            row.putNumber(length, 8);
            row.putNumber(nameLength(), 2);
            row.putNumber(name, nameLength());
        }

        void empty() {
            length = 0;
            version++;
        }

        void overwrite(int place, Row source, int from, int count) {
            version++;
            if (count == 0) {
                return;
            }
            for (int i = length; i < place && i < MOST_BYTES; i++) {
                bytes[i] = 0;
            }
            for (int i = 0; i < count && place + i < MOST_BYTES; i++) {
                bytes[place + i] = source.at(from + i);
            }
            length = Math.max(length, place + count);
        }
    }

    /** All files by their numbers. */
    private static final class Tree {
        static final int MOST_FILES = 40;

        final FileNode[] nodes;
        final FileNode root;
        int count;

        Tree() {
            nodes = new FileNode[MOST_FILES];
            for (int i = 0; i < MOST_FILES; i++) {
                nodes[i] = new FileNode(i);
                nodes[i].parent = nodes[i];
            }
            root = nodes[0];
            root.mode = FileNode.DIRECTORY | FileNode.ALL_RIGHTS;
            count = 1;
        }

        FileNode node(int number) {
            return number >= 0 && number < count ? nodes[number] : null;
        }

        /** The name 0 is asked for where something is no name, and the root's is 0, too. */
        FileNode child(FileNode directory, int name) {
            for (int i = 0; i < count && name != 0; i++) {
                if (nodes[i].name == name && nodes[i].isChildOf(directory)) {
                    return nodes[i];
                }
            }
            return null;
        }

        FileNode childInList(FileList list, int name) {
            for (int i = 0; i < list.count; i++) {
                FileNode found = child(list.items[i], name);
                if (found != null) {
                    return found;
                }
            }
            return null;
        }

        boolean hasChildren(FileNode directory) {
            for (int i = 0; i < count; i++) {
                if (nodes[i].isChildOf(directory)) {
                    return true;
                }
            }
            return false;
        }

        boolean isFull() {
            return count >= MOST_FILES;
        }

        FileNode make(FileNode directory, int name, int mode) {
            FileNode made = nodes[count];
            count++;
            made.parent = directory;
            made.name = name;
            made.mode = mode;
            directory.version++;
            return made;
        }
    }

    /** A handle while it is there, and a free place for one while it is not. */
    private static final class Handle {
        boolean there;
        int number;
        FileNode file;
        int openFor;
        int told;
        int next;

        void stand(int handleNumber, FileNode at) {
            there = true;
            number = handleNumber;
            file = at;
            openFor = 0;
        }

        void open(FileNode at, int ways) {
            file = at;
            openFor = ways;
            beginListing();
        }

        void beginListing() {
            told = 0;
            next = 0;
        }
    }

    /** The handles of the talk. */
    private static final class Handles {
        static final int MOST_HANDLES = 8;

        final Handle[] places;
        int count;

        Handles() {
            places = new Handle[MOST_HANDLES];
            for (int i = 0; i < MOST_HANDLES; i++) {
                places[i] = new Handle();
            }
            count = 0;
        }

        Handle find(int number) {
            for (int i = 0; i < MOST_HANDLES; i++) {
                if (places[i].there && places[i].number == number) {
                    return places[i];
                }
            }
            return null;
        }

        boolean mayNotBeNew(int number) {
            return number == NONE || find(number) != null;
        }

        boolean areFull() {
            return count >= MOST_HANDLES;
        }

        void make(int number, FileNode at) {
            for (int i = 0; i < MOST_HANDLES; i++) {
                if (!places[i].there) {
                    places[i].stand(number, at);
                    count++;
                    return;
                }
            }
        }

        void close(Handle handle) {
            handle.there = false;
            count--;
        }

        void closeAll() {
            for (int i = 0; i < MOST_HANDLES; i++) {
                places[i].there = false;
            }
            count = 0;
        }
    }

    /** The talk: it takes a frame apart, does what it asks and makes the reply. */
    private static final class Talk {
        static final int BEGIN = 100;
        static final int ATTACH = 104;
        static final int ERROR = 107;
        static final int FLUSH = 108;
        static final int WALK = 110;
        static final int OPEN = 112;
        static final int CREATE = 114;
        static final int READ = 116;
        static final int WRITE = 118;
        static final int CLOSE = 120;
        static final int REMOVE = 122;
        static final int STAT = 124;

        static final int FINE = 0;
        static final int MALFORMED = 'f';
        static final int NOT_BEGUN = 'v';
        static final int BAD_HANDLE = 'h';
        static final int FILE_GONE = 'g';
        static final int OVER_LIMIT = 'l';
        static final int NOT_ALONE = 'a';
        static final int OPEN_WRONG = 'o';
        static final int KIND_WRONG = 'd';
        static final int MAY_NOT = 'm';
        static final int NAME_WRONG = 'n';
        static final int NAME_TAKEN = 'x';
        static final int HAS_CHILDREN = 'b';

        static final int LEAST_LIMIT = 64;
        static final int BEGIN_TAG = 65535;
        static final int MOST_STEPS = 4;
        static final int BODY = 7;
        static final int READ_HEAD = 11;
        static final int OPEN_HEAD = 24;
        static final String SPOKEN = "9P2000";
        static final String NOT_SPOKEN = "unknown";

        final Tree tree;
        final Handles handles;
        final Row ask;
        final Row reply;
        int limit;
        boolean begun;

        Talk(Tree served) {
            tree = served;
            handles = new Handles();
            ask = new Row(MOST_FRAME);
            reply = new Row(MOST_FRAME);
            limit = MOST_FRAME;
            begun = false;
        }

        void breakOff() {
            handles.closeAll();
            begun = false;
            limit = MOST_FRAME;
        }

        void takeFrame(Row source, int length) {
            ask.used = 0;
            ask.putFrom(source.cells, 0, length);
            source.takeFirst(length);
            beginReply(ask.at(4) + 1);
        }

        /** Puts the reply behind a row: the one that was made, or the error in its place. */
        int finish(int error, Row target) {
            if (error != FINE) {
                beginReply(ERROR);
                reply.putNumber(1, 2);
                reply.putNumber(error, 1);
            }
            reply.setNumber(0, reply.used, 4);
            target.putFrom(reply.cells, 0, reply.used);
            return reply.at(4);
        }

        private void beginReply(int kind) {
            reply.used = 0;
            reply.putNumber(0, 4);
            reply.putNumber(kind, 1);
            reply.putNumber(ask.number(5, 2), 2);
        }

        int perform() {
            int kind = ask.at(4);
            if (!isWellFormed(kind)) {
                return MALFORMED;
            }
            if (kind == BEGIN) {
                return begin();
            }
            if (!begun) {
                return NOT_BEGUN;
            }
            if (kind == ATTACH) {
                return attach();
            }
            if (kind == FLUSH) {
                return FINE;
            }
            Handle handle = handles.find(handleAt(BODY));
            if (handle == null) {
                return BAD_HANDLE;
            }
            switch (kind) {
                case WALK:
                    return walk(handle);
                case OPEN:
                    return open(handle);
                case CREATE:
                    return create(handle);
                case READ:
                    return read(handle);
                case WRITE:
                    return write(handle);
                case CLOSE:
                    handles.close(handle);
                    return FINE;
                case REMOVE:
                    handles.close(handle);
                    return remove(handle.file);
                default:
                    return stat(handle.file);
            }
        }

        private boolean isWellFormed(int kind) {
            if (kind == BEGIN && ask.number(5, 2) != BEGIN_TAG) {
                return false;
            }
            if (kind == WALK && ask.number(BODY + 8, 2) > MOST_STEPS) {
                return false;
            }
            return dueLength(kind) == ask.used;
        }

        /** How long the frame must be; 0, which no frame is, for a kind that there is not. */
        private long dueLength(int kind) {
            switch (kind) {
                case BEGIN:
                    return behindStrings(BODY + 4, 1);
                case ATTACH:
                    return behindStrings(BODY + 8, 2);
                case FLUSH:
                    return BODY + 2;
                case WALK:
                    return behindStrings(BODY + 10, (int) ask.number(BODY + 8, 2));
                case OPEN:
                    return BODY + 5;
                case CREATE:
                    return behindStrings(BODY + 4, 1) + 5;
                case READ:
                    return BODY + 16;
                case WRITE:
                    return BODY + 16 + ask.number(BODY + 12, 4);
                case CLOSE:
                case REMOVE:
                case STAT:
                    return BODY + 4;
                default:
                    return 0;
            }
        }

        private int behindStrings(int from, int count) {
            int place = from;
            for (int i = 0; i < count; i++) {
                place += 2 + stringLength(place);
            }
            return place;
        }

        private int stringLength(int place) {
            return (int) ask.number(place, 2);
        }

        private int nameOfString(int place) {
            return ask.nameAt(place + 2, stringLength(place));
        }

        private int handleAt(int place) {
            return (int) ask.number(place, 4);
        }

        private int begin() {
            long wanted = ask.number(BODY, 4);
            if (wanted < LEAST_LIMIT) {
                return OVER_LIMIT;
            }
            limit = (int) Math.min(wanted, MOST_FRAME);
            handles.closeAll();
            begun = ask.startsWith(BODY + 6, stringLength(BODY + 4), SPOKEN);
            reply.putNumber(limit, 4);
            reply.putText(begun ? SPOKEN : NOT_SPOKEN);
            return FINE;
        }

        private int attach() {
            if (handleAt(BODY + 4) != NONE) {
                return NOT_ALONE;
            }
            if (handles.mayNotBeNew(handleAt(BODY))) {
                return BAD_HANDLE;
            }
            if (handles.areFull()) {
                return OVER_LIMIT;
            }
            handles.make(handleAt(BODY), tree.root);
            tree.root.putQid(reply);
            return FINE;
        }

        private int walk(Handle handle) {
            int number = handleAt(BODY + 4);
            int error = walkError(handle, number);
            if (error != FINE) {
                return error;
            }
            int steps = (int) ask.number(BODY + 8, 2);
            reply.putNumber(0, 2);
            FileNode at = handle.file;
            int place = BODY + 10;
            for (int i = 0; i < steps; i++) {
                FileNode next = step(at, place);
                if (next == null) {
                    return i == 0 ? stepError(at) : FINE;
                }
                at = next;
                at.putQid(reply);
                reply.setNumber(BODY, i + 1, 2);
                place += 2 + stringLength(place);
            }
            if (number == handle.number) {
                handle.stand(number, at);
            } else {
                handles.make(number, at);
            }
            return FINE;
        }

        private int walkError(Handle handle, int number) {
            boolean another = number != handle.number;
            if (handle.openFor != 0) {
                return OPEN_WRONG;
            }
            if (another && handles.mayNotBeNew(number)) {
                return BAD_HANDLE;
            }
            if (another && handles.areFull()) {
                return OVER_LIMIT;
            }
            return handle.file.gone ? FILE_GONE : FINE;
        }

        private boolean isUp(int place) {
            return stringLength(place) == 2 && ask.at(place + 2) == '.' && ask.at(place + 3) == '.';
        }

        private FileNode step(FileNode at, int place) {
            if (isUp(place)) {
                return at.parent;
            }
            boolean open = at.isDirectory() && at.may(FileNode.GONE_THROUGH);
            return open ? tree.child(at, nameOfString(place)) : null;
        }

        /** Why a step from there came to nothing. */
        private static int stepError(FileNode at) {
            if (!at.isDirectory()) {
                return KIND_WRONG;
            }
            return at.may(FileNode.GONE_THROUGH) ? NAME_WRONG : MAY_NOT;
        }

        /** 0, 1 and 2, and the same with 16 added. */
        private static boolean isWay(int way) {
            return (way & ~16) <= 2;
        }

        private static int openedFor(int way) {
            switch (way & 3) {
                case 0:
                    return FileNode.READ;
                case 1:
                    return FileNode.WRITTEN;
                default:
                    return FileNode.READ | FileNode.WRITTEN;
            }
        }

        private int open(Handle handle) {
            FileNode file = handle.file;
            int way = ask.at(BODY + 4);
            boolean emptied = way > 15;
            if (handle.openFor != 0) {
                return OPEN_WRONG;
            }
            if (!isWay(way)) {
                return MAY_NOT;
            }
            if (file.gone) {
                return FILE_GONE;
            }
            if (file.isDirectory() && way != 0) {
                return KIND_WRONG;
            }
            if (!file.may(openedFor(way) | (emptied ? FileNode.WRITTEN : 0))) {
                return MAY_NOT;
            }
            if (emptied) {
                file.empty();
            }
            openAt(handle, file, way);
            return FINE;
        }

        private void openAt(Handle handle, FileNode file, int way) {
            handle.open(file, openedFor(way));
            file.putQid(reply);
            reply.putNumber(limit - OPEN_HEAD, 4);
        }

        private int create(Handle handle) {
            int behind = behindStrings(BODY + 4, 1);
            int mode = (int) ask.number(behind, 4) & (FileNode.DIRECTORY | FileNode.ALL_RIGHTS);
            int way = ask.at(behind + 4);
            int name = nameOfString(BODY + 4);
            if (handle.openFor != 0) {
                return OPEN_WRONG;
            }
            if (!isWay(way)) {
                return MAY_NOT;
            }
            int error = placeError(handle.file, name);
            if (error != FINE) {
                return error;
            }
            if (mode < 0 && way != 0) {
                return KIND_WRONG;
            }
            if (tree.isFull()) {
                return OVER_LIMIT;
            }
            openAt(handle, tree.make(handle.file, name, mode), way);
            return FINE;
        }

        private int placeError(FileNode directory, int name) {
            if (directory.gone) {
                return FILE_GONE;
            }
            if (!directory.isDirectory()) {
                return KIND_WRONG;
            }
            if (!directory.may(FileNode.WRITTEN)) {
                return MAY_NOT;
            }
            if (name == 0) {
                return NAME_WRONG;
            }
            return tree.child(directory, name) != null ? NAME_TAKEN : FINE;
        }

        private int read(Handle handle) {
            if ((handle.openFor & FileNode.READ) == 0) {
                return OPEN_WRONG;
            }
            if (handle.file.gone) {
                return FILE_GONE;
            }
            long place = ask.number(BODY + 4, 8);
            int most = (int) Math.min(ask.number(BODY + 12, 4), limit - READ_HEAD);
            if (handle.file.isDirectory()) {
                return readDirectory(handle, place, most);
            }
            readPlain(handle.file, place, most);
            return FINE;
        }

        /** A place whose highest bit is set is not below 0 but behind all data. */
        private void readPlain(FileNode file, long place, int most) {
            int from = place < 0 || place > file.length ? file.length : (int) place;
            int count = Math.min(most, file.length - from);
            reply.putNumber(count, 4);
            reply.putFrom(file.bytes, from, count);
        }

        private int readDirectory(Handle handle, long place, int most) {
            if (place != 0 && place != handle.told) {
                return MALFORMED;
            }
            if (place == 0) {
                handle.beginListing();
            }
            reply.putNumber(0, 4);
            int count = 0;
            for (int i = handle.next; i < tree.count; i++) {
                FileNode child = tree.nodes[i];
                if (child.isChildOf(handle.file)) {
                    if (count + child.statLength() > most) {
                        break;
                    }
                    child.putStat(reply);
                    count += child.statLength();
                    handle.next = i + 1;
                }
            }
            handle.told += count;
            reply.setNumber(BODY, count, 4);
            return FINE;
        }

        private int write(Handle handle) {
            if ((handle.openFor & FileNode.WRITTEN) == 0) {
                return OPEN_WRONG;
            }
            if (handle.file.gone) {
                return FILE_GONE;
            }
            long place = ask.number(BODY + 4, 8);
            int count = (int) ask.number(BODY + 12, 4);
            if (place < 0 || place > FileNode.MOST_BYTES || place + count > FileNode.MOST_BYTES) {
                return OVER_LIMIT;
            }
            handle.file.overwrite((int) place, ask, BODY + 16, count);
            reply.putNumber(count, 4);
            return FINE;
        }

        private int remove(FileNode file) {
            if (file.gone) {
                return FILE_GONE;
            }
            if (file == tree.root || !file.parent.may(FileNode.WRITTEN)) {
                return MAY_NOT;
            }
            if (tree.hasChildren(file)) {
                return HAS_CHILDREN;
            }
            file.gone = true;
            file.parent.version++;
            return FINE;
        }

        private int stat(FileNode file) {
            if (file.gone) {
                return FILE_GONE;
            }
            file.putStat(reply);
            return FINE;
        }
    }

    /** Files in order; one may stand in it twice. */
    private static final class FileList {
        final FileNode[] items;
        int count;

        FileList(int room) {
            items = new FileNode[room];
            count = 0;
        }

        void add(FileNode file) {
            if (count < items.length) {
                items[count] = file;
                count++;
            }
        }

        void addAll(FileList other) {
            for (int i = 0; i < other.count; i++) {
                add(other.items[i]);
            }
        }

        boolean areAll(boolean directories) {
            for (int i = 0; i < count; i++) {
                if (items[i].isDirectory() != directories) {
                    return false;
                }
            }
            return true;
        }
    }

    /** A table: the lists of its keys, in any order. */
    private static final class Table {
        static final int MOST_KEYS = 4;

        final FileNode[] keys;
        final FileList[] lists;
        int count;

        Table() {
            keys = new FileNode[MOST_KEYS];
            lists = new FileList[MOST_KEYS];
            for (int i = 0; i < MOST_KEYS; i++) {
                lists[i] = new FileList(LIST_ROOM);
            }
            count = 0;
        }

        int slotOf(FileNode file) {
            for (int i = 0; i < count; i++) {
                if (keys[i] == file) {
                    return i;
                }
            }
            return NONE;
        }

        boolean hasRoomFor(FileNode key) {
            return count < MOST_KEYS || slotOf(key) != NONE;
        }

        void fill(FileList target, FileNode file) {
            target.count = 0;
            addUnion(target, file);
        }

        void addUnion(FileList target, FileNode file) {
            int slot = slotOf(file);
            if (slot == NONE) {
                addUnlessGone(target, file);
                return;
            }
            for (int i = 0; i < lists[slot].count; i++) {
                addUnlessGone(target, lists[slot].items[i]);
            }
        }

        private static void addUnlessGone(FileList target, FileNode file) {
            if (!file.gone) {
                target.add(file);
            }
        }

        void replace(FileNode key, FileList list) {
            int slot = slotOf(key);
            if (slot == NONE) {
                slot = count;
                count++;
            }
            set(slot, key, list);
        }

        private void set(int slot, FileNode key, FileList list) {
            keys[slot] = key;
            lists[slot].count = 0;
            lists[slot].addAll(list);
        }

        void forget(FileNode key) {
            int slot = slotOf(key);
            if (slot != NONE) {
                count--;
                set(slot, keys[count], lists[count]);
            }
        }

        void copyFrom(Table other) {
            count = other.count;
            for (int i = 0; i < count; i++) {
                set(i, other.keys[i], other.lists[i]);
            }
        }
    }

    /** The text with its two paths, and the pieces left of the path that was split last. */
    private static final class Text {
        final Row letters;
        final int[] starts;
        final int[] ends;
        int pieces;

        Text() {
            letters = new Row(TEXT_ROOM);
            starts = new int[TEXT_ROOM];
            ends = new int[TEXT_ROOM];
            pieces = 0;
        }

        static boolean mayHold(long w, int n) {
            for (int i = 0; i < n; i++) {
                int letter = (int) (w >>> 8 * i) & 255;
                boolean small = letter >= 'a' && letter <= 'z';
                if (!small && letter != '.' && letter != '/' && letter != ' ') {
                    return false;
                }
            }
            return true;
        }

        private int firstSpace() {
            for (int i = 0; i < letters.used; i++) {
                if (letters.cells[i] == ' ') {
                    return i;
                }
            }
            return letters.used;
        }

        void split(boolean second) {
            int space = firstSpace();
            int end = second ? letters.used : space;
            int start = second ? space + 1 : 0;
            pieces = 0;
            for (int i = start; i <= end; i++) {
                if (i == end || letters.at(i) == '/') {
                    count(start, i);
                    start = i + 1;
                }
            }
        }

        private void count(int start, int end) {
            int length = end - start;
            boolean pointed = letters.at(start) == '.';
            if (length < 1 || length == 1 && pointed) {
                return;
            }
            if (length == 2 && pointed && letters.at(start + 1) == '.') {
                pieces = Math.max(0, pieces - 1);
            } else if (pieces < TEXT_ROOM) {
                starts[pieces] = start;
                ends[pieces] = end;
                pieces++;
            }
        }

        int nameOfPiece(int i) {
            return letters.nameAt(starts[i], ends[i] - starts[i]);
        }
    }

    /** Where a path leads: the list, and the last file come to. */
    private static final class Route {
        final FileList list;
        FileNode last;
        boolean found;

        Route() {
            list = new FileList(LIST_ROOM);
            last = null;
            found = false;
        }
    }
}
