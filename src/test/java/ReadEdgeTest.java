/** Terms, the edges of the message read. */
public final class ReadEdgeTest {
    private static final String ALL = "abcdefghijklmnopqrstuvwx";

    public static void main(String[] args) {
        Check.sentence("116 READ: handle, 8 bytes, c in 4 bytes. H, o: it is not open for reading,"
                + " G.", ReadEdgeTest::notOpenForReading);
        Check.sentence("the errors in the order in which they are looked for (116)",
                ReadEdgeTest::orderOfErrors);
        Check.sentence("c (never negative) counts as M - 11 if it is more.",
                ReadEdgeTest::mostBytes);
        Check.sentence("Plain: the reply is the data from the place on that the 8 bytes say (never"
                + " negative)", ReadEdgeTest::places);
        Check.sentence("c bytes at most.", ReadEdgeTest::counts);
        Check.sentence("A directory: the 8 bytes must be 0, or the sum of the c's told since the"
                + " latest one with 0", ReadEdgeTest::sums);
        Check.sentence("(0 when there was none since it was opened), else f",
                ReadEdgeTest::noneSinceOpened);
        Check.sentence("with 0 it begins at the first child", ReadEdgeTest::beginsAgain);
        Check.sentence("else behind the number of the last one told",
                ReadEdgeTest::behindTheLastTold);
        Check.sentence("the stats of children, by their numbers, as many as have room in c.",
                ReadEdgeTest::asManyAsHaveRoom);
        Check.sentence("the stats of children, by their numbers (all 40 files)",
                ReadEdgeTest::allFiles);
        Check.sentence("Reply: how many bytes in 4 (the c told), and these.",
                ReadEdgeTest::replies);
        Check.end();
    }

    private static Message told(int count) {
        return new Message().number(count, 4);
    }

    /** Plain f 1 with 24 bytes, handle 2 open for both at it. */
    private static Client withFile() {
        Client client = Client.attached();
        client.done(Message.walk(1, 2), Message.create(2, "f", 7, 2));
        client.done(Message.write(2, 0, ALL));
        return client;
    }

    /** In directory d 1: plain ab 2, directory c 3, plain dddd 4; handle 2 open at d. */
    private static Client withDirectory() {
        Client client = Client.attached();
        client.make("d", Client.DIR);
        client.make("ab", 6, "d");
        client.make("c", Client.DIR, "d");
        client.make("dddd", 1, "d");
        client.done(Message.walk(1, 2, "d"), Message.open(2, 0));
        return client;
    }

    private static Message ab(Message made) {
        return made.stat(false, 0, 2, 6, 0, "ab");
    }

    private static Message c(Message made) {
        return made.stat(true, 0, 3, 7, 0, "c");
    }

    private static Message dddd(Message made) {
        return made.stat(false, 0, 4, 1, 0, "dddd");
    }

    private static void notOpenForReading() {
        Client client = withFile();
        client.refused(Message.read(1, 0, 1), 'o');
        client.done(Message.walk(1, 3, "f"));
        client.refused(Message.read(3, 0, 1), 'o');
        for (int way : new int[] {1, 17}) {
            Client writing = client.again();
            writing.done(Message.open(3, way));
            writing.refused(Message.read(3, 0, 1), 'o');
        }
        for (int way : new int[] {0, 2, 16, 18}) {
            Client reading = client.again();
            reading.done(Message.open(3, way));
            reading.done(Message.read(3, 0, 1));
        }
        client.done(Message.remove(3));
        client.refused(Message.read(2, 0, 1), 'g');
    }

    private static void orderOfErrors() {
        Client client = withDirectory();
        client.make("f", 7);
        client.make("e", Client.DIR);
        client.done(Message.walk(1, 3, "f"), Message.walk(1, 4, "f"), Message.walk(1, 5, "e"));
        client.done(Message.walk(1, 6, "e"), Message.open(4, 0), Message.open(6, 0));
        client.refused(Message.read(9, 1, 1), 'h');
        client.refused(Message.read(9, 1, 1).number(0, 1), 'f');
        client.refused(Message.read(1, 1, 1), 'o');
        client.refused(Message.read(5, 1, 1), 'o');
        client.refused(Message.read(6, 1, 1), 'f');
        client.remove("f");
        client.remove("e");
        client.refused(Message.read(3, 0, 1), 'o');
        client.refused(Message.read(4, 0, 1), 'g');
        client.refused(Message.read(5, 1, 1), 'o');
        client.refused(Message.read(6, 1, 1), 'g');
        client.refused(Message.read(6, 0, 1), 'g');
    }

    private static void mostBytes() {
        long[] asked = {2147483647L, 2147483648L, 4294967295L, 160, 73};
        for (int most : new int[] {71, 72, 73, 74}) {
            Client client = Client.attached(most);
            client.done(Message.walk(1, 2), Message.create(2, "d", Client.DIR, 0));
            client.make("x", 7, "d");
            client.make("abc", 7, "d");
            Message two = told(62).stat(false, 0, 2, 7, 0, "x").stat(false, 0, 3, 7, 0, "abc");
            Message one = told(30).stat(false, 0, 2, 7, 0, "x");
            for (long c : asked) {
                client.again().reply(Message.read(2, 0, c), most < 73 ? one : two);
            }
            client.again().reply(Message.read(2, 0, 61), one);
            client.again().reply(Message.read(2, 0, 62), most < 73 ? one : two);
        }
        Client whole = Client.withFiles(8);
        whole.done(Message.open(1, 0));
        for (long c : new long[] {148, 149, 150, 4294967295L}) {
            Client tried = whole.again();
            tried.feed(Message.read(1, 0, c));
            Check.same("serve", tried.yard().serve(), 117);
            Check.same("bytes told", tried.yard().out(7), 29 + 3 * 31);
        }
        exactlyMost();
    }

    /** 149 bytes of stats: 29 + 4 * 30, the most that M = 160 has room for. */
    private static void exactlyMost() {
        Client client = Client.attached();
        for (String name : new String[] {"a", "b", "c", "d", "e"}) {
            client.make(name, 7);
        }
        client.done(Message.open(1, 0));
        for (long c : new long[] {148, 149, 150, 179, 4294967295L}) {
            Client tried = client.again();
            tried.feed(Message.read(1, 0, c));
            Check.same("serve", tried.yard().serve(), 117);
            int due = c == 148 ? 119 : 149;
            Check.same("size of OUT", tried.yard().size(true), 11 + due);
            Check.same("bytes told", tried.yard().out(7), due);
        }
        Message all = told(149).stat(true, 5, 0, 7, 0, "");
        for (int file = 1; file < 5; file++) {
            all.stat(false, 0, file, 7, 0, "abcd".substring(file - 1, file));
        }
        client.reply(Message.read(1, 0, 149), all);
        Client plain = withFile();
        for (long c : new long[] {24, 25, 149, 150, 2147483648L, 4294967295L}) {
            plain.again().reply(Message.read(2, 0, c), told(24).letters(ALL));
        }
    }

    private static void places() {
        Client client = withFile();
        for (int place : new int[] {0, 1, 22, 23, 24, 25, 26}) {
            String rest = place < 24 ? ALL.substring(place) : "";
            client.again().reply(Message.read(2, place, 100), told(rest.length()).letters(rest));
        }
        long[] far = {255, 256, 65536, 2147483647L, 2147483648L, 4294967295L, 4294967296L,
            4294967297L, Long.MAX_VALUE, Long.MIN_VALUE, Long.MIN_VALUE + 1, -24, -1};
        for (long place : far) {
            client.again().reply(Message.read(2, place, 100), told(0));
        }
        Client empty = Client.attached();
        empty.done(Message.create(1, "f", 7, 0));
        empty.again().reply(Message.read(1, 0, 1), told(0));
        empty.again().reply(Message.read(1, 1, 1), told(0));
        Client read = client.again();
        read.done(Message.read(2, 3, 4));
        client.like("a read of a plain file", read);
    }

    private static void counts() {
        Client client = withFile();
        for (int c : new int[] {0, 1, 23, 24, 25}) {
            String due = ALL.substring(0, Math.min(c, 24));
            client.again().reply(Message.read(2, 0, c), told(due.length()).letters(due));
        }
        client.again().reply(Message.read(2, 20, 3), told(3).letters("uvw"));
        client.again().reply(Message.read(2, 20, 4), told(4).letters("uvwx"));
        client.again().reply(Message.read(2, 20, 5), told(4).letters("uvwx"));
        client.again().reply(Message.read(2, 23, 0), told(0));
        client.again().reply(Message.read(2, 24, 0), told(0));
    }

    private static void sums() {
        Client client = withDirectory();
        client.reply(Message.read(2, 0, 31), ab(told(31)));
        refusedBeside(client, 31);
        client.refused(Message.read(2, 62, 99), 'f');
        client.error(Message.read(2, 30, 99), 'f');
        client.error(Message.read(2, 32, 99), 'f');
        client.reply(Message.read(2, 31, 30), c(told(30)));
        refusedBeside(client, 61);
        client.refused(Message.read(2, 31, 99), 'f');
        client.refused(Message.read(2, 30, 99), 'f');
        client.reply(Message.read(2, 61, 33), dddd(told(33)));
        refusedBeside(client, 94);
        client.reply(Message.read(2, 94, 33), told(0));
        client.reply(Message.read(2, 94, 0), told(0));
        client.refused(Message.read(2, 61, 33), 'f');
        client.reply(Message.read(2, 0, 61), c(ab(told(61))));
        refusedBeside(client, 61);
        client.refused(Message.read(2, 94, 33), 'f');
        client.reply(Message.read(2, 61, 33), dddd(told(33)));
    }

    private static void refusedBeside(Client client, long sum) {
        client.refused(Message.read(2, sum - 1, 99), 'f');
        client.refused(Message.read(2, sum + 1, 99), 'f');
        client.refused(Message.read(2, sum + (1L << 32), 99), 'f');
        client.refused(Message.read(2, sum + Long.MIN_VALUE, 99), 'f');
        client.refused(Message.read(2, -1, 99), 'f');
        client.refused(Message.read(2, Long.MIN_VALUE, 99), 'f');
    }

    private static void noneSinceOpened() {
        Client client = withDirectory();
        for (long place : new long[] {1, 29, 31, 61, 94, 1L << 32, Long.MIN_VALUE, -1}) {
            client.refused(Message.read(2, place, 99), 'f');
        }
        client.again().reply(Message.read(2, 0, 31), ab(told(31)));
        client.done(Message.read(2, 0, 31), Message.close(2));
        client.done(Message.walk(1, 2, "d"), Message.open(2, 0));
        client.refused(Message.read(2, 31, 30), 'f');
        client.reply(Message.read(2, 0, 31), ab(told(31)));
        client.done(Message.walk(1, 3, "d"), Message.open(3, 0));
        client.refused(Message.read(3, 31, 30), 'f');
        client.reply(Message.read(3, 0, 61), c(ab(told(61))));
        client.reply(Message.read(2, 31, 30), c(told(30)));
        createdDirectory();
    }

    private static void createdDirectory() {
        Client client = Client.attached();
        client.done(Message.walk(1, 2), Message.create(2, "d", Client.DIR, 0));
        client.refused(Message.read(2, 29, 99), 'f');
        client.refused(Message.read(2, 1, 99), 'f');
        client.make("x", 7, "d");
        client.reply(Message.read(2, 0, 99), told(30).stat(false, 0, 2, 7, 0, "x"));
        client.reply(Message.read(2, 30, 99), told(0));
    }

    private static void beginsAgain() {
        Client client = withDirectory();
        client.reply(Message.read(2, 0, 94), dddd(c(ab(told(94)))));
        client.reply(Message.read(2, 0, 31), ab(told(31)));
        client.reply(Message.read(2, 31, 30), c(told(30)));
        client.reply(Message.read(2, 0, 31), ab(told(31)));
        client.refused(Message.read(2, 61, 33), 'f');
        client.reply(Message.read(2, 31, 30), c(told(30)));
        client.reply(Message.read(2, 0, 30), told(0));
        client.refused(Message.read(2, 61, 33), 'f');
        client.refused(Message.read(2, 31, 33), 'f');
        client.remove("d", "ab");
        client.reply(Message.read(2, 0, 30), c(told(30)));
    }

    private static void behindTheLastTold() {
        Client client = withDirectory();
        client.reply(Message.read(2, 0, 31), ab(told(31)));
        Client gone = client.again();
        gone.remove("d", "ab");
        gone.reply(Message.read(2, 31, 30), c(told(30)));
        Client nextGone = client.again();
        nextGone.remove("d", "c");
        nextGone.reply(Message.read(2, 31, 33), dddd(told(33)));
        Client made = client.again();
        made.make("e", 4, "d");
        made.reply(Message.read(2, 31, 149), dddd(c(told(93))).stat(false, 0, 5, 4, 0, "e"));
        made.make("g", 4, "d");
        made.reply(Message.read(2, 124, 149), told(30).stat(false, 0, 6, 4, 0, "g"));
        client.reply(Message.read(2, 31, 29), told(0));
        client.reply(Message.read(2, 31, 30), c(told(30)));
    }

    private static void asManyAsHaveRoom() {
        Client client = withDirectory();
        for (int c : new int[] {0, 1, 30}) {
            client.again().reply(Message.read(2, 0, c), told(0));
        }
        for (int c : new int[] {31, 32, 60}) {
            client.again().reply(Message.read(2, 0, c), ab(told(31)));
        }
        for (int c : new int[] {61, 62, 93}) {
            client.again().reply(Message.read(2, 0, c), c(ab(told(61))));
        }
        for (int c : new int[] {94, 95, 149, 150}) {
            client.again().reply(Message.read(2, 0, c), dddd(c(ab(told(94)))));
        }
        Client longFirst = Client.attached();
        longFirst.make("d", Client.DIR);
        longFirst.make("abcd", 6, "d");
        longFirst.make("e", 6, "d");
        longFirst.done(Message.walk(1, 2, "d"), Message.open(2, 0));
        for (int c = 29; c < 33; c++) {
            longFirst.again().reply(Message.read(2, 0, c), told(0));
        }
        longFirst.again().reply(Message.read(2, 0, 62),
                told(33).stat(false, 0, 2, 6, 0, "abcd"));
        Client root = Client.attached();
        root.done(Message.walk(1, 2), Message.create(2, "a", 7, 0), Message.open(1, 0));
        root.again().reply(Message.read(1, 0, 28), told(0));
        root.again().reply(Message.read(1, 0, 29), told(29).stat(true, 1, 0, 7, 0, ""));
        root.again().reply(Message.read(1, 0, 59),
                told(59).stat(true, 1, 0, 7, 0, "").stat(false, 0, 1, 7, 0, "a"));
    }

    private static void allFiles() {
        for (int files = 39; files < 41; files++) {
            Client client = Client.withFiles(files);
            client.done(Message.open(1, 0));
            int sum = 0;
            for (int reads = 0; reads < 10; reads++) {
                client.feed(Message.read(1, sum, 4294967295L));
                Check.same("read", client.yard().serve(), 117);
                int count = client.yard().out(7);
                Check.same("number of the first told", client.yard().out(18), reads * 4);
                Check.is("drop", client.yard().drop(11 + count));
                sum += count;
            }
            Check.same("bytes of all stats", sum, 29 + (files - 1) * 31);
            client.reply(Message.read(1, sum, 149), told(0));
            client.refused(Message.read(1, sum + 1, 149), 'f');
        }
    }

    private static void replies() {
        Client client = withFile();
        client.again().reply(Message.read(2, 0, 0), new Message().number(0, 4));
        client.again().reply(Message.read(2, 0, 24), new Message().number(24, 4).letters(ALL));
        Client bytes = client.again();
        bytes.done(Message.write(2, 0, "\0\u007f\u0080\u00ff"));
        bytes.reply(Message.read(2, 0, 4), told(4).letters("\0\u007f\u0080\u00ff"));
        Client directory = withDirectory();
        directory.done(Message.walk(1, 3, "d", "dddd"), Message.remove(3));
        directory.reply(Message.read(2, 0, 94), c(ab(told(61))));
        directory.reply(Message.read(2, 61, 94), told(0));
    }
}
