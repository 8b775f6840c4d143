/** Promise 3: read and write; promise 9: data. */
public final class ReadWriteTest {
    public static void main(String[] args) {
        writeAndRead();
        writeErrorsInOrder();
        readErrorsInOrder();
        readCountsUnsigned();
        listing();
        listingTheRoot();
        listingAfterChanges();
        listingBeginsWhenOpened();
        listingAll();
        smallFrames();
        Check.end();
    }

    private static Client withFile() {
        Client client = Client.attached();
        client.make("f", 7);
        client.done(Message.walk(1, 2, "f"));
        client.done(Message.open(2, 2));
        return client;
    }

    private static void writeAndRead() {
        Client client = withFile();
        client.reply(Message.write(2, 2, "hello"), new Message().number(5, 4));
        client.data(1, "\0\0hello");
        client.about(1, 0, 1, 7, 7, 0);
        client.reply(Message.write(2, 3, "\u00ff"), new Message().number(1, 4));
        client.data(1, "\0\0h\u00ffllo");
        client.reply(Message.write(2, 24, ""), new Message().number(0, 4));
        client.about(1, 0, 3, 7, 7, 0);
        client.reply(Message.read(2, 0, 3), new Message().number(3, 4).letters("\0\0h"));
        client.reply(Message.read(2, 5, 3), new Message().number(2, 4).letters("lo"));
        client.reply(Message.read(2, 7, 3), new Message().number(0, 4));
        client.reply(Message.read(2, 8, 3), new Message().number(0, 4));
        client.reply(Message.read(2, 4, 0), new Message().number(0, 4));
        client.done(Message.write(2, 23, "z"));
        client.about(1, 0, 4, 24, 7, 0);
        client.done(Message.walk(1, 3, "f"));
        client.done(Message.open(3, 17));
        client.done(Message.write(2, 4, "y"));
        client.data(1, "\0\0\0\0y");
    }

    private static void writeErrorsInOrder() {
        Client client = withFile();
        client.error(Message.write(9, 0, "a"), 'h');
        client.error(Message.write(1, 0, "a"), 'o');
        client.error(Message.write(1, 25, "a"), 'o');
        client.error(Message.write(2, 24, "a"), 'l');
        client.error(Message.write(2, 25, ""), 'l');
        client.error(Message.write(2, 20, "abcde"), 'l');
        client.error(Message.write(2, -1, ""), 'l');
        client.error(Message.write(2, -1, "ab"), 'l');
        client.error(Message.write(2, Long.MIN_VALUE, "a"), 'l');
        client.error(Message.write(2, Long.MAX_VALUE, "a"), 'l');
        client.error(Message.write(2, 1L << 32, "a"), 'l');
        client.error(Message.write(2, 0, "abcdefghijklmnopqrstuvwxy"), 'l');
        client.about(1, 0, 0, 0, 7, 0);
        client.done(Message.write(2, 0, "abcdefghijklmnopqrstuvwx"));
        client.about(1, 0, 1, 24, 7, 0);
        client.remove("f");
        client.error(Message.write(2, 25, "a"), 'g');
        client.data(1, "abcdefghijklmnopqrstuvwx");
        client.about(1, 0, 1, 24, 7, 1);
        for (int i : new int[] {-1, 24, Integer.MAX_VALUE, Integer.MIN_VALUE}) {
            Check.throwing("data", IndexOutOfBoundsException.class, () -> client.yard().data(1, i));
        }
        Check.throwing("data", IndexOutOfBoundsException.class, () -> client.yard().data(2, 0));
        Check.throwing("data", IndexOutOfBoundsException.class, () -> client.yard().data(-1, 0));
        Check.throwing("data", IndexOutOfBoundsException.class, () -> client.yard().data(0, 0));
    }

    private static void readErrorsInOrder() {
        Client client = withFile();
        client.error(Message.read(9, 0, 1), 'h');
        client.error(Message.read(1, 5, 1), 'o');
        client.done(Message.walk(1, 3, "f"));
        client.done(Message.open(3, 1));
        client.error(Message.read(3, 0, 1), 'o');
        client.remove("f");
        client.error(Message.read(3, 0, 1), 'o');
        client.error(Message.read(2, 0, 1), 'g');
        client.make("d", Client.DIR);
        client.done(Message.walk(1, 4, "d"));
        client.done(Message.open(4, 0));
        client.error(Message.read(4, 1, 1), 'f');
        client.remove("d");
        client.error(Message.read(4, 1, 1), 'g');
    }

    private static void readCountsUnsigned() {
        Client client = withFile();
        client.done(Message.write(2, 0, "abcd"));
        client.reply(Message.read(2, 1, 4294967295L), new Message().number(3, 4).letters("bcd"));
        client.reply(Message.read(2, 1, 1L << 31), new Message().number(3, 4).letters("bcd"));
        client.reply(Message.read(2, -1, 4), new Message().number(0, 4));
        client.reply(Message.read(2, Long.MIN_VALUE, 4), new Message().number(0, 4));
        client.reply(Message.read(2, 1L << 32, 4), new Message().number(0, 4));
        client.reply(Message.read(2, Long.MAX_VALUE, 4), new Message().number(0, 4));
    }

    private static Message told(int count) {
        return new Message().number(count, 4);
    }

    /** In directory d, number 1: plain ab 2, directory c 3, plain dddd 4. */
    private static Client withDirectory() {
        Client client = Client.attached();
        client.make("d", Client.DIR);
        client.make("ab", 6, "d");
        client.make("c", Client.DIR, "d");
        client.make("dddd", 1, "d");
        client.done(Message.walk(1, 2, "d"));
        client.done(Message.open(2, 0));
        return client;
    }

    private static void listing() {
        Client client = withDirectory();
        client.error(Message.read(2, 31, 100), 'f');
        client.reply(Message.read(2, 0, 60), told(31).stat(false, 0, 2, 6, 0, "ab"));
        client.error(Message.read(2, 30, 100), 'f');
        client.error(Message.read(2, 60, 100), 'f');
        client.error(Message.read(2, -1, 100), 'f');
        client.reply(Message.read(2, 31, 62), told(30).stat(true, 0, 3, 7, 0, "c"));
        client.reply(Message.read(2, 61, 32), told(0));
        client.reply(Message.read(2, 61, 33), told(33).stat(false, 0, 4, 1, 0, "dddd"));
        client.error(Message.read(2, 61, 33), 'f');
        client.reply(Message.read(2, 94, 33), told(0));
        Client again = withDirectory();
        again.reply(Message.read(2, 0, 30), told(0));
        again.reply(Message.read(2, 0, 61),
                told(61).stat(false, 0, 2, 6, 0, "ab").stat(true, 0, 3, 7, 0, "c"));
        again.reply(Message.read(2, 0, 31), told(31).stat(false, 0, 2, 6, 0, "ab"));
        again.error(Message.read(2, 61, 31), 'f');
        again.done(Message.walk(1, 3, "d"));
        again.done(Message.open(3, 0));
        again.error(Message.read(3, 31, 31), 'f');
        again.done(Message.read(2, 31, 31));
    }

    /** The root is its own parent and not gone, so by the words it is among its own children. */
    private static void listingTheRoot() {
        Client client = Client.attached();
        client.make("a", 7);
        client.done(Message.open(1, 0));
        client.reply(Message.read(1, 0, 100),
                told(59).stat(true, 1, 0, 7, 0, "").stat(false, 0, 1, 7, 0, "a"));
        client.reply(Message.read(1, 0, 29), told(29).stat(true, 1, 0, 7, 0, ""));
        client.reply(Message.read(1, 29, 30), told(30).stat(false, 0, 1, 7, 0, "a"));
    }

    private static void listingAfterChanges() {
        Client client = withDirectory();
        client.done(Message.read(2, 0, 31));
        client.remove("d", "c");
        client.remove("d", "ab");
        client.make("e", 4, "d");
        client.reply(Message.read(2, 31, 4294967295L),
                told(63).stat(false, 0, 4, 1, 0, "dddd").stat(false, 0, 5, 4, 0, "e"));
        client.make("g", 4, "d");
        client.reply(Message.read(2, 94, 4294967295L), told(30).stat(false, 0, 6, 4, 0, "g"));
    }

    private static void smallFrames() {
        Client client = new Client();
        client.done(Message.begin(64, "9P2000"));
        client.done(Message.attach(1));
        client.make("d", Client.DIR);
        client.make("ab", 6, "d");
        client.make("ac", 6, "d");
        client.done(Message.walk(1, 2, "d"));
        client.done(Message.open(2, 0));
        client.reply(Message.read(2, 0, 54), told(31).stat(false, 0, 2, 6, 0, "ab"));
        client.reply(Message.read(2, 0, 62), told(31).stat(false, 0, 2, 6, 0, "ab"));
        client.reply(Message.read(2, 31, 62), told(31).stat(false, 0, 3, 6, 0, "ac"));
        for (int most = 72; most <= 73; most++) {
            client.done(Message.begin(most, "9P2000"));
            client.done(Message.attach(1));
            client.done(Message.walk(1, 2, "d"));
            client.done(Message.open(2, 0));
            Message due = told(most == 72 ? 31 : 62).stat(false, 0, 2, 6, 0, "ab");
            client.reply(Message.read(2, 0, 4294967295L),
                    most == 72 ? due : due.stat(false, 0, 3, 6, 0, "ac"));
        }
    }

    private static void listingBeginsWhenOpened() {
        Client client = withDirectory();
        client.done(Message.read(2, 0, 31));
        client.done(Message.close(2));
        client.done(Message.walk(1, 2, "d"));
        client.done(Message.open(2, 0));
        client.error(Message.read(2, 31, 31), 'f');
        client.reply(Message.read(2, 0, 31), told(31).stat(false, 0, 2, 6, 0, "ab"));
    }

    private static void listingAll() {
        Client client = Client.attached();
        for (int i = 1; i < 40; i++) {
            client.feed(Message.walk(1, 2), Message.create(2, "" + (char) ('a' + i % 26) + (i < 26
                    ? "" : "z"), 7, 0), Message.close(2));
            client.yard().serve();
            client.yard().serve();
            client.yard().serve();
            client.yard().drop(9 + 24 + 7);
        }
        client.done(Message.open(1, 0));
        int sum = 0;
        for (int reads = 0; reads < 10; reads++) {
            client.feed(Message.read(1, sum, 149));
            Check.same("read", client.yard().serve(), 117);
            sum += client.yard().out(7);
            Check.is("drop", client.yard().drop(11 + client.yard().out(7)));
        }
        Check.same("bytes of all stats", sum, 29 + 25 * 30 + 14 * 31);
        client.reply(Message.read(1, sum, 149), told(0));
    }
}
