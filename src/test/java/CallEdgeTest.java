import java.util.Arrays;
import java.util.NoSuchElementException;

/** The edges of promises 1 to 10, of calls that are refused, and of the 512 calls. */
public final class CallEdgeTest {
    private static final int[] FAR = {-1, Integer.MAX_VALUE, Integer.MIN_VALUE};

    public static void main(String[] args) {
        Check.sentence("Only the root; IN, OUT and the text are empty, and the talk is not begun.",
                CallEdgeTest::newObject);
        Check.sentence("n bytes are put behind IN, the lowest one of w first.",
                CallEdgeTest::feedBytes);
        Check.sentence("IllegalArgumentException when n is not 1 .. 8", CallEdgeTest::feedCounts);
        Check.sentence("UnsupportedOperationException when IN would have more than 320.",
                CallEdgeTest::feedRoom);
        Check.sentence("Takes one frame and replies: the type of the reply; 0 when the talk"
                + " breaks.", CallEdgeTest::serve);
        Check.sentence("UnsupportedOperationException when OUT has more than 240 bytes",
                CallEdgeTest::serveRoom);
        Check.sentence("NoSuchElementException when IN has not four bytes, or its first frame is"
                + " not all there.", CallEdgeTest::serveFrames);
        Check.sentence("How many bytes IN (out false) or OUT has.", CallEdgeTest::size);
        Check.sentence("Byte i of OUT. IndexOutOfBoundsException when there is none.",
                CallEdgeTest::out);
        Check.sentence("Takes the first n bytes out of OUT. False when n is negative or it has not"
                + " so many.", CallEdgeTest::drop);
        Check.sentence("How many handles there are.", CallEdgeTest::handles);
        Check.sentence("Of a file (one that is gone as it was, here and below): part 0 its parent,"
                + " 1 its version, 2 the length of its data, 3 its mode's lowest three bits and 8"
                + " for a directory, 4 whether it is gone (1 or 0).", CallEdgeTest::about);
        Check.sentence("IndexOutOfBoundsException when there is no such file (or part).",
                CallEdgeTest::aboutRefuses);
        Check.sentence("Byte i of a file's data.", CallEdgeTest::data);
        Check.sentence("IndexOutOfBoundsException when there is no such file or byte.",
                CallEdgeTest::dataRefuses);
        Check.sentence("How many files were made (with the root).", CallEdgeTest::files);
        Check.sentence("A call that throws, or answers false, changes nothing",
                CallEdgeTest::refusedCallsChangeNothing);
        Check.sentence("where several exceptions that it names fit, it is the first.",
                CallEdgeTest::firstException);
        Check.sentence("An object is used for at most 512 calls after it has been made",
                CallEdgeTest::theLastCall);
        Check.sentence("An object is used for at most 512 calls (as many versions as they make)",
                CallEdgeTest::manyVersions);
        Check.end();
    }

    private static void newObject() {
        Client client = new Client();
        Check.same("files", client.yard().files(), 1);
        client.about(0, 0, 0, 0, 15, 0);
        client.refused("about(1, 0)", IndexOutOfBoundsException.class, yard -> yard.about(1, 0));
        client.refused("data(0, 0)", IndexOutOfBoundsException.class, yard -> yard.data(0, 0));
        Check.same("size of IN", client.yard().size(false), 0);
        Check.same("size of OUT", client.yard().size(true), 0);
        client.refused("out(0)", IndexOutOfBoundsException.class, yard -> yard.out(0));
        client.refused("drop(1)", yard -> yard.drop(1));
        client.refused("serve", NoSuchElementException.class, Yard::serve);
        Check.same("handles", client.yard().handles(), 0);
        Check.same("look at an empty text", client.yard().look(0), 0);
        client.again().type("/".repeat(60));
        client.refused(Message.attach(1), 'v');
        client.refused(Message.of(108).number(1, 2), 'v');
    }

    private static void feedBytes() {
        for (int n = 1; n < 9; n++) {
            Client client = Client.attached();
            byte[] frame = Message.of(108).tag(0x0201).number(0x0403, 2).frame();
            for (int from = 0; from < frame.length; from += n) {
                long word = -1;
                int count = Math.min(n, frame.length - from);
                for (int i = 0; i < count; i++) {
                    word &= ~(255L << 8 * i);
                    word |= (frame[from + i] & 255L) << 8 * i;
                }
                client.yard().feed(word, count);
                Check.same("size of IN", client.yard().size(false), from + count);
            }
            Check.same("serve", client.yard().serve(), 109);
            Check.same("tag", client.yard().out(5), 1);
            Check.same("tag", client.yard().out(6), 2);
        }
    }

    private static void feedCounts() {
        Client client = Client.attached();
        client.yard().feed(9, 3);
        for (int n : new int[] {0, -1, -8, 9, 10, 256, 257, Integer.MAX_VALUE,
            Integer.MIN_VALUE}) {
            client.refused("feed of " + n, IllegalArgumentException.class, yard -> yard.feed(7, n));
        }
        for (int n = 1; n < 9; n++) {
            Client fed = client.again();
            fed.yard().feed(0, n);
            Check.same("size of IN", fed.yard().size(false), 3 + n);
        }
    }

    private static Client fed(int bytes) {
        Client client = new Client();
        byte[] filled = new byte[bytes];
        for (int from = 0; from + 7 <= bytes; from += 7) {
            filled[from] = 7;
        }
        client.feed(filled);
        Check.same("size of IN", client.yard().size(false), bytes);
        return client;
    }

    private static void feedRoom() {
        for (int before = 311; before < 321; before++) {
            Client client = fed(before);
            for (int n = 1; n < 9; n++) {
                int count = n;
                if (before + n > 320) {
                    client.refused("feed of " + n + " behind " + before,
                            UnsupportedOperationException.class, yard -> yard.feed(-1, count));
                } else {
                    Client more = client.again();
                    more.yard().feed(-1, n);
                    Check.same("size of IN", more.yard().size(false), before + n);
                }
            }
        }
        Client full = fed(320);
        Check.same("serve", full.yard().serve(), 107);
        Check.same("size of IN", full.yard().size(false), 313);
        full.refused("feed of 8", UnsupportedOperationException.class, yard -> yard.feed(0, 8));
        full.yard().feed(0, 7);
        Check.same("size of IN", full.yard().size(false), 320);
    }

    private static void serve() {
        Client client = Client.attached();
        client.feed(Message.stat(1), Message.stat(2), Message.of(108).number(1, 2));
        client.yard().feed(6, 4);
        Check.same("serve", client.yard().serve(), 125);
        Check.same("serve", client.yard().serve(), 107);
        Check.same("serve", client.yard().serve(), 109);
        Check.same("size of OUT", client.yard().size(true), 36 + 10 + 7);
        Check.same("serve", client.yard().serve(), 0);
        Check.same("size of OUT", client.yard().size(true), 36 + 10 + 7);
        Check.same("size of IN", client.yard().size(false), 0);
    }

    /** OUT with so many bytes, of which none is looked at. */
    private static Client replied(int bytes) {
        Client client = Client.attached();
        while (client.yard().size(true) < bytes) {
            client.feed(Message.of(99), Message.of(99), Message.of(99), Message.of(99));
            for (int i = 0; i < 4; i++) {
                client.yard().serve();
            }
        }
        Check.is("drop", client.yard().drop(client.yard().size(true) - bytes));
        return client;
    }

    private static void serveRoom() {
        for (int bytes : new int[] {239, 240}) {
            Client client = replied(bytes);
            client.feed(Message.stat(1));
            Check.same("serve at " + bytes, client.yard().serve(), 125);
            Check.same("size of OUT", client.yard().size(true), bytes + 36);
            client.yard().feed(0, 4);
            client.refused("serve above 240", UnsupportedOperationException.class, Yard::serve);
        }
        Client over = replied(240);
        over.feed(Message.of(99), Message.stat(1));
        Check.same("serve at 240", over.yard().serve(), 107);
        Check.is("drop", over.yard().drop(9));
        Check.same("size of OUT", over.yard().size(true), 241);
        over.refused("serve at 241", UnsupportedOperationException.class, Yard::serve);
        Check.is("drop", over.yard().drop(1));
        Check.same("serve at 240", over.yard().serve(), 125);
        breakNeedsRoomToo();
        longestReply();
    }

    private static void breakNeedsRoomToo() {
        Client over = replied(240);
        over.feed(Message.of(99));
        over.yard().feed(0, 4);
        over.yard().serve();
        over.refused("serve of a size that breaks", UnsupportedOperationException.class,
                Yard::serve);
        Check.is("drop", over.yard().drop(10));
        Check.same("serve of a size that breaks", over.yard().serve(), 0);
    }

    /** The longest reply there is comes behind as many bytes as OUT may have before it. */
    private static void longestReply() {
        Client client = Client.attached();
        for (String name : new String[] {"a", "b", "c", "d"}) {
            client.make(name, 7);
        }
        client.done(Message.open(1, 0));
        for (int i = 0; i < 24; i++) {
            client.feed(Message.of(99));
            Check.same("serve", client.yard().serve(), 107);
        }
        client.feed(Message.read(1, 0, 149));
        Check.same("serve at 240", client.yard().serve(), 117);
        Check.same("size of OUT", client.yard().size(true), 400);
        Check.same("the last byte", client.yard().out(399), 'd');
        Check.same("bytes told", client.yard().out(247), 149);
        client.refused("out(400)", IndexOutOfBoundsException.class, yard -> yard.out(400));
        client.refused("drop(401)", yard -> yard.drop(401));
        Check.is("drop", client.yard().drop(400));
    }

    private static void serveFrames() {
        for (int begun = 0; begun < 2; begun++) {
            Client client = begun == 0 ? new Client() : Client.attached();
            client.refused("serve of nothing", NoSuchElementException.class, Yard::serve);
            for (int n = 1; n < 4; n++) {
                Client few = client.again();
                few.yard().feed(0, n);
                few.refused("serve of " + n, NoSuchElementException.class, Yard::serve);
            }
            Client four = client.again();
            four.yard().feed(0, 4);
            Check.same("serve of four", four.yard().serve(), 0);
            for (int size : new int[] {7, 8, 9, 159, 160}) {
                notAllThere(client, size);
            }
        }
    }

    private static void notAllThere(Client client, int size) {
        Client waiting = client.again();
        byte[] frame = Message.of(99).letters("x".repeat(size - 7)).frame();
        byte[] most = Arrays.copyOf(frame, size - 1);
        waiting.feed(most);
        waiting.refused("serve, one byte missing", NoSuchElementException.class, Yard::serve);
        waiting.yard().feed(frame[size - 1], 1);
        Check.same("serve of " + size, waiting.yard().serve(), 107);
        Check.same("size of IN", waiting.yard().size(false), 0);
        waiting.refused("serve again", NoSuchElementException.class, Yard::serve);
    }

    private static void size() {
        Client client = fed(320);
        Check.same("size of OUT", client.yard().size(true), 0);
        for (int i = 1; i < 26; i++) {
            Check.same("serve", client.yard().serve(), 107);
            Check.same("size of IN", client.yard().size(false), 320 - 7 * i);
            Check.same("size of OUT", client.yard().size(true), 10 * i);
        }
        Client asked = client.again();
        asked.yard().size(true);
        asked.yard().size(false);
        client.like("size", asked);
    }

    private static void out() {
        for (int bytes : new int[] {0, 1, 10, 240}) {
            Client client = replied(bytes);
            for (int i : new int[] {bytes, bytes + 1, 400, -1, Integer.MAX_VALUE,
                Integer.MIN_VALUE}) {
                client.refused("out(" + i + ")", IndexOutOfBoundsException.class,
                        yard -> yard.out(i));
            }
            if (bytes > 0) {
                Check.same("the last byte", client.yard().out(bytes - 1), 'f');
            }
            if (bytes >= 10) {
                Check.same("the first byte", client.yard().out(0), 10);
            }
        }
        Client high = Client.attached();
        high.feed(Message.of(108).tag(0xff80).number(1, 2));
        high.yard().serve();
        Check.same("a byte above 127", high.yard().out(5), 0x80);
        Check.same("a byte of ones", high.yard().out(6), 0xff);
    }

    private static void drop() {
        for (int bytes : new int[] {0, 1, 20}) {
            Client client = replied(bytes);
            for (int n : new int[] {-1, bytes + 1, bytes + 2, Integer.MAX_VALUE,
                Integer.MIN_VALUE}) {
                client.refused("drop(" + n + ")", yard -> yard.drop(n));
            }
            Client none = client.again();
            Check.is("drop(0)", none.yard().drop(0));
            client.like("drop of none", none);
            for (int n = 0; n <= bytes; n++) {
                Client less = client.again();
                Check.is("drop", less.yard().drop(n));
                Check.same("size of OUT", less.yard().size(true), bytes - n);
                if (n < bytes) {
                    Check.same("the last byte", less.yard().out(bytes - n - 1), 'f');
                }
            }
        }
        Client kept = Client.attached();
        kept.feed(Message.stat(1), Message.of(99).tag(0x4433));
        kept.yard().serve();
        kept.yard().serve();
        Check.is("drop", kept.yard().drop(36));
        int[] due = {10, 0, 0, 0, 107, 0x33, 0x44, 1, 0, 'f'};
        for (int i = 0; i < due.length; i++) {
            Check.same("out " + i, kept.yard().out(i), due[i]);
        }
    }

    private static void handles() {
        Client client = Client.attached();
        for (int count = 1; count < 9; count++) {
            Check.same("handles", client.yard().handles(), count);
            if (count < 8) {
                client.done(count % 2 == 0 ? Message.attach(count + 1)
                        : Message.walk(1, count + 1));
            }
        }
        client.refused(Message.attach(9), 'l');
        Client broken = client.again();
        broken.yard().feed(0, 4);
        broken.yard().serve();
        Check.same("handles behind a break", broken.yard().handles(), 0);
        Client begun = client.again();
        begun.done(Message.begin(64, "no"));
        Check.same("handles behind a begin", begun.yard().handles(), 0);
        for (int count = 7; count >= 0; count--) {
            client.done(Message.close(count + 1));
            Check.same("handles", client.yard().handles(), count);
        }
    }

    private static void about() {
        Client client = Client.attached();
        client.make("d", Message.DIRECTORY + 6);
        client.done(Message.walk(1, 2, "d"), Message.create(2, "f", 3, 1));
        client.done(Message.write(2, 0, "abc"), Message.write(2, 0, ""));
        client.about(0, 0, 1, 0, 15, 0);
        client.about(1, 0, 1, 0, 14, 0);
        client.about(2, 1, 2, 3, 3, 0);
        client.done(Message.remove(2));
        client.about(1, 0, 2, 0, 14, 0);
        client.about(2, 1, 2, 3, 3, 1);
        client.data(2, "abc");
        Client asked = client.again();
        asked.about(2, 1, 2, 3, 3, 1);
        client.like("about", asked);
    }

    private static void aboutRefuses() {
        Client client = Client.attached();
        client.make("a", 7);
        client.make("b", 7);
        client.remove("b");
        for (int part = 0; part < 5; part++) {
            int asked = part;
            for (int file : new int[] {-1, 3, 4, 39, 40, Integer.MAX_VALUE, Integer.MIN_VALUE}) {
                client.refused("about file " + file, IndexOutOfBoundsException.class,
                        yard -> yard.about(file, asked));
            }
            client.yard().about(0, part);
            client.yard().about(2, part);
        }
        for (int file = 0; file < 3; file++) {
            int asked = file;
            for (int part : new int[] {-1, 5, 6, 8, Integer.MAX_VALUE, Integer.MIN_VALUE}) {
                client.refused("about part " + part, IndexOutOfBoundsException.class,
                        yard -> yard.about(asked, part));
            }
        }
        client.refused("about", IndexOutOfBoundsException.class, yard -> yard.about(-1, -1));
        client.refused("about", IndexOutOfBoundsException.class, yard -> yard.about(3, 5));
    }

    private static Client withData(String data) {
        Client client = Client.attached();
        client.done(Message.create(1, "f", 7, 2));
        client.done(Message.write(1, 0, data));
        return client;
    }

    private static void data() {
        withData("").data(1, "");
        withData("a").data(1, "a");
        withData("\0\u007f\u0080\u00ff").data(1, "\0\u007f\u0080\u00ff");
        withData("abcdefghijklmnopqrstuvwx").data(1, "abcdefghijklmnopqrstuvwx");
        Client client = withData("abc");
        Client asked = client.again();
        asked.data(1, "abc");
        client.like("data", asked);
    }

    private static void dataRefuses() {
        for (String data : new String[] {"", "a", "abcdefghijklmnopqrstuvw",
            "abcdefghijklmnopqrstuvwx"}) {
            Client client = withData(data);
            for (int i : new int[] {data.length(), data.length() + 1, 24, 25, -1,
                Integer.MAX_VALUE, Integer.MIN_VALUE}) {
                client.refused("data(1, " + i + ")", IndexOutOfBoundsException.class,
                        yard -> yard.data(1, i));
            }
            for (int file : new int[] {-1, 0, 2, 39, 40, Integer.MAX_VALUE, Integer.MIN_VALUE}) {
                client.refused("data(" + file + ", 0)", IndexOutOfBoundsException.class,
                        yard -> yard.data(file, 0));
            }
        }
    }

    private static void files() {
        Client client = Client.attached();
        Check.same("files", client.yard().files(), 1);
        client.make("a", 7);
        Check.same("files", client.yard().files(), 2);
        client.remove("a");
        Check.same("files", client.yard().files(), 2);
        client.make("a", 7);
        Check.same("files", client.yard().files(), 3);
        client.refused(Message.create(1, "a", 7, 0), 'x');
        Client broken = client.again();
        broken.yard().feed(0, 4);
        broken.yard().serve();
        Check.same("files behind a break", broken.yard().files(), 3);
        Check.same("files", Client.withFiles(40).yard().files(), 40);
    }

    /** Everything in it at once: files, handles, bytes in IN and OUT, a text, tables. */
    private static Client busy() {
        Client client = Client.attached();
        client.make("a", Client.DIR);
        client.make("b", Client.DIR);
        client.done(Message.walk(1, 2), Message.create(2, "f", 7, 2), Message.write(2, 3, "xyz"));
        client.bind("a b", 0, 1, 2);
        client.bind("b a", 1, 0, 1);
        Check.is("fork", client.yard().fork(0, 2, true));
        client.text("no b");
        client.feed(Message.of(99), Message.stat(2));
        client.yard().serve();
        client.yard().feed(11, 3);
        return client;
    }

    private static void refusedCallsChangeNothing() {
        Client client = busy();
        for (int n : FAR) {
            client.refused("feed", IllegalArgumentException.class, yard -> yard.feed(1, n));
            client.refused("drop", yard -> yard.drop(n));
            client.refused("type", yard -> yard.type(Client.word("aaaaaaaa"), n));
            client.refused("out", IndexOutOfBoundsException.class, yard -> yard.out(n));
            client.refused("about", IndexOutOfBoundsException.class, yard -> yard.about(n, 0));
            client.refused("about", IndexOutOfBoundsException.class, yard -> yard.about(0, n));
            client.refused("data", IndexOutOfBoundsException.class, yard -> yard.data(n, 0));
            client.refused("data", IndexOutOfBoundsException.class, yard -> yard.data(3, n));
            client.refused("look", IllegalArgumentException.class, yard -> yard.look(n));
            client.refused("member", IllegalArgumentException.class, yard -> yard.member(n, 0));
            client.refused("bind", IllegalArgumentException.class, yard -> yard.bind(n, 0));
            client.refused("unbind", IllegalArgumentException.class, yard -> yard.unbind(n));
            client.refused("fork", yard -> yard.fork(n, 0, true));
        }
        client.refused("look", NoSuchElementException.class, yard -> yard.look(0));
        client.refused("member", NoSuchElementException.class, yard -> yard.member(0, 0));
        client.refused("bind", NoSuchElementException.class, yard -> yard.bind(0, 0));
        client.refused("unbind", NoSuchElementException.class, yard -> yard.unbind(0));
        client.refused("type", yard -> yard.type(Client.word("aaaaaaaA"), 8));
        client.refused("fork", yard -> yard.fork(1, 1, false));
        client.text("f b");
        client.refused("bind", IllegalStateException.class, yard -> yard.bind(0, 1));
        client.text("b b");
        Check.same("bind", client.yard().bind(0, 1), 4);
        client.refused("bind", UnsupportedOperationException.class, yard -> yard.bind(0, 1));
        Client waiting = client.again();
        Check.same("serve", waiting.yard().serve(), 125);
        waiting.refused("serve", NoSuchElementException.class, Yard::serve);
    }

    private static void firstException() {
        Client full = fed(320);
        for (int n : new int[] {0, 9, -1}) {
            full.refused("feed", IllegalArgumentException.class, yard -> yard.feed(0, n));
        }
        full.refused("feed", UnsupportedOperationException.class, yard -> yard.feed(0, 1));
        Client over = replied(240);
        over.feed(Message.of(99));
        over.yard().serve();
        over.refused("serve of nothing", UnsupportedOperationException.class, Yard::serve);
        over.yard().feed(7, 4);
        over.refused("serve of no whole frame", UnsupportedOperationException.class, Yard::serve);
        Client client = busy();
        client.refused("look", IllegalArgumentException.class, yard -> yard.look(4));
        client.refused("member", IllegalArgumentException.class, yard -> yard.member(4, 9));
        client.refused("member", NoSuchElementException.class, yard -> yard.member(0, 9));
        client.refused("bind", IllegalArgumentException.class, yard -> yard.bind(4, 0));
        client.refused("bind", IllegalArgumentException.class, yard -> yard.bind(0, 3));
        client.refused("unbind", IllegalArgumentException.class, yard -> yard.unbind(4));
    }

    /** A busy object on which 511 calls were made: the next is the last one that is promised. */
    private static Client beforeTheLastCall() {
        Client client = busy();
        client.text("b b");
        while (client.yard().calls() < Yard.MOST_CALLS - 1) {
            client.yard().fork(3, 3, true);
        }
        return client;
    }

    private static void theLastCall() {
        Client client = beforeTheLastCall();
        client.again().yard().feed(1, 8);
        Check.same("serve", client.again().yard().serve(), 125);
        Check.same("size", client.again().yard().size(true), 10);
        Check.same("out", client.again().yard().out(9), 'f');
        Check.is("drop", client.again().yard().drop(10));
        Check.same("handles", client.again().yard().handles(), 2);
        Check.same("about", client.again().yard().about(3, 2), 6);
        Check.same("data", client.again().yard().data(3, 5), 'z');
        Check.same("files", client.again().yard().files(), 4);
        Check.is("type", client.again().yard().type(Client.word("aaaaaaaa"), 8));
        client.again().yard().clear();
        Check.same("look", client.again().yard().look(0), 1);
        Check.same("member", client.again().yard().member(0, 1), 2);
        Check.same("bind", client.again().yard().bind(0, 2), 4);
        Check.same("unbind", client.again().yard().unbind(0), 0);
        Check.is("fork", client.again().yard().fork(0, 1, false));
        Check.throwing("feed", IllegalArgumentException.class,
                () -> client.again().yard().feed(0, 9));
        Check.is("drop", !client.again().yard().drop(11));
    }

    private static void manyVersions() {
        Client client = Client.attached();
        client.done(Message.create(1, "f", 7, 2));
        int writes = 0;
        while (client.yard().calls() + 60 < Yard.MOST_CALLS) {
            Message[] batch = new Message[12];
            Arrays.fill(batch, Message.write(1, 0, ""));
            client.done(batch);
            writes += batch.length;
        }
        Check.same("version", client.yard().about(1, 1), writes);
        client.reply(Message.stat(1), new Message().stat(false, writes, 1, 7, 0, "f"));
    }
}
