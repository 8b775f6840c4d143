import java.util.NoSuchElementException;

/** Terms, the edges of numbers, strings and frames, of what breaks the talk, and of f, v, H, G. */
public final class FrameEdgeTest {
    private static final int[] KINDS = {100, 104, 108, 110, 112, 114, 116, 118, 120, 122, 124};

    public static void main(String[] args) {
        Check.sentence("NUMBERS in messages have 1, 2, 4 or 8 bytes, the lowest first.",
                FrameEdgeTest::numbers);
        Check.sentence("A STRING is its length in 2 bytes and that many bytes.",
                FrameEdgeTest::strings);
        Check.sentence("A QID is a byte (128 for a directory, else 0), the version in 4 bytes, the"
                + " file's number in 8.", FrameEdgeTest::qids);
        Check.sentence("A STAT is the number of bytes behind these in 2, then the qid, the mode in"
                + " 4, the length of the data in 8, the name as a string.", FrameEdgeTest::stats);
        Check.sentence("A FRAME is its SIZE in 4 bytes (all its bytes, these too), its TYPE in 1,"
                + " its TAG in 2, and its BODY.", FrameEdgeTest::frames);
        Check.sentence("M is 160 at first.", FrameEdgeTest::limitAtFirst);
        Check.sentence("When the first four bytes of IN say a size that is not 7 .. M, the talk"
                + " BREAKS", FrameEdgeTest::sizesThatBreak);
        Check.sentence("IN is emptied, there are no handles, it is NOT BEGUN, and M is 160.",
                FrameEdgeTest::whatBreaks);
        Check.sentence("Else, when the frame is there, it is taken out of IN and its REPLY is put"
                + " behind OUT", FrameEdgeTest::frameIsThere);
        Check.sentence("a frame with the same tag and the type 1 greater, or ERROR: type 107, its"
                + " body a string of one letter", FrameEdgeTest::tagsAndTypes);
        Check.sentence("f: the type is none of these", FrameEdgeTest::otherTypes);
        Check.sentence("or the body has not just the bytes that it must have",
                FrameEdgeTest::otherBodies);
        Check.sentence("for 100: the tag is not 65535", FrameEdgeTest::tagOfBegin);
        Check.sentence("for 110: k is above 4", FrameEdgeTest::stringsOfWalk);
        Check.sentence("v: the talk is not begun (but for 100).", FrameEdgeTest::notBegun);
        Check.sentence("First of all: f:", FrameEdgeTest::bodyBeforeTalk);
        Check.sentence("H: there is no such handle: h", FrameEdgeTest::noSuchHandle);
        Check.sentence("G: the file at which it stands is gone: g", FrameEdgeTest::goneFile);
        Check.end();
    }

    /** A message of each kind that would be done for handle 1, which stands at a plain file. */
    private static Message[] wholeMessages() {
        return new Message[] {
            Message.begin(100, "9P2000"), Message.attach(2), Message.of(108).number(1, 2),
            Message.walk(1, 2, "..", ".."), Message.open(1, 0), Message.create(1, "abc", 7, 0),
            Message.read(1, 0, 5), Message.write(1, 0, "abc"), Message.close(1),
            Message.remove(1), Message.stat(1)
        };
    }

    private static Message body(int type, byte[] bytes, int count) {
        Message made = Message.of(type).tag(type == 100 ? 65535 : 1);
        for (int i = 0; i < count; i++) {
            made.number(bytes[i], 1);
        }
        return made;
    }

    private static void numbers() {
        Client client = Client.attached();
        client.done(Message.attach(0x04030201L));
        client.done(Message.stat(0x04030201L));
        client.refused(Message.stat(0x01020304L), 'h');
        client.refused(Message.of(124).number(0x04030201L, 3).number(0, 1), 'h');
        Client file = Client.attached();
        file.done(Message.create(1, "f", 7, 2));
        file.reply(Message.write(1, 1, "ab"), new Message().number(2, 4));
        file.reply(Message.read(1, 1, 1), new Message().number(1, 4).letters("a"));
        for (int place = 1; place < 8; place++) {
            file.reply(Message.read(1, 1L << 8 * place, 9), new Message().number(0, 4));
            file.refused(Message.write(1, 1L << 8 * place, ""), 'l');
        }
        for (int place = 1; place < 4; place++) {
            file.reply(Message.read(1, 0, 1L << 8 * place),
                    new Message().number(3, 4).letters("\0ab"));
            Message write = Message.of(118).number(1, 4).number(0, 8).number(1 << 8 * place, 4);
            file.refused(write.number('a', 1), 'f');
        }
    }

    private static void strings() {
        Client client = new Client();
        client.done(Message.begin(160, "9P2000"));
        String longest = "u".repeat(160 - 7 - 8 - 4);
        for (String[] two : new String[][] {{"", ""}, {"u", ""}, {"", "u"}, {longest, ""},
            {"", longest}, {"9P", "\0\u00ff"}}) {
            Message attach = Message.of(104).number(1, 4).number(Message.NO_HANDLE, 4);
            client.again().reply(attach.string(two[0]).string(two[1]),
                    new Message().qid(true, 0, 0));
        }
        for (int told : new int[] {0, 1, 3, 4, 5, 256, 258, 512, 32768, 65535}) {
            Message attach = Message.of(104).number(1, 4).number(Message.NO_HANDLE, 4);
            client.refused(attach.number(told, 2).letters("uu").string(""), 'f');
            Message other = Message.of(104).number(1, 4).number(Message.NO_HANDLE, 4);
            client.refused(other.string("").number(told, 2).letters("uu"), 'f');
        }
    }

    private static void qids() {
        Client client = Client.attached();
        client.done(Message.create(1, "f", 7, 1));
        client.done(Message.write(1, 0, ""), Message.write(1, 0, ""), Message.attach(2));
        client.reply(Message.walk(2, 3, "f"), new Message().number(1, 2)
                .number(0, 1).number(2, 4).number(1, 8));
        client.reply(Message.walk(2, 4, ".."), new Message().number(1, 2)
                .number(128, 1).number(1, 4).number(0, 8));
    }

    private static void stats() {
        Client client = Client.attached();
        client.reply(Message.stat(1), new Message().number(27, 2).number(128, 1).number(0, 4)
                .number(0, 8).number(2147483655L, 4).number(0, 8).number(0, 2));
        for (int letters = 1; letters < 5; letters++) {
            String name = "abcd".substring(0, letters);
            Client made = client.again();
            made.done(Message.create(1, name, 6, 1), Message.write(1, 23, "z"));
            made.reply(Message.stat(1), new Message().number(27 + letters, 2).number(0, 1)
                    .number(1, 4).number(1, 8).number(6, 4).number(24, 8).number(letters, 2)
                    .letters(name));
        }
    }

    private static void frames() {
        Client client = Client.attached();
        client.yard().feed(0x6c_0000_0009L, 5);
        client.yard().feed(0x0403, 2);
        client.yard().feed(0x0001, 2);
        Check.same("serve", client.yard().serve(), 109);
        int[] due = {7, 0, 0, 0, 109, 3, 4};
        Check.same("size of OUT", client.yard().size(true), due.length);
        for (int i = 0; i < due.length; i++) {
            Check.same("byte " + i, client.yard().out(i), due[i]);
        }
    }

    /** A size that is fine waits for the rest of its frame. */
    private static void waits(Client client, long size) {
        Client tried = client.again();
        tried.yard().feed(size, 4);
        tried.refused("serve of size " + size, NoSuchElementException.class, Yard::serve);
    }

    private static void breaks(Client client, long size) {
        Client tried = client.again();
        tried.yard().feed(size, 4);
        Check.same("serve of size " + size, tried.yard().serve(), 0);
        Check.same("size of IN", tried.yard().size(false), 0);
        Check.same("size of OUT", tried.yard().size(true), 0);
        Check.same("handles", tried.yard().handles(), 0);
        tried.error(Message.stat(1), 'v');
    }

    private static void limitAtFirst() {
        Client client = new Client();
        waits(client, 159);
        waits(client, 160);
        breaks(client, 161);
        for (int size = 159; size < 161; size++) {
            Client tried = client.again();
            tried.feed(body(99, new byte[size - 7], size - 7));
            Check.same("serve of size " + size, tried.yard().serve(), 107);
            Check.same("size of IN", tried.yard().size(false), 0);
        }
    }

    private static void sizesThatBreak() {
        long[] others = {0, 1, 6, 263, 65543, 16777223, 2147483648L, 2147483655L, 4294967289L,
            4294967295L};
        for (int most : new int[] {64, 65, 100, 159, 160}) {
            Client client = Client.attached(most);
            for (long size : others) {
                breaks(client, size);
            }
            breaks(client, most + 1);
            waits(client, most);
            waits(client, most - 1);
            waits(client, 7);
            waits(client, 8);
        }
        Client.attached().error(Message.of(99), 'f');
    }

    private static void whatBreaks() {
        Client client = Client.attached(100);
        client.make("d", Client.DIR);
        client.done(Message.create(1, "f", 7, 2));
        client.done(Message.write(1, 0, "abc"));
        client.bind("d /", 0, 1, 2);
        client.text("f");
        client.feed(Message.stat(1));
        Check.same("serve", client.yard().serve(), 125);
        client.yard().feed(101, 8);
        for (int i = 0; i < 39; i++) {
            client.yard().feed(0, 8);
        }
        Check.same("size of IN", client.yard().size(false), 320);
        Check.same("serve of a size above M", client.yard().serve(), 0);
        Check.same("size of IN", client.yard().size(false), 0);
        Check.same("handles", client.yard().handles(), 0);
        waits(client, 160);
        otherThingsStay(client);
        Check.is("drop", client.yard().drop(37));
        client.refused(Message.stat(1), 'v');
        client.refused(Message.attach(1), 'v');
        client.reply(Message.begin(200, "9P2000"),
                new Message().number(160, 4).string("9P2000"));
        client.refused(Message.stat(1), 'h');
        client.done(Message.attach(1));
    }

    private static void otherThingsStay(Client client) {
        Check.same("size of OUT", client.yard().size(true), 37);
        Check.same("byte of OUT", client.yard().out(36), 'f');
        Check.same("files", client.yard().files(), 3);
        client.data(2, "abc");
        Check.same("look", client.yard().look(0), 2);
        client.membersOf("", 0, 1, 0);
    }

    private static void frameIsThere() {
        Client client = Client.attached();
        byte[] frame = Message.stat(1).frame();
        for (int missing = 1; missing < frame.length; missing++) {
            Client tried = client.again();
            for (int i = 0; i < frame.length - missing; i++) {
                tried.yard().feed(frame[i], 1);
            }
            tried.refused("serve with " + missing + " bytes missing",
                    NoSuchElementException.class, Yard::serve);
        }
        client.feed(Message.stat(1), Message.of(108).number(1, 2), Message.of(99));
        client.yard().feed(5, 1);
        Check.same("serve", client.yard().serve(), 125);
        Check.same("size of IN", client.yard().size(false), 9 + 7 + 1);
        Check.same("size of OUT", client.yard().size(true), 36);
        Check.same("serve", client.yard().serve(), 109);
        Check.same("size of IN", client.yard().size(false), 7 + 1);
        Check.same("size of OUT", client.yard().size(true), 36 + 7);
        Check.same("serve", client.yard().serve(), 107);
        Check.same("size of IN", client.yard().size(false), 1);
        Check.same("size of OUT", client.yard().size(true), 36 + 7 + 10);
        Check.same("type of the first", client.yard().out(4), 125);
        Check.same("type of the second", client.yard().out(36 + 4), 109);
        Check.same("type of the third", client.yard().out(36 + 7 + 4), 107);
    }

    private static void tagsAndTypes() {
        Client client = Client.attached();
        for (int tag : new int[] {0, 1, 255, 256, 32768, 65280, 65534, 65535}) {
            client.again().reply(Message.of(108).tag(tag).number(1, 2), new Message());
            client.again().error(Message.stat(9).tag(tag), 'h');
            client.again().error(Message.of(99).tag(tag), 'f');
        }
        Client empty = Client.attached();
        empty.make("d", Client.DIR);
        empty.done(Message.walk(1, 1, "d"));
        for (Message one : wholeMessages()) {
            int type = one.frame()[4] & 255;
            Client tried = empty.again();
            tried.feed(one);
            boolean notOpen = type == 116 || type == 118;
            Check.same("serve", tried.yard().serve(), notOpen ? 107 : type + 1);
        }
    }

    private static void otherTypes() {
        Client begun = Client.attached();
        Client fresh = new Client();
        for (int type = 0; type < 256; type++) {
            if (!isKind(type)) {
                begun.again().error(Message.of(type), 'f');
                fresh.again().error(Message.of(type).number(1, 4), 'f');
            }
        }
        for (int type : new int[] {99, 101, 107, 125, 126}) {
            begun.refused(Message.of(type), 'f');
            begun.refused(Message.of(type).number(1, 4), 'f');
            fresh.refused(Message.of(type).tag(65535).number(100, 4).string("9P2000"), 'f');
        }
    }

    private static boolean isKind(int type) {
        for (int kind : KINDS) {
            if (kind == type) {
                return true;
            }
        }
        return false;
    }

    private static void otherBodies() {
        Client client = Client.attached();
        client.make("f", 7);
        client.done(Message.walk(1, 1, "f"));
        for (Message one : wholeMessages()) {
            int type = one.frame()[4] & 255;
            byte[] bytes = one.body();
            for (int count = 0; count < bytes.length; count++) {
                client.refused(body(type, bytes, count), 'f');
            }
            client.refused(body(type, bytes, bytes.length).number(0, 1), 'f');
            client.refused(body(type, bytes, bytes.length).number(0, 2), 'f');
        }
        lengthsInBodies(client);
        for (int most : new int[] {64, 159, 160}) {
            lengthsAtTheEnd(most);
        }
    }

    /** The lengths that bodies tell of their parts: one less, one more, and far more. */
    private static void lengthsInBodies(Client client) {
        for (int told : new int[] {0, 2, 4, 259, 65535}) {
            client.refused(Message.of(114).number(1, 4).number(told, 2).letters("abc")
                    .number(7, 4).number(0, 1), 'f');
            client.refused(Message.of(100).tag(65535).number(100, 4).number(told, 2)
                    .letters("9P2"), 'f');
            client.refused(Message.of(110).number(1, 4).number(2, 4).number(1, 2)
                    .number(told, 2).letters("..."), 'f');
        }
        for (long told : new long[] {0, 2, 4, 259, 2147483651L, 4294967295L}) {
            client.refused(Message.of(118).number(1, 4).number(0, 8).number(told, 4)
                    .letters("abc"), 'f');
        }
        for (int told : new int[] {0, 1, 3, 4}) {
            client.refused(Message.of(110).number(1, 4).number(2, 4).number(told, 2)
                    .string("..").string(".."), 'f');
        }
    }

    /** A length of which only one byte, or none, is in the longest frame that there may be. */
    private static void lengthsAtTheEnd(int most) {
        Client client = Client.attached(most);
        int room = most - 7 - 8 - 2;
        for (int letters = room - 3; letters <= room + 1; letters++) {
            Message attach = Message.of(104).number(2, 4).number(Message.NO_HANDLE, 4)
                    .number(letters, 2).letters("u".repeat(Math.min(letters, room)))
                    .number(0, Math.max(0, room - letters));
            boolean whole = letters == room - 2;
            if (whole) {
                client.again().reply(attach, new Message().qid(true, 0, 0));
            } else {
                client.refused(attach, 'f');
            }
        }
        String longest = "u".repeat(most - 7 - 10 - 2 - 1);
        client.refused(Message.of(110).number(1, 4).number(2, 4).number(2, 2).string(longest)
                .number(0, 1), 'f');
        client.refused(Message.of(110).number(1, 4).number(2, 4).number(2, 2)
                .string(longest + "u"), 'f');
        client.refused(Message.of(114).number(1, 4).string("u".repeat(most - 7 - 4 - 2)), 'f');
        client.refused(Message.of(114).number(1, 4).string("u".repeat(most - 7 - 4 - 2 - 1))
                .number(0, 1), 'f');
    }

    private static void tagOfBegin() {
        for (Client client : new Client[] {new Client(), Client.attached(100)}) {
            for (int tag : new int[] {0, 1, 255, 65279, 65280, 65534}) {
                client.refused(Message.begin(160, "9P2000").tag(tag), 'f');
                client.refused(Message.begin(1, "9P2000").tag(tag), 'f');
            }
            client.again().reply(Message.begin(160, "9P2000").tag(65535),
                    new Message().number(160, 4).string("9P2000"));
        }
        Client.attached().done(Message.stat(1).tag(65535));
    }

    private static void stringsOfWalk() {
        Client client = Client.attached();
        Message due = new Message().number(3, 2).qid(true, 0, 0).qid(true, 0, 0).qid(true, 0, 0);
        client.again().reply(Message.walk(1, 2, "..", "..", ".."), due);
        due = new Message().number(4, 2).qid(true, 0, 0).qid(true, 0, 0).qid(true, 0, 0)
                .qid(true, 0, 0);
        client.again().reply(Message.walk(1, 2, "..", "..", "..", ".."), due);
        client.refused(Message.walk(1, 2, "..", "..", "..", "..", ".."), 'f');
        client.refused(Message.walk(1, 2, "x", "", "", "", ""), 'f');
        client.refused(Message.walk(9, 2, "x", "", "", "", "", ""), 'f');
        for (int k : new int[] {256, 257, 260, 32768, 65535}) {
            client.refused(Message.of(110).number(1, 4).number(2, 4).number(k, 2), 'f');
            client.refused(Message.of(110).number(1, 4).number(2, 4).number(k, 2).string(".."),
                    'f');
        }
        client.again().reply(Message.walk(1, 2), new Message().number(0, 2));
    }

    private static void notBegun() {
        Client unknown = Client.attached();
        unknown.done(Message.begin(160, "9P"));
        Client broken = Client.attached();
        broken.yard().feed(0, 4);
        Check.same("serve", broken.yard().serve(), 0);
        for (Client client : new Client[] {new Client(), unknown, broken}) {
            for (Message one : wholeMessages()) {
                if ((one.frame()[4] & 255) != 100) {
                    client.refused(one, 'v');
                }
            }
            client.refused(Message.stat(Message.NO_HANDLE), 'v');
            client.refused(Message.attach(Message.NO_HANDLE), 'v');
            client.refused(Message.of(104).number(1, 4).number(1, 4).string("").string(""), 'v');
            client.refused(Message.open(9, 3), 'v');
            client.again().done(Message.begin(160, "9P2000"), Message.attach(1));
        }
    }

    private static void bodyBeforeTalk() {
        Client client = new Client();
        for (int kind : KINDS) {
            client.refused(Message.of(kind).tag(65535), 'f');
        }
        client.refused(Message.walk(1, 2, "", "", "", "", ""), 'f');
        Client begun = Client.attached();
        begun.refused(Message.of(124).number(9, 3), 'f');
        begun.refused(Message.of(112).number(9, 4), 'f');
        begun.refused(Message.begin(1, "").number(0, 1), 'f');
    }

    private static void noSuchHandle() {
        Client client = Client.attached();
        client.done(Message.attach(4294967294L));
        for (long handle : new long[] {0, 2, 257, 65537, 2147483649L, 4294967293L,
            Message.NO_HANDLE}) {
            client.refused(Message.walk(handle, 5), 'h');
            client.refused(Message.open(handle, 0), 'h');
            client.refused(Message.create(handle, "a", 7, 0), 'h');
            client.refused(Message.read(handle, 0, 1), 'h');
            client.refused(Message.write(handle, 0, ""), 'h');
            client.refused(Message.close(handle), 'h');
            client.refused(Message.remove(handle), 'h');
            client.refused(Message.stat(handle), 'h');
        }
        client.again().done(Message.stat(4294967294L), Message.close(4294967294L));
    }

    private static void goneFile() {
        Client client = Client.attached();
        client.make("f", 7);
        client.done(Message.walk(1, 2, "f"), Message.walk(1, 3, "f"), Message.open(3, 2));
        client.remove("f");
        client.refused(Message.walk(2, 4), 'g');
        client.refused(Message.walk(2, 2), 'g');
        client.refused(Message.open(2, 0), 'g');
        client.refused(Message.create(2, "a", 7, 0), 'g');
        client.refused(Message.read(3, 0, 1), 'g');
        client.refused(Message.write(3, 0, "a"), 'g');
        client.refused(Message.stat(2), 'g');
        Client closed = client.again();
        closed.done(Message.close(2));
        Client removed = client.again();
        removed.error(Message.remove(2), 'g');
        closed.like("remove of what is gone", removed);
        client.again().reply(Message.close(3), new Message());
    }
}
