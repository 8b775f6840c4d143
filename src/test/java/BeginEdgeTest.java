/** Terms, the edges of handles and of the messages begin, attach and flush. */
public final class BeginEdgeTest {
    public static void main(String[] args) {
        Check.sentence("100 BEGIN: m in 4 bytes, a string. l: m (never negative) is below 64.",
                BeginEdgeTest::leastLimit);
        Check.sentence("M is m, or 160 if that is more", BeginEdgeTest::limit);
        Check.sentence("there are no handles", BeginEdgeTest::noHandles);
        Check.sentence("the talk is begun if the string begins with 9P2000, else it is not.",
                BeginEdgeTest::begunByTheString);
        Check.sentence("Reply: M in 4, the string 9P2000 or, if it is not begun, unknown.",
                BeginEdgeTest::replyToBegin);
        Check.sentence("HANDLES (at most 8 at once)", BeginEdgeTest::eightHandles);
        Check.sentence("have numbers of 4 bytes, of which 4294967295 is NONE.",
                BeginEdgeTest::numbersOfHandles);
        Check.sentence("A handle stands at a file and is open for READING, WRITING or both, or not"
                + " open.", BeginEdgeTest::notOpenAtFirst);
        Check.sentence("104 ATTACH: handle, other handle, two strings. a: the other one is not"
                + " NONE.", BeginEdgeTest::otherHandle);
        Check.sentence("h: the handle is NONE or there is one with this number.",
                BeginEdgeTest::handleThatIsThere);
        Check.sentence("l: there are 8.", BeginEdgeTest::attachWhenFull);
        Check.sentence("the errors in the order in which they are looked for (104)",
                BeginEdgeTest::orderOfAttach);
        Check.sentence("The handle stands at the root. Reply: its qid.",
                BeginEdgeTest::standsAtTheRoot);
        Check.sentence("108 FLUSH: a tag (2 bytes). Reply: nothing.", BeginEdgeTest::flush);
        Check.end();
    }

    private static void leastLimit() {
        for (Client client : new Client[] {new Client(), Client.attached(100), unknown()}) {
            for (long m : new long[] {0, 1, 62, 63}) {
                client.refused(Message.begin(m, "9P2000"), 'l');
                client.refused(Message.begin(m, "other"), 'l');
            }
            client.again().done(Message.begin(64, "9P2000"));
            client.again().done(Message.begin(65, "9P2000"));
            client.again().done(Message.begin(2147483648L, "9P2000"));
            client.again().done(Message.begin(4294967295L, "9P2000"));
        }
    }

    private static Client unknown() {
        Client made = new Client();
        made.done(Message.begin(70, "8P"));
        return made;
    }

    private static void limit() {
        long[] asked = {64, 65, 66, 158, 159, 160, 161, 162, 256, 320, 2147483647L, 2147483648L,
            4294967295L};
        for (long m : asked) {
            int due = (int) Math.min(m, 160);
            Client client = new Client();
            client.reply(Message.begin(m, "9P2000"),
                    new Message().number(due, 4).string("9P2000"));
            client.done(Message.attach(1));
            Client file = client.again();
            file.reply(Message.create(1, "f", 7, 0),
                    new Message().qid(false, 0, 1).number(due - 24, 4));
            frameOf(client, due - 1);
            frameOf(client, due);
            Client over = client.again();
            over.yard().feed(due + 1, 4);
            Check.same("serve above M", over.yard().serve(), 0);
        }
        Client less = Client.attached(160);
        less.done(Message.begin(64, "9P2000"));
        frameOf(less, 64);
        Client more = Client.attached(64);
        more.done(Message.begin(160, "9P2000"));
        frameOf(more, 160);
    }

    /** A frame so long is served, though it is no frame that can be done. */
    private static void frameOf(Client client, int size) {
        Client tried = client.again();
        Message filled = Message.of(108).letters("x".repeat(size - 7));
        tried.error(filled, 'f');
        tried.feed(Message.of(108).number(1, 2));
        Check.same("serve behind a frame of " + size, tried.yard().serve(), 109);
    }

    private static void noHandles() {
        for (String version : new String[] {"9P2000", "9P"}) {
            for (int handles = 1; handles < 9; handles++) {
                Client client = Client.attached();
                for (int i = 2; i <= handles; i++) {
                    client.done(Message.attach(i));
                }
                Check.same("handles", client.yard().handles(), handles);
                client.done(Message.begin(160, version));
                Check.same("handles", client.yard().handles(), 0);
                client.done(Message.begin(160, "9P2000"));
                client.refused(Message.stat(1), 'h');
                client.done(Message.attach(1));
                Check.same("handles", client.yard().handles(), 1);
            }
        }
    }

    private static void begunByTheString() {
        String longest = "9P2000" + "x".repeat(160 - 7 - 6 - 6);
        for (String version : new String[] {"9P2000", "9P2000.", "9P20000", "9P2000\0", longest}) {
            Client client = new Client();
            client.done(Message.begin(160, version));
            client.done(Message.attach(1));
        }
        for (String version : new String[] {"", "9", "9P200", "9p2000", "9P2001", "8P2000",
            "9Q2000", "9P3000", "9P2100", "9P2010", "x9P2000", " 9P2000", "unknown"}) {
            for (Client client : new Client[] {new Client(), Client.attached()}) {
                client.done(Message.begin(160, version));
                client.refused(Message.attach(1), 'v');
                client.done(Message.begin(160, "9P2000"));
                client.done(Message.attach(1));
            }
        }
    }

    private static void replyToBegin() {
        for (int m : new int[] {64, 100, 160}) {
            new Client().reply(Message.begin(m, "9P2000.L"),
                    new Message().number(m, 4).string("9P2000"));
            new Client().reply(Message.begin(m, "9P200"),
                    new Message().number(m, 4).string("unknown"));
            Client.attached().reply(Message.begin(m, ""),
                    new Message().number(m, 4).string("unknown"));
        }
    }

    private static Client withHandles(int count) {
        Client client = Client.attached();
        for (int i = 2; i <= count; i++) {
            client.done(Message.attach(i));
        }
        return client;
    }

    private static void eightHandles() {
        Client seven = withHandles(7);
        Check.same("handles", seven.yard().handles(), 7);
        Client attached = seven.again();
        attached.done(Message.attach(8));
        Check.same("handles", attached.yard().handles(), 8);
        Client walked = seven.again();
        walked.done(Message.walk(1, 8));
        Check.same("handles", walked.yard().handles(), 8);
        Client eight = withHandles(8);
        eight.refused(Message.attach(9), 'l');
        eight.refused(Message.walk(1, 9), 'l');
        eight.done(Message.close(3));
        Check.same("handles", eight.yard().handles(), 7);
        eight.done(Message.attach(9));
        Check.same("handles", eight.yard().handles(), 8);
        eight.refused(Message.attach(3), 'l');
        for (int i = 1; i < 10; i++) {
            if (i != 3) {
                eight.done(Message.stat(i));
            }
        }
    }

    private static void numbersOfHandles() {
        for (long number : new long[] {0, 1, 255, 256, 2147483647L, 2147483648L, 4294967293L,
            4294967294L}) {
            Client client = new Client();
            client.done(Message.begin(160, "9P2000"));
            client.done(Message.attach(number));
            client.done(Message.stat(number));
            client.done(Message.walk(number, number));
            client.done(Message.close(number));
            client.refused(Message.stat(number), 'h');
        }
        Client client = Client.attached();
        client.refused(Message.attach(Message.NO_HANDLE), 'h');
        client.refused(Message.stat(Message.NO_HANDLE), 'h');
        client.refused(Message.walk(1, Message.NO_HANDLE), 'h');
        Check.same("NONE", MountYard.NONE, (int) Message.NO_HANDLE);
    }

    private static void notOpenAtFirst() {
        Client client = Client.attached();
        client.refused(Message.read(1, 0, 1), 'o');
        client.refused(Message.write(1, 0, ""), 'o');
        client.make("f", 7);
        int[] ways = {0, 1, 2};
        for (int way : ways) {
            Client opened = client.again();
            opened.done(Message.walk(1, 2, "f"), Message.open(2, way));
            if (way == 1) {
                opened.refused(Message.read(2, 0, 1), 'o');
            } else {
                opened.done(Message.read(2, 0, 1));
            }
            if (way == 0) {
                opened.refused(Message.write(2, 0, "a"), 'o');
            } else {
                opened.done(Message.write(2, 0, "a"));
            }
        }
    }

    private static Message attach(long handle, long other) {
        return Message.of(104).number(handle, 4).number(other, 4).string("").string("");
    }

    private static void otherHandle() {
        Client client = Client.attached();
        for (long other : new long[] {0, 1, 2, 5, 65535, 2147483647L, 2147483648L, 4294967294L,
            0x00ffffffL, 0xffffff00L}) {
            client.refused(attach(2, other), 'a');
        }
        client.done(attach(2, Message.NO_HANDLE));
    }

    private static void handleThatIsThere() {
        Client client = Client.attached();
        client.done(Message.attach(4294967294L));
        client.refused(Message.attach(1), 'h');
        client.refused(Message.attach(4294967294L), 'h');
        client.refused(Message.attach(Message.NO_HANDLE), 'h');
        client.again().done(Message.attach(0));
        client.again().done(Message.attach(2));
        client.again().done(Message.attach(4294967293L));
    }

    private static void attachWhenFull() {
        withHandles(6).done(Message.attach(9));
        withHandles(7).done(Message.attach(9));
        withHandles(8).refused(Message.attach(9), 'l');
    }

    private static void orderOfAttach() {
        Client full = withHandles(8);
        full.refused(attach(1, 1), 'a');
        full.refused(attach(Message.NO_HANDLE, 1), 'a');
        full.refused(attach(9, 1), 'a');
        full.refused(attach(1, Message.NO_HANDLE), 'h');
        full.refused(attach(Message.NO_HANDLE, Message.NO_HANDLE), 'h');
        full.refused(attach(9, Message.NO_HANDLE), 'l');
        full.refused(attach(1, 1).number(0, 1), 'f');
        new Client().refused(attach(Message.NO_HANDLE, 1), 'v');
    }

    private static void standsAtTheRoot() {
        Client client = Client.attached();
        client.make("d", Client.DIR);
        client.make("e", Client.DIR);
        client.done(Message.walk(1, 1, "d"));
        client.reply(Message.attach(2), new Message().qid(true, 2, 0));
        client.reply(Message.stat(2), new Message().stat(true, 2, 0, 7, 0, ""));
        client.refused(Message.read(2, 0, 1), 'o');
        client.done(Message.open(2, 0), Message.close(2), Message.attach(2));
        client.refused(Message.read(2, 0, 1), 'o');
    }

    private static void flush() {
        Client client = Client.attached();
        for (int tag : new int[] {0, 1, 65534, 65535}) {
            Client flushed = client.again();
            flushed.reply(Message.of(108).tag(3).number(tag, 2), new Message());
            client.like("flush", flushed);
        }
        client.refused(Message.of(108), 'f');
        client.refused(Message.of(108).number(1, 1), 'f');
        client.refused(Message.of(108).number(1, 3), 'f');
    }
}
