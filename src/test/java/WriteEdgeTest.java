/** Terms, the edges of the message write. */
public final class WriteEdgeTest {
    private static final String ALL = "abcdefghijklmnopqrstuvwx";

    public static void main(String[] args) {
        Check.sentence("118 WRITE: handle, 8 bytes, c in 4, c bytes. H, o: not open for writing, G",
                WriteEdgeTest::notOpenForWriting);
        Check.sentence("l: the place (never negative) and c are more than 24 together.",
                WriteEdgeTest::placeAndCount);
        Check.sentence("the errors in the order in which they are looked for (118)",
                WriteEdgeTest::orderOfErrors);
        Check.sentence("When c is above 0, zeros fill what was not there before the place.",
                WriteEdgeTest::zeros);
        Check.sentence("The version is 1 greater (also for c = 0).", WriteEdgeTest::versions);
        Check.sentence("Reply: c in 4.", WriteEdgeTest::replies);
        Check.end();
    }

    /** Plain f 1 with this data, handle 2 open for both at it. */
    private static Client withFile(String data) {
        Client client = Client.attached();
        client.done(Message.walk(1, 2), Message.create(2, "f", 7, 2), Message.write(2, 0, data));
        return client;
    }

    private static void notOpenForWriting() {
        Client client = withFile("abc");
        client.refused(Message.write(1, 0, ""), 'o');
        client.done(Message.walk(1, 3, "f"));
        client.refused(Message.write(3, 0, "z"), 'o');
        for (int way : new int[] {0, 16}) {
            Client reading = client.again();
            reading.done(Message.open(3, way));
            reading.refused(Message.write(3, 0, "z"), 'o');
            reading.refused(Message.write(3, 0, ""), 'o');
        }
        for (int way : new int[] {1, 2, 17, 18}) {
            Client writing = client.again();
            writing.done(Message.open(3, way));
            writing.done(Message.write(3, 0, "z"));
        }
        client.done(Message.remove(3));
        client.refused(Message.write(2, 0, "z"), 'g');
        client.refused(Message.write(2, 0, ""), 'g');
    }

    private static void placeAndCount() {
        for (String data : new String[] {"", "abc", ALL}) {
            Client client = withFile(data);
            for (int place = 0; place < 27; place++) {
                for (int sum : new int[] {23, 24, 25}) {
                    int count = Math.max(0, sum - place);
                    Message write = Message.write(2, place, "z".repeat(count));
                    if (place + count > 24) {
                        client.refused(write, 'l');
                    } else {
                        client.again().reply(write, new Message().number(count, 4));
                    }
                }
            }
        }
        Client client = withFile("abc");
        long[] far = {25, 255, 256, 65536, 2147483647L, 2147483648L, 4294967272L, 4294967295L,
            4294967296L, 4294967297L, Long.MAX_VALUE, Long.MIN_VALUE, Long.MIN_VALUE + 24, -24, -2,
            -1};
        for (long place : far) {
            client.refused(Message.write(2, place, ""), 'l');
            client.refused(Message.write(2, place, "z"), 'l');
            client.refused(Message.write(2, place, ALL), 'l');
        }
        client.refused(Message.write(2, 0, "z".repeat(160 - 23)), 'l');
    }

    private static void orderOfErrors() {
        Client client = withFile("abc");
        client.done(Message.walk(1, 3, "f"), Message.open(3, 0));
        client.refused(Message.write(9, 25, "z"), 'h');
        client.refused(Message.write(9, 25, "z").number(0, 1), 'f');
        client.refused(Message.write(3, 25, "z"), 'o');
        client.remove("f");
        client.refused(Message.write(3, 0, "z"), 'o');
        client.refused(Message.write(3, 25, "z"), 'o');
        client.refused(Message.write(2, 25, "z"), 'g');
        client.refused(Message.write(2, 0, "z"), 'g');
    }

    private static void zeros() {
        String[] due = {"z", "az", "abz", "abcz", "abc\0z", "abc\0\0z"};
        String[] kept = {"zbc", "azc", "abz", "abcz", "abc\0z", "abc\0\0z"};
        for (int place = 0; place < due.length; place++) {
            Client client = withFile("abc");
            client.done(Message.write(2, place, "z"));
            client.data(1, kept[place]);
            Client shorter = withFile("abc".substring(0, Math.min(place, 3)));
            shorter.done(Message.write(2, place, "z"));
            shorter.data(1, due[place]);
        }
        Client last = withFile("");
        last.done(Message.write(2, 23, "z"));
        last.data(1, "\0".repeat(23) + "z");
        nothingFilledWithoutBytes();
        oldDataIsNotSeen();
    }

    private static void nothingFilledWithoutBytes() {
        Client client = withFile("abc");
        for (int place : new int[] {0, 2, 3, 4, 23, 24}) {
            Client tried = client.again();
            tried.done(Message.write(2, place, ""));
            tried.data(1, "abc");
            tried.about(1, 0, 2, 3, 7, 0);
        }
    }

    /** What stood in the data before it was taken away is not there when zeros fill it. */
    private static void oldDataIsNotSeen() {
        Client client = withFile(ALL);
        client.done(Message.walk(1, 3, "f"), Message.open(3, 17));
        client.done(Message.write(2, 0, "z"), Message.write(2, 23, "y"));
        client.data(1, "z" + "\0".repeat(22) + "y");
    }

    private static void versions() {
        Client client = withFile("abc");
        Check.same("version", client.yard().about(1, 1), 1);
        client.done(Message.write(2, 0, "z"));
        Check.same("version", client.yard().about(1, 1), 2);
        client.done(Message.write(2, 0, ""));
        Check.same("version", client.yard().about(1, 1), 3);
        client.done(Message.write(2, 24, ""));
        Check.same("version", client.yard().about(1, 1), 4);
        client.done(Message.write(2, 0, ALL));
        Check.same("version", client.yard().about(1, 1), 5);
        client.refused(Message.write(2, 1, ALL), 'l');
        Check.same("version of the directory", client.yard().about(0, 1), 1);
    }

    private static void replies() {
        Client client = withFile("abc");
        client.again().reply(Message.write(2, 0, ""), new Message().number(0, 4));
        client.again().reply(Message.write(2, 0, "z"), new Message().number(1, 4));
        client.again().reply(Message.write(2, 0, ALL), new Message().number(24, 4));
        client.done(Message.write(2, 0, "\0\u007f\u0080\u00ff"));
        client.data(1, "\0\u007f\u0080\u00ff");
    }
}
