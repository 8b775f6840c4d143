import java.util.NoSuchElementException;

/** Promise 3: begin, attach, flush, and the errors looked for first of all. */
public final class BeginTest {
    public static void main(String[] args) {
        typesAndBodies();
        nothingBeforeBegin();
        beginSetsTheLimit();
        beginAgain();
        attach();
        flush();
        Check.end();
    }

    private static void typesAndBodies() {
        for (int begun = 0; begun < 2; begun++) {
            for (int type : new int[] {0, 99, 101, 102, 103, 105, 106, 107, 109, 126, 255}) {
                Client client = begun == 1 ? Client.attached() : new Client();
                client.error(Message.of(type).tag(513), 'f');
                client.error(Message.of(type).number(1, 4), 'f');
            }
        }
        Message[] whole = {
            Message.begin(100, "9P2000"), Message.attach(2), Message.of(108).number(1, 2),
            Message.walk(1, 2, "a", "b"), Message.open(1, 0), Message.create(1, "a", 7, 0),
            Message.read(1, 0, 5), Message.write(1, 0, "abc"), Message.close(1),
            Message.remove(1), Message.stat(1)
        };
        for (Message one : whole) {
            int type = one.frame()[4] & 255;
            int tag = type == 100 ? 65535 : 1;
            int length = one.body().length;
            Client client = Client.attached();
            for (int less = Math.max(0, length - 9); less < length; less++) {
                Message cut = Message.of(type).tag(tag);
                for (int i = 0; i < less; i++) {
                    cut.number(one.body()[i], 1);
                }
                client.error(cut, 'f');
            }
            Check.same("handles", client.yard().handles(), 1);
            Client.attached().error(one.number(0, 1), 'f');
        }
        Client.attached().error(Message.begin(160, "9P2000").tag(1), 'f');
        Client.attached().error(Message.begin(160, "9P2000").tag(65534), 'f');
        Client.attached().error(Message.of(110).number(1, 4).number(1, 4).number(65535, 2), 'f');
        Client.attached().error(Message.walk(1, 2, "..", "..", "..", "..", ".."), 'f');
        Client.attached().error(
                Message.of(118).number(1, 4).number(0, 8).number(4294967295L, 4), 'f');
        Client.attached().error(
                Message.of(114).number(1, 4).number(65535, 2).number(0, 5), 'f');
    }

    private static void nothingBeforeBegin() {
        Message[] whole = {
            Message.attach(2), Message.of(108).number(1, 2), Message.walk(1, 2),
            Message.open(1, 0), Message.create(1, "a", 7, 0), Message.read(1, 0, 5),
            Message.write(1, 0, "abc"), Message.close(1), Message.remove(1), Message.stat(1)
        };
        Client client = new Client();
        for (Message one : whole) {
            client.error(one, 'v');
        }
        client.error(Message.of(124), 'f');
    }

    private static void beginSetsTheLimit() {
        long[] asked = {64, 65, 100, 159, 160, 161, 2147483648L, 4294967295L};
        for (long m : asked) {
            Client client = new Client();
            Message due = new Message().number(Math.min(m, 160), 4).string("9P2000");
            client.reply(Message.begin(m, "9P2000"), due);
            client.yard().feed(Math.min(m, 160), 4);
            Check.throwing("serve of M", NoSuchElementException.class, () -> client.yard().serve());
        }
        Client over = new Client();
        over.done(Message.begin(64, "9P2000"));
        over.yard().feed(65, 4);
        Check.same("serve of M + 1", over.yard().serve(), 0);
        Client client = new Client();
        client.error(Message.begin(63, "9P2000"), 'l');
        client.error(Message.begin(0, "9P2000"), 'l');
        client.error(Message.attach(1), 'v');
        client.reply(Message.begin(80, "9P2000.u"), new Message().number(80, 4).string("9P2000"));
        client.done(Message.attach(1));
        client.error(Message.begin(63, "other"), 'l');
        Check.same("handles", client.yard().handles(), 1);
        client.done(Message.stat(1));
    }

    private static void beginAgain() {
        for (String version : new String[] {"", "9P200", "9p2000", "x9P2000", "xP2000",
            "9P2001", "unknown", "9P20000"}) {
            Client client = Client.attached();
            boolean begun = version.equals("9P20000");
            client.reply(Message.begin(70, version),
                    new Message().number(70, 4).string(begun ? "9P2000" : "unknown"));
            Check.same("handles", client.yard().handles(), 0);
            client.error(Message.stat(1), begun ? 'h' : 'v');
            client.yard().feed(71, 4);
            Check.same("serve above M", client.yard().serve(), 0);
        }
    }

    private static void attach() {
        Client client = new Client();
        client.done(Message.begin(160, "9P2000"));
        client.reply(Message.attach(7).tag(65535), new Message().qid(true, 0, 0));
        client.error(Message.attach(7), 'h');
        client.error(Message.attach(Message.NO_HANDLE), 'h');
        Message other = Message.of(104).number(7, 4).number(7, 4).string("").string("");
        client.error(other, 'a');
        client.done(Message.of(104).number(0, 4).number(Message.NO_HANDLE, 4)
                .string("me").string("it"));
        for (int i = 0; i < 6; i++) {
            client.done(Message.attach(4294967294L - i));
        }
        Check.same("handles", client.yard().handles(), 8);
        client.error(Message.attach(9), 'l');
        client.error(Message.attach(7), 'h');
        client.error(Message.of(104).number(9, 4).number(0, 4).string("").string(""), 'a');
        Check.same("handles", client.yard().handles(), 8);
        client.done(Message.close(7));
        client.done(Message.attach(9));
    }

    private static void flush() {
        Client client = Client.attached();
        client.reply(Message.of(108).tag(300).number(300, 2), new Message());
        client.error(Message.of(108), 'f');
        client.error(Message.of(108).number(1, 3), 'f');
    }
}
