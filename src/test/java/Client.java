import java.io.ByteArrayOutputStream;
import java.util.ArrayList;
import java.util.Arrays;
import java.util.List;
import java.util.function.Consumer;
import java.util.function.Predicate;

/** Talks to one object by frames. */
final class Client {
    static final long DIR = Message.DIRECTORY + 7;

    private final Yard yard;
    private Probe known;

    Client() {
        this(new Yard());
    }

    private Client(Yard yard) {
        this.yard = yard;
    }

    /** An object whose talk is begun, with handle 1 at the root. */
    static Client attached() {
        return attached(160);
    }

    static Client attached(int most) {
        Client made = new Client();
        made.done(Message.begin(most, "9P2000"));
        made.done(Message.attach(1));
        return made;
    }

    /** A new object in the same state: what a test tries on it this one does not see. */
    Client again() {
        return new Client(Yard.after(yard.history()));
    }

    Yard yard() {
        return yard;
    }

    void feed(byte[] bytes) {
        feed(yard, bytes);
    }

    static void feed(Yard yard, byte[] bytes) {
        for (int from = 0; from < bytes.length; from += 8) {
            int count = Math.min(8, bytes.length - from);
            long word = 0;
            for (int i = 0; i < count; i++) {
                word |= (bytes[from + i] & 255L) << 8 * i;
            }
            yard.feed(word, count);
        }
    }

    /** Frames fed together take fewer calls. */
    void feed(Message... messages) {
        ByteArrayOutputStream all = new ByteArrayOutputStream();
        for (Message message : messages) {
            all.writeBytes(message.frame());
        }
        feed(all.toByteArray());
    }

    private int serve(Message message) {
        feed(message.frame());
        return yard.serve();
    }

    private byte[] takeReply() {
        byte[] reply = new byte[yard.size(true)];
        for (int i = 0; i < reply.length; i++) {
            reply[i] = (byte) yard.out(i);
        }
        Check.is("drop of all", yard.drop(reply.length));
        return reply;
    }

    private static int typeOf(Message message) {
        return message.frame()[4] & 255;
    }

    /** The messages are done; what the replies hold is not looked at, for that costs many calls. */
    void done(Message... messages) {
        feed(messages);
        for (Message message : messages) {
            Check.same("reply to " + hex(message.frame()), yard.serve(), typeOf(message) + 1);
        }
        Check.is("drop of all", yard.drop(yard.size(true)));
    }

    /** The message is done, and the reply is this body with the frame's own type and tag. */
    void reply(Message message, Message due) {
        expect(message, typeOf(message) + 1, due);
    }

    void error(Message message, char letter) {
        expect(message, 107, new Message().string(String.valueOf(letter)));
    }

    private void expect(Message message, int type, Message due) {
        byte[] asked = message.frame();
        byte[] whole = dueFrame(asked, type, due);
        Check.same("reply to " + hex(asked), serve(message), type);
        Check.same("reply to " + hex(asked), hex(takeReply()), hex(whole));
    }

    private static byte[] dueFrame(byte[] asked, int type, Message due) {
        int tag = asked[5] & 255 | (asked[6] & 255) << 8;
        byte[] body = due.body();
        byte[] head = Message.of(type).tag(tag).frame();
        byte[] whole = Arrays.copyOf(head, head.length + body.length);
        whole[0] = (byte) whole.length;
        System.arraycopy(body, 0, whole, head.length, body.length);
        return whole;
    }

    /** The message is answered by this error, and all is as it was before. */
    void refused(Message message, char letter) {
        Client tried = again();
        tried.error(message, letter);
        asBefore("the error " + letter + " to " + hex(message.frame()), tried);
    }

    /** The call throws this exception, and all is as it was before. */
    void refused(String what, Class<?> due, Consumer<Yard> call) {
        Client tried = again();
        Check.throwing(what, due, () -> call.accept(tried.yard));
        asBefore(what, tried);
    }

    /** The call answers false, and all is as it was before. */
    void refused(String what, Predicate<Yard> call) {
        Client tried = again();
        Check.is(what + " answers false", !call.test(tried.yard));
        asBefore(what, tried);
    }

    private void asBefore(String what, Client tried) {
        if (known == null || known.calls() != yard.calls()) {
            known = new Probe(yard.history());
        }
        known.compare(what, tried.yard.history());
    }

    /** This object and another one can't be told apart by what they answer from now on. */
    void like(String what, Client other) {
        new Probe(yard.history()).compare(what, other.yard.history());
    }

    /** Makes a file in the directory to which the names lead, by way of handle 99. */
    void make(String name, long mode, String... names) {
        done(Message.walk(1, 99, names), Message.create(99, name, mode, 0), Message.close(99));
    }

    /**
     * So many files, all but the root plain files in it with names of two letters, the last of 40
     * bn; handle 1 is at the root. A new begin closes seven handles at once, which saves calls.
     */
    static Client withFiles(int files) {
        Client made = attached();
        for (int first = 1; first < files; first += 7) {
            List<Message> batch = new ArrayList<>();
            for (int i = first; i < files && i < first + 7; i++) {
                String name = "" + (char) ('a' + i / 26) + (char) ('a' + i % 26);
                batch.add(Message.walk(1, 100 + i));
                batch.add(Message.create(100 + i, name, 7, 0));
            }
            batch.add(Message.begin(160, "9P2000"));
            made.done(batch.toArray(new Message[0]));
            made.done(Message.attach(1));
        }
        return made;
    }

    void remove(String... names) {
        done(Message.walk(1, 99, names), Message.remove(99));
    }

    void text(String text) {
        yard.clear();
        type(text);
    }

    void type(String text) {
        for (int from = 0; from < text.length(); from += 8) {
            String part = text.substring(from, Math.min(text.length(), from + 8));
            Check.is("type of " + part, yard.type(word(part), part.length()));
        }
    }

    static long word(String part) {
        long word = 0;
        for (int i = 0; i < part.length(); i++) {
            word |= (part.charAt(i) & 255L) << 8 * i;
        }
        return word;
    }

    void about(int file, int... parts) {
        for (int part = 0; part < parts.length; part++) {
            Check.same("about(" + file + ", " + part + ")", yard.about(file, part), parts[part]);
        }
    }

    void data(int file, String due) {
        for (int i = 0; i < due.length(); i++) {
            Check.same("data(" + file + ", " + i + ")", yard.data(file, i), due.charAt(i));
        }
        Check.throwing("data(" + file + ", " + due.length() + ")", IndexOutOfBoundsException.class,
                () -> yard.data(file, due.length()));
    }

    /** All files of the list to which the text's path A leads. */
    void members(int process, int... due) {
        for (int k = 0; k < due.length; k++) {
            Check.same("member(" + process + ", " + k + ")", yard.member(process, k), due[k]);
        }
        Check.throwing("member(" + process + ", " + due.length + ")",
                IndexOutOfBoundsException.class, () -> yard.member(process, due.length));
    }

    void membersOf(String path, int process, int... due) {
        text(path);
        members(process, due);
    }

    void bind(String text, int process, int how, int due) {
        text(text);
        Check.same("bind of " + text, yard.bind(process, how), due);
    }

    void unbind(String path, int process, int due) {
        text(path);
        Check.same("unbind of " + path, yard.unbind(process), due);
    }


    private static String hex(byte[] bytes) {
        StringBuilder made = new StringBuilder();
        for (byte one : bytes) {
            made.append(String.format("%02x ", one & 255));
        }
        return made.toString();
    }
}
