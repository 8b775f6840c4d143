import java.util.NoSuchElementException;

/** Promise 1: a new object. */
public final class NewObjectTest {
    public static void main(String[] args) {
        Client client = new Client();
        Yard yard = client.yard();
        Check.same("files", yard.files(), 1);
        Check.same("handles", yard.handles(), 0);
        Check.same("size of IN", yard.size(false), 0);
        Check.same("size of OUT", yard.size(true), 0);
        client.about(0, 0, 0, 0, 15, 0);
        Check.throwing("data", IndexOutOfBoundsException.class, () -> yard.data(0, 0));
        Check.throwing("serve", NoSuchElementException.class, yard::serve);
        for (int process = 0; process < 4; process++) {
            Check.same("look", yard.look(process), 0);
            client.members(process, 0);
            int asked = process;
            Check.throwing("unbind", NoSuchElementException.class, () -> yard.unbind(asked));
        }
        client.error(Message.attach(1), 'v');
        Client second = Client.attached();
        second.make("a", 7);
        Check.same("files of another object", yard.files(), 1);
        Check.end();
    }
}
