/** Promise 17: fork. */
public final class ForkTest {
    public static void main(String[] args) {
        refuses();
        copies();
        shares();
        sharesAmongAll();
        leavesASharedTable();
        Check.end();
    }

    /** Root 0, directories a 1, b 2, c 3. */
    private static Client tree() {
        Client client = Client.attached();
        client.make("a", Client.DIR);
        client.make("b", Client.DIR);
        client.make("c", Client.DIR);
        return client;
    }

    private static void bind(Client client, String text, int process, int due) {
        client.text(text);
        Check.same("bind of " + text, client.yard().bind(process, 1), due);
    }

    private static void refuses() {
        Client client = tree();
        bind(client, "a b", 0, 2);
        int[][] wrong = {{0, 0}, {3, 3}, {-1, 0}, {0, -1}, {4, 0}, {0, 4}, {-1, -1}, {4, 4},
            {Integer.MAX_VALUE, 0}, {0, Integer.MIN_VALUE}};
        for (int[] one : wrong) {
            Check.is("fork", !client.yard().fork(one[0], one[1], true));
            Check.is("fork", !client.yard().fork(one[0], one[1], false));
        }
        client.membersOf("b", 0, 1, 2);
        client.membersOf("b", 1, 2);
    }

    private static void copies() {
        Client client = tree();
        bind(client, "a b", 0, 2);
        bind(client, "a c", 1, 2);
        Check.is("fork", client.yard().fork(0, 1, false));
        client.membersOf("b", 1, 1, 2);
        client.membersOf("c", 1, 3);
        bind(client, "c b", 0, 3);
        client.membersOf("b", 1, 1, 2);
        bind(client, "a a", 1, 2);
        client.membersOf("a", 0, 1);
        client.text("b");
        Check.same("unbind", client.yard().unbind(1), 1);
        client.membersOf("b", 0, 3, 1, 2);
        bind(client, "a c", 0, 2);
        bind(client, "a /", 0, 2);
        bind(client, "a a", 0, 2);
        Check.is("fork of a full table", client.yard().fork(0, 2, false));
        client.membersOf("a", 2, 1, 1);
        client.membersOf("b", 2, 3, 1, 2);
        client.membersOf("c", 2, 1, 3);
        client.membersOf("/", 2, 1, 0);
    }

    private static void shares() {
        Client client = tree();
        bind(client, "a b", 0, 2);
        Check.is("fork", client.yard().fork(0, 3, true));
        Check.is("fork", client.yard().fork(0, 3, true));
        bind(client, "c b", 3, 3);
        client.membersOf("b", 0, 3, 1, 2);
        bind(client, "a c", 0, 2);
        client.membersOf("c", 3, 1, 3);
        client.membersOf("c", 1, 3);
        client.text("b");
        Check.same("unbind", client.yard().unbind(0), 1);
        client.membersOf("b", 3, 2);
    }

    private static void sharesAmongAll() {
        Client client = tree();
        Check.is("fork", client.yard().fork(2, 0, true));
        Check.is("fork", client.yard().fork(0, 1, true));
        Check.is("fork", client.yard().fork(1, 3, true));
        bind(client, "a b", 3, 2);
        for (int process = 0; process < 4; process++) {
            client.membersOf("b", process, 1, 2);
        }
        Check.is("fork", client.yard().fork(2, 0, false));
        Check.is("fork", client.yard().fork(2, 1, false));
        Check.is("fork", client.yard().fork(1, 3, false));
        for (int process = 0; process < 4; process++) {
            client.text("b");
            Check.same("unbind", client.yard().unbind(process), 0);
            client.membersOf("b", process, 2);
        }
    }

    private static void leavesASharedTable() {
        Client client = tree();
        bind(client, "a b", 0, 2);
        bind(client, "c b", 2, 2);
        Check.is("fork", client.yard().fork(0, 1, true));
        Check.is("fork", client.yard().fork(0, 1, false));
        client.text("b");
        Check.same("unbind", client.yard().unbind(0), 0);
        client.membersOf("b", 1, 1, 2);
        Check.is("fork", client.yard().fork(2, 1, true));
        client.membersOf("b", 1, 3, 2);
        client.membersOf("b", 0, 2);
        Check.is("fork", client.yard().fork(0, 2, false));
        client.membersOf("b", 1, 3, 2);
        client.membersOf("b", 2, 2);
        client.membersOf("b", 3, 2);
    }
}
