import java.io.IOException;
import java.nio.file.Files;
import java.nio.file.Path;

/** README's examples, line by line, and what they say of themselves. */
public final class ReadmeTest {
    private static final Check check = new Check();

    static void promise4AndPromise8OfTheExamples() {
        PurseWorld world = new PurseWorld();
        int alice = world.purse(100);
        int bob = world.purse(0);
        int first = world.begin(alice, bob, 30);   // sends PAY to alice and EARN to bob
        sent(world, first, 0, alice);
        sent(world, first + 1, 1, bob);
        world.deliver(first);                      // alice is PAYER
        state(world, alice, 100, 1);
        world.deliver(first + 1);                  // bob is PAYEE and sends ASK
        state(world, bob, 0, 2);
        sent(world, first + 2, 2, alice);
        world.deliver(first + 2);                  // alice has 70, is PAID and sends VALUE
        state(world, alice, 70, 3);
        sent(world, first + 3, 3, bob);
        world.deliver(first + 3);                  // bob has 30 and sends THANKS
        state(world, bob, 30, 0);
        sent(world, first + 4, 4, alice);
        world.deliver(first + 4);                  // alice is idle again
        state(world, alice, 70, 0);
        theValueIsLost(world, alice, bob);
    }

    private static void theValueIsLost(PurseWorld world, int alice, int bob) {
        int lost = world.begin(alice, bob, 20);
        world.deliver(lost);
        world.deliver(lost + 1);
        world.deliver(lost + 2);                   // alice has 50; VALUE never comes to bob
        state(world, alice, 50, 3);
        world.abort(alice);                        // the transfer is in alice's log
        check.due("alice's log", world.told(alice, 3), 1);
        world.abort(bob);                          // and in bob's
        check.due("bob's log", world.told(bob, 3), 1);
        int record = world.messages();
        world.readLog(alice);                      // sends a RECORD for each transfer of the log
        sent(world, record, 5, PurseWorld.NONE);
        world.readLog(bob);
        sent(world, record + 1, 5, PurseWorld.NONE);
        world.deliver(record);                     // the archive has it of alice: entry 0
        check.due("entry(0, 5)", world.entry(0, 5), alice);
        world.deliver(record + 1);                 // and of bob: entry 1
        check.due("entry(1, 5)", world.entry(1, 5), bob);
        int clear = world.authorise(alice);        // sends CLEAR to alice
        sent(world, clear, 6, alice);
        world.deliver(clear);                      // her log is empty
        check.due("alice's log", world.told(alice, 3), 0);
        check.due("pending()", world.pending(), 20L);
        world.refund(0);                           // answers 70: alice has her money again
        state(world, alice, 70, 0);
        check.due("pending()", world.pending(), 0L);
    }

    private static void sent(PurseWorld world, int i, int kind, int to) {
        check.due("kind of message " + i, world.message(i, 5), kind);
        check.due("to whom message " + i + " is", world.message(i, 6), to);
    }

    private static void state(PurseWorld world, int purse, int balance, int state) {
        check.due("balance of " + purse, world.told(purse, 0), balance);
        check.due("state of " + purse, world.told(purse, 2), state);
    }

    /** So that README cannot say anything else than what is run here. */
    static void promisesOfReadmeStandHere() throws IOException {
        String here = Files.readString(Path.of("src/test/java/ReadmeTest.java"));
        boolean example = false;
        int lines = 0;
        for (String line : Files.readAllLines(Path.of("README.md"))) {
            if (line.startsWith("```")) {
                example = line.equals("```java");
            } else if (example) {
                lines++;
                check.due("'" + line + "' stands here", here.contains("        " + line + "\n"), true);
            }
        }
        check.due("README has examples", lines > 0, true);
    }

    public static void main(String[] args) {
        check.runPromises(ReadmeTest.class);
    }
}
