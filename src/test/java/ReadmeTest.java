import java.io.IOException;
import java.nio.file.Files;
import java.nio.file.Path;
import java.util.List;

/** What README.md says of the use of the class is so. */
public final class ReadmeTest {
    public static void main(String[] args) {
        Due.cases(ReadmeTest.class);
    }

    static void exampleAnswersWhatItsCommentsSay() {
        RouteHouse house = new RouteHouse();
        house.port(0, 0x0a000001, 1500);           // port 0 is 10.0.0.1
        house.port(1, 0x0a000101, 576);            // port 1 is 10.0.1.1, for packets of 576 bytes at most
        house.route(0x0a090000, 16, 1, 0);         // 10.9/16 goes out at port 1, straight

        // A bare header from 10.0.0.9 to 10.9.9.9, of protocol 17 and with 64 hops; sum() writes its sum.
        house.feed(0x45000014, 0x00010000, 0x40110000, 0x0a000009, 0x0a090909);
        house.sum(5);
        int sentOn = house.receive(0);             // 25: sent on
        int port = house.sent(0, 1);               // 1: at this port
        int hops = house.out(0, 8);                // 63: byte 8 of packet 0 of the out

        // Two bytes of data to the router itself: 40 bytes are fed, and the tape keeps 22 of them.
        house.feed(0x45000016, 0x00020000, 0x40110000, 0x0a000009, 0x0a000001);
        house.feed(0x61620000, 0, 0, 0, 0);
        house.end(22);
        house.sum(5);
        int delivered = house.receive(0);          // 13: delivered
        int second = house.data(1);                // 0x62

        // To 11.1.1.1 there is no route: an error goes back.
        house.feed(0x45000014, 0x00030000, 0x40110000, 0x0a000009, 0x0b010101);
        house.sum(5);
        int lost = house.receive(0);               // 22: no route
        int type = house.out(0, 20);               // 3: the error's type, behind its header of 20 bytes
        int tokens = house.about(3);               // 5: of six

        Due.is("sentOn", sentOn, 25);
        Due.is("port", port, 1);
        Due.is("hops", hops, 63);
        Due.is("delivered", delivered, 13);
        Due.is("second", second, 0x62);
        Due.is("lost", lost, 22);
        Due.is("type", type, 3);
        Due.is("tokens", tokens, 5);
    }

    static void exampleIsTheSameInBothPlaces() {
        String readme = text("README.md");
        int from = readme.indexOf("```java\n") + 8;
        String example = readme.substring(from, readme.indexOf("```", from));
        List<String> here = text("src/test/java/ReadmeTest.java").lines().map(String::strip).toList();
        for (String line : example.split("\n")) {
            Due.is("the test has the line " + line, here.contains(line.strip()), true);
        }
    }

    static void eachCallOfTheFaceIsInTheTable() {
        String readme = text("README.md");
        for (java.lang.reflect.Method method : RouteHouse.class.getMethods()) {
            if (method.getDeclaringClass() == RouteHouse.class) {
                Due.is(method.getName(), readme.contains("\n| `" + method.getName() + "("), true);
            }
        }
    }

    static void eachTestAndHelperIsTold() throws IOException {
        String readme = text("README.md");
        try (var files = Files.list(Path.of("src/test/java"))) {
            for (Path file : files.toList()) {
                String name = file.getFileName().toString().replace(".java", "");
                String told = name.startsWith("Promise11") ? name.replaceAll("Promise11|Test", "") : name;
                boolean isOneOfTheRow = name.matches("Promise(0[2-9]|1[0-5])\\w+Test") && told.equals(name);
                Due.is(name + " is told", isOneOfTheRow || readme.contains("`" + told + "`"), true);
            }
        }
    }

    private static String text(String file) {
        try {
            return Files.readString(Path.of(file));
        } catch (IOException e) {
            throw new IllegalStateException(e);
        }
    }
}
