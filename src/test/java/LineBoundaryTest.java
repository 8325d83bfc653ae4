import java.util.Arrays;

/** The boundary cases of "Terms" that are about texts, the lines that ask for them, and their answers. */
public final class LineBoundaryTest {
    private static final int ACK = Peer.ACK;

    public static void main(String[] args) {
        endOfALine();
        sixAreNoLine();
        sevenAreALine();
        tenBehindSeven();
        linesInParts();
        linesOfAFullIn();
        roomForTheShortest();
        roomForTheLongest();
        waitingLines();
        waitingUntilThereIsRoom();
        firstOctet();
        letters();
        numberOfLetters();
        lastOctet();
        noSuchName();
        emptyNames();
        wholeNames();
        leastNumber();
        bodies();
        checks();
        checksModulo();
        spoiledBack();
        linesAnswered();
        Check.end();
    }

    /** What a line is answered on a new stream: the data of all frames that were sent for it. */
    private static int[] answerTo(Peer p, int... line) {
        int frames = p.segment(p.host.stream(0, 3), p.host.stream(0, 5), ACK, 255, line);
        int[] answer = new int[0];
        for (int k = frames - 1; k >= 0; k--) {
            int[] payload = p.sentPayload(k);
            int length = answer.length;
            answer = Arrays.copyOf(answer, length + payload.length - 5);
            System.arraycopy(payload, 5, answer, length, payload.length - 5);
        }
        return answer;
    }

    private static int[] answerTo(Peer p, String line) {
        return answerTo(p, Peer.octets(line));
    }

    private static Peer withText(String name, String body) {
        Peer p = Peer.open(255);
        p.store(0, name, body);
        return p;
    }

    private static void endOfALine() {
        Check.sentence("IN has a line up to 10 of at most 7 OCTETS");
        for (int length = 1; length <= 7; length++) {
            Peer p = Peer.open(255);
            Check.row("10 as octet " + length, answerTo(p, "x".repeat(length - 1) + "\nyy"), 48, 10);
            Check.due("IN", p.host.stream(0, 7), 2);
            Check.due("lines", p.host.count(6), 1);
        }
    }

    private static void sixAreNoLine() {
        Check.sentence("or more than 6 OCTETS and no 10 among the first 7: 6 are no line");
        for (int length = 0; length <= 6; length++) {
            Peer p = Peer.open(255);
            Check.row(length + " octets", answerTo(p, "x".repeat(length)));
            Check.due("IN", p.host.stream(0, 7), length);
            Check.due("lines", p.host.count(6), 0);
        }
    }

    private static void sevenAreALine() {
        Check.sentence("more than 6 OCTETS and no 10 among the first 7 (then these 7 are the line)");
        for (int length = 7; length <= 13; length++) {
            Peer p = Peer.open(255);
            Check.row(length + " octets", answerTo(p, "x".repeat(length)), 48, 10);
            Check.due("IN", p.host.stream(0, 7), length - 7);
        }
        Peer p = Peer.open(255);
        Check.row("14 octets", answerTo(p, "x".repeat(14)), 48, 10, 48, 10);
        Check.due("lines", p.host.count(6), 2);
    }

    private static void tenBehindSeven() {
        Check.sentence("no 10 among the first 7: it is octet 8");
        Peer p = withText("a", "A");
        Check.row("7 octets and 10", answerTo(p, "xxxxxxx\n"), 48, 10, 48, 10);
        Check.row("7 octets and a line", answerTo(p, "xxxxxxxGa\n"), 48, 10, 50, 'A', 10);
        Check.row("6 octets, 10 and a line", answerTo(p, "xxxxxx\nGa\n"), 48, 10, 50, 'A', 10);
        Check.row("a line, and 7 octets behind it", answerTo(p, "Ga\nGaaaaaa"), 50, 'A', 10, 48, 10);
    }

    private static void linesInParts() {
        Check.sentence("a line up to 10: it may come in parts");
        Peer p = withText("abcd", "A");
        String line = "Gabcd";
        for (int i = 0; i < line.length(); i++) {
            Check.row("octet " + i, answerTo(p, line.charAt(i)));
            Check.due("IN", p.host.stream(0, 7), i + 1);
        }
        Check.row("its 10", answerTo(p, 10), 50, 'A', 10);
        Check.due("IN", p.host.stream(0, 7), 0);
    }

    private static void linesOfAFullIn() {
        Check.sentence("IN (at most 16 OCTETS not read yet)");
        Peer p = Peer.open(0);
        Check.due("16 lines", p.text(51, 1, ACK, 0, "\n".repeat(16)), 1);
        Check.due("IN", p.host.stream(0, 7), 0);
        Check.due("OUT", p.host.stream(0, 6), 32);
        Check.due("lines", p.host.count(6), 16);
        Check.due("17 lines", p.text(67, 1, ACK, 0, "\n".repeat(17)), 1);
        Check.due("NEXT", p.host.stream(0, 3), 83);
        Check.due("OUT", p.host.stream(0, 6), 64);
        Check.due("lines", p.host.count(6), 32);
    }

    /** An open stream of window 0 with so many octets in OUT (2 to 64) and nothing in IN. */
    private static Peer withOut(int octets) {
        Peer p = Peer.open(0);
        p.store(0, "a", "A");
        String lines = octets % 2 == 0 ? "\n".repeat(octets / 2) : "Ga\n" + "\n".repeat((octets - 3) / 2);
        for (int from = 0; from < lines.length(); from += 16) {
            p.text(51 + from, 1, ACK, 0, lines.substring(from, Math.min(from + 16, lines.length())));
        }
        Check.due("OUT", p.host.stream(0, 6), octets);
        Check.due("IN", p.host.stream(0, 7), 0);
        return p;
    }

    private static void roomForTheShortest() {
        Check.sentence("and its ANSWER has room in OUT (a row of at most 64 OCTETS): an ANSWER of 2");
        for (int out = 61; out <= 63; out++) {
            Peer p = withOut(out);
            p.text(p.host.stream(0, 3), 1, ACK, 0, "\n");
            boolean fits = out + 2 <= 64;
            Check.due("OUT of " + out, p.host.stream(0, 6), fits ? out + 2 : out);
            Check.due("IN", p.host.stream(0, 7), fits ? 0 : 1);
        }
        Peer p = Peer.full();
        p.text(83, 1, ACK, 0, "\n");
        Check.due("OUT of 64", p.host.stream(0, 6), 64);
        Check.due("IN", p.host.stream(0, 7), 1);
    }

    private static void roomForTheLongest() {
        Check.sentence("and its ANSWER has room in OUT (a row of at most 64 OCTETS): an ANSWER of 18");
        for (int out = 45; out <= 48; out++) {
            Peer p = withOut(out);
            p.store(1, "b", "0123456789abcdef");
            p.text(p.host.stream(0, 3), 1, ACK, 0, "Gb\n");
            boolean fits = out + 18 <= 64;
            Check.due("OUT of " + out, p.host.stream(0, 6), fits ? out + 18 : out);
            Check.due("IN", p.host.stream(0, 7), fits ? 0 : 3);
        }
    }

    private static void waitingLines() {
        Check.sentence("as long as its ANSWER has room: those behind it wait too");
        Peer p = withOut(62);
        int lines = p.host.count(6);
        p.text(p.host.stream(0, 3), 1, ACK, 0, "Ga\n\n");
        Check.due("OUT", p.host.stream(0, 6), 62);
        Check.due("IN", p.host.stream(0, 7), 4);
        Check.due("lines", p.host.count(6), lines);
        p.host.erase(0);
        Check.due("when its answer is shorter", p.segment(p.host.stream(0, 3), 1, ACK, 0), 0);
        Check.due("OUT", p.host.stream(0, 6), 64);
        Check.due("IN", p.host.stream(0, 7), 1);
        Check.due("lines", p.host.count(6), lines + 1);
    }

    private static void waitingUntilThereIsRoom() {
        Check.sentence("its ANSWER has room in OUT: an ack makes room");
        Peer p = Peer.full();
        p.text(83, 1, ACK, 0, "\n\n");
        Check.due("a window of 4", p.segment(85, 1, ACK, 4), 1);
        Check.due("IN", p.host.stream(0, 7), 2);
        p.segment(85, 2, ACK, 0);
        Check.due("room for 1", p.host.stream(0, 7), 2);
        Check.due("OUT", p.host.stream(0, 6), 63);
        p.segment(85, 3, ACK, 0);
        Check.due("room for 2", p.host.stream(0, 7), 1);
        Check.due("OUT", p.host.stream(0, 6), 64);
    }

    private static void firstOctet() {
        Check.sentence("A line is 71, 1..4 letters, 10: 71");
        for (int v = 0; v <= 255; v++) {
            int[] answer = answerTo(Peer.open(255), v, 'a', 10);
            if (v == 10) {
                Check.row("an end first", answer, 48, 10, 48, 10);
            } else {
                Check.row(v + " first", answer, v == 71 ? 52 : 48, 10);
            }
        }
    }

    private static void letters() {
        Check.sentence("A line is 71, 1..4 letters, 10: letters (97..122)");
        for (int v = 0; v <= 255; v++) {
            int[] answer = answerTo(Peer.open(255), 71, 'a', 'b', v, 10);
            if (v == 10) {
                Check.row("an end as a letter", answer, 52, 10, 48, 10);
            } else {
                Check.row(v + " as a letter", answer, v >= 97 && v <= 122 ? 52 : 48, 10);
            }
        }
        for (int place = 1; place <= 4; place++) {
            int[] line = {71, 'a', 'a', 'a', 'a', 10};
            line[place] = 96;
            Check.row("96 at " + place, answerTo(Peer.open(255), line), 48, 10);
            line[place] = 123;
            Check.row("123 at " + place, answerTo(Peer.open(255), line), 48, 10);
        }
    }

    private static void numberOfLetters() {
        Check.sentence("A line is 71, 1..4 letters, 10: 1..4");
        int[] answers = {48, 52, 52, 52, 52, 48};
        for (int n = 0; n <= 5; n++) {
            Check.row(n + " letters", answerTo(Peer.open(255), "G" + "z".repeat(n) + "\n"), answers[n], 10);
        }
    }

    private static void lastOctet() {
        Check.sentence("A line is 71, 1..4 letters, 10: 10");
        Peer p = withText("aaaa", "A");
        Check.row("7 octets without it", answerTo(p, "Gaaaaaa"), 48, 10);
        Check.row("6 octets with it", answerTo(p, "Gaaaa\n"), 50, 'A', 10);
    }

    private static void noSuchName() {
        Check.sentence("if no TEXT has that NAME: 52, 10");
        Peer p = withText("ab", "A");
        p.store(5, "z", "Z");
        Check.row("another", answerTo(p, "Gac\n"), 52, 10);
        Check.row("another first letter", answerTo(p, "Gbb\n"), 52, 10);
        Check.row("text 5", answerTo(p, "Gz\n"), 50, 'Z', 10);
        p.host.erase(5);
        Check.row("text 5 erased", answerTo(p, "Gz\n"), 52, 10);
    }

    private static void emptyNames() {
        Check.sentence("if no TEXT has that NAME: an empty one is none");
        Peer p = withText("", "A");
        Check.row("a name", answerTo(p, "Ga\n"), 52, 10);
        Check.row("no name", answerTo(p, "G\n"), 48, 10);
        p.store(1, "a", "");
        p.host.erase(1);
        Check.row("a letter that was erased", answerTo(p, "Ga\n"), 52, 10);
    }

    private static void wholeNames() {
        Check.sentence("has that NAME: all of it");
        Peer p = withText("abc", "A");
        Check.row("a letter less", answerTo(p, "Gab\n"), 52, 10);
        Check.row("a letter more", answerTo(p, "Gabcd\n"), 52, 10);
        Check.row("all of it", answerTo(p, "Gabc\n"), 50, 'A', 10);
        p.host.name(0, 'd');
        Check.row("the name with a letter more", answerTo(p, "Gabc\n"), 52, 10);
        Check.row("all of it", answerTo(p, "Gabcd\n"), 50, 'A', 10);
    }

    private static void leastNumber() {
        Check.sentence("(the least number counts)");
        Peer p = Peer.open(255);
        for (int t = 5; t >= 0; t--) {
            p.store(t, "a", "" + t);
        }
        for (int t = 0; t <= 5; t++) {
            Check.row("text " + t, answerTo(p, "Ga\n"), 50, '0' + t, 10);
            p.host.erase(t);
        }
        Check.row("none is left", answerTo(p, "Ga\n"), 52, 10);
    }

    private static void bodies() {
        Check.sentence("else 50, the BODY (at most 16 OCTETS), 10");
        for (int size = 0; size <= 16; size++) {
            String body = "0123456789abcdef".substring(0, size);
            Peer p = withText("a", body);
            answerTo(p, "Ga\n");
            Check.due("OUT for a body of " + size, p.host.stream(0, 6), size + 2);
        }
        Peer p = withText("a", "0123456789abcde");
        p.host.body(0, 10);
        Check.due("two frames of 8", p.text(51, 1, ACK, 255, "Ga\n"), 2);
        Check.row("the first", p.sentPayload(1), 20, 1, 54, ACK, 16, 50, '0', '1', '2', '3', '4', '5', '6');
        Check.row("the second", p.sentPayload(0), 20, 9, 54, ACK, 16, '7', '8', '9', 'a', 'b', 'c', 'd', 'e');
        p.segment(54, 17, ACK, 255);
        Check.row("the rest", p.sentPayload(0), 20, 17, 54, ACK, 16, 10, 10);
    }

    private static void checks() {
        Check.sentence("if the sum of its BODY is not its CHECK: 53, 10");
        Peer p = withText("a", "AB");
        p.host.spoil(0, 0, 'A' + 1);
        Check.row("one more", answerTo(p, "Ga\n"), 53, 10);
        p.host.spoil(0, 0, 'A' - 1);
        Check.row("one less", answerTo(p, "Ga\n"), 53, 10);
        p.host.spoil(0, 0, 'A');
        Check.row("as it was", answerTo(p, "Ga\n"), 50, 'A', 'B', 10);
        p.host.spoil(0, 0, 'B');
        p.host.spoil(0, 1, 'A');
        Check.row("the same sum", answerTo(p, "Ga\n"), 50, 'B', 'A', 10);
        p.store(1, "a", "sound");
        p.host.spoil(0, 1, 'C');
        Check.row("a sound one behind it", answerTo(p, "Ga\n"), 53, 10);
    }

    private static void checksModulo() {
        Check.sentence("a CHECK: the sum of what was appended to it, modulo 256");
        int[][] bodies = {{255}, {255, 1}, {128, 128}, {255, 255, 2}, {255, 255, 255, 255}};
        for (int[] body : bodies) {
            Peer p = withText("a", "");
            for (int v : body) {
                p.host.body(0, v);
            }
            Check.due("its answer", answerTo(p, "Ga\n").length, body.length + 2);
            p.host.spoil(0, 0, body[0] - 1);
            Check.row("one less", answerTo(p, "Ga\n"), 53, 10);
        }
        Peer p = withText("a", "");
        p.host.body(0, 0);
        p.host.body(0, 1);
        p.host.spoil(0, 0, 255);
        Check.row("a sum of 0 where 1 is due", answerTo(p, "Ga\n"), 53, 10);
        p.host.spoil(0, 1, 2);
        Check.row("a sum of 257", answerTo(p, "Ga\n"), 50, 255, 2, 10);
    }

    private static void spoiledBack() {
        Check.sentence("OCTET i of the BODY of TEXT t becomes c, its CHECK stays");
        Peer p = withText("a", "A");
        p.host.spoil(0, 0, 'B');
        p.host.body(0, 'C');
        Check.row("appended to a spoiled one", answerTo(p, "Ga\n"), 53, 10);
        p.host.spoil(0, 1, 'B');
        Check.row("the sum that is due", answerTo(p, "Ga\n"), 50, 'B', 'B', 10);
        p.host.erase(0);
        p.store(0, "a", "B");
        Check.row("erased and stored anew", answerTo(p, "Ga\n"), 50, 'B', 10);
    }

    private static void linesAnswered() {
        Check.sentence("count: 6: lines answered");
        Peer p = withText("a", "A");
        answerTo(p, "Ga\nGb\nG\n");
        Check.due("three lines", p.host.count(6), 3);
        answerTo(p, "xxxxxxx");
        Check.due("one of 7", p.host.count(6), 4);
        answerTo(p, "Ga");
        Check.due("a part of one", p.host.count(6), 4);
        answerTo(p, "\n");
        Check.due("the rest of it", p.host.count(6), 5);
    }
}
