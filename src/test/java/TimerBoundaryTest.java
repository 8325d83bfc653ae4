/** The boundary cases of "Terms" and promise 14 that are about ticks, timers and what is sent anew. */
public final class TimerBoundaryTest {
    private static final int FIN = Peer.FIN, SYN = Peer.SYN, RESET = Peer.RESET, ACK = Peer.ACK;
    private static final int[] NONE = new int[12];
    private static final int[] WAITS = {4, 8, 16, 32};

    public static void main(String[] args) {
        waitsOfOpening();
        waitsOfData();
        waitsOfLast();
        resetIsSent();
        resetGoesRound();
        freeAfterReset();
        nothingOnTheWay();
        timerOfNothing();
        ackBeforeTheTimer();
        ackAfterEachTry();
        ackThatDoesNotCount();
        moreOnTheWay();
        nothingElseOnTheWay();
        ackAlone();
        synAnew();
        paceAndSent();
        oldAcks();
        lastIsClosingAgain();
        finAnewBehindOut();
        finAnewHeldBack();
        windowOfNone();
        windowOfNoneInLast();
        triesAtAWindowOfNone();
        byNumbers();
        manyTicksAtOnce();
        assembliesBesideTimers();
        resetToUnknown();
        Check.end();
    }

    private static void waits(Peer p, int frames) {
        for (int tries = 0; tries < 3; tries++) {
            Check.due("TRIES", p.host.stream(0, 10), tries);
            for (int t = 1; t < WAITS[tries]; t++) {
                Check.due("tick " + t + " with TRIES " + tries, p.host.tick(1), 0);
                Check.due("the TIMER", p.host.stream(0, 11), t);
            }
            Check.due("tick " + WAITS[tries] + " with TRIES " + tries, p.host.tick(1), frames);
            Check.due("the TIMER begins anew", p.host.stream(0, 11), 0);
            Check.due("times that a TIMER sent anew", p.host.count(8), tries + 1);
        }
        Check.due("TRIES", p.host.stream(0, 10), 3);
        Check.due("31 ticks", p.host.tick(31), 0);
        Check.due("the TIMER", p.host.stream(0, 11), 31);
        Check.due("tick 32", p.host.tick(1), 1);
        Check.due("RESET", p.host.sent(0, 12), RESET);
        Check.row("gone", p.streamRow(0), NONE);
        Check.due("times that a TIMER sent anew", p.host.count(8), 3);
    }

    private static void waitsOfOpening() {
        Check.sentence("the TIMER is at 4 TICKS (8, 16, 32 with TRIES 1, 2, 3): OPENING");
        Peer p = Peer.known();
        p.segment(50, 0, SYN, 9);
        waits(p, 1);
    }

    private static void waitsOfData() {
        Check.sentence("the TIMER is at 4 TICKS (8, 16, 32 with TRIES 1, 2, 3): OPEN");
        Peer p = Peer.open(9);
        p.text(51, 1, ACK, 9, "\n");
        waits(p, 1);
    }

    private static void waitsOfLast() {
        Check.sentence("the TIMER is at 4 TICKS (8, 16, 32 with TRIES 1, 2, 3): LAST");
        Peer p = Peer.open(9);
        p.text(51, 1, ACK | FIN, 9, "\n");
        waits(p, 2);
    }

    private static void resetIsSent() {
        Check.sentence("with TRIES 3 RESET is sent (number SENT), and it is gone; RESETS have ack and window 0");
        Peer p = Peer.open(9);
        p.text(51, 1, ACK, 9, "\nGa");
        p.host.tick(28);
        Check.row("TRIES 3", p.streamRow(0), 2, 3, 20, 54, 1, 3, 2, 2, 9, 1, 3, 0);
        Check.due("32 more", p.host.tick(32), 1);
        Check.row("RESET", p.sentPayload(0), 20, 3, 0, RESET, 0);
        Check.row("gone", p.streamRow(0), NONE);
        Check.due("nothing more", p.host.tick(40), 0);
    }

    private static void resetGoesRound() {
        Check.sentence("RESET is sent (number SENT) (All numbers are modulo 256)");
        Peer p = Peer.known();
        p.host.tick(40);
        p.host.tick(23);
        p.segment(50, 0, SYN, 9);
        p.text(51, 253, ACK, 9, "\n\n");
        Check.due("SENT", p.host.stream(0, 5), 1);
        p.host.tick(28);
        Check.due("SENT anew", p.host.stream(0, 5), 1);
        p.host.tick(32);
        Check.row("RESET", p.sentPayload(0), 20, 1, 0, RESET, 0);
    }

    private static void freeAfterReset() {
        Check.sentence("and it is gone: there is one free");
        Peer p = Peer.known();
        for (int port = 0; port < 3; port++) {
            p.port = port;
            p.segment(50, 0, SYN, 9);
        }
        Check.due("3 times 3", p.host.tick(28), 9);
        Check.due("3 RESETS", p.host.tick(32), 3);
        p.port = 9;
        Check.due("a stream that is gone is a stranger", p.segment(51, 7, ACK, 9), 1);
        Check.row("RESET", p.sentPayload(0), 9, 7, 0, RESET, 0);
        Check.due("SYN", p.segment(50, 0, SYN, 9), 1);
        Check.row("begun anew", p.streamRow(0), 1, 3, 9, 51, 240, 241, 0, 0, 9, 1, 0, 0);
    }

    private static void nothingOnTheWay() {
        Check.sentence("If something is on the way");
        Peer p = Peer.waiting(18);
        Check.due("OUT waits, and nothing is on the way", p.host.tick(40), 0);
        Check.row("stream", p.streamRow(0), 2, 3, 20, 54, 1, 1, 18, 0, 0, 2, 0, 0);
        p.segment(54, 1, ACK | FIN, 0);
        Check.due("CLOSING, and nothing is on the way", p.host.tick(40), 0);
        Check.row("stream", p.streamRow(0), 3, 3, 20, 55, 1, 1, 18, 0, 0, 2, 0, 0);
        Check.due("times that a TIMER sent anew", p.host.count(8), 0);
    }

    private static void timerOfNothing() {
        Check.sentence("the TIMER (TICKS since it began, 0 if nothing is on the way)");
        Peer p = Peer.open(9);
        p.text(51, 1, ACK, 9, "\n");
        p.host.tick(3);
        Check.due("on the way", p.host.stream(0, 11), 3);
        p.segment(52, 3, ACK, 9);
        Check.due("acknowledged", p.host.stream(0, 11), 0);
        p.host.tick(3);
        Check.due("ticks later", p.host.stream(0, 11), 0);
    }

    private static void ackBeforeTheTimer() {
        Check.sentence("The TIMER begins anew at an ack that counts");
        Peer p = Peer.waiting(18);
        p.segment(54, 1, ACK, 16);
        for (int i = 1; i <= 5; i++) {
            Check.due("3 ticks", p.host.tick(3), 0);
            p.segment(54, 1 + i, ACK, 0);
            Check.due("the TIMER after ack " + (1 + i), p.host.stream(0, 11), 0);
        }
        Check.due("3 ticks", p.host.tick(3), 0);
        Check.due("times that a TIMER sent anew", p.host.count(8), 0);
        p.host.tick(1);
        Check.due("the fourth", p.host.count(8), 1);
    }

    private static void ackAfterEachTry() {
        Check.sentence("an ack that counts: TRIES 0");
        int[] ticks = {4, 12, 28};
        for (int tries = 1; tries <= 3; tries++) {
            Peer p = Peer.open(9);
            p.text(51, 1, ACK, 9, "\n");
            p.host.tick(ticks[tries - 1]);
            Check.due("TRIES", p.host.stream(0, 10), tries);
            p.segment(52, 2, ACK, 9);
            Check.row("stream", p.streamRow(0), 2, 3, 20, 52, 2, 3, 1, 0, 9, 2, 0, 0);
            Check.due("3 ticks", p.host.tick(3), 0);
            Check.due("the fourth", p.host.tick(1), 1);
            Check.due("TRIES", p.host.stream(0, 10), 1);
        }
    }

    private static void ackThatDoesNotCount() {
        Check.sentence("at an ack that counts: others leave TIMER and TRIES");
        Peer p = Peer.open(9);
        p.text(51, 1, ACK, 9, "\n");
        p.host.tick(7);
        int[] acks = {0, 1, 4, 128, 255};
        for (int ack : acks) {
            p.segment(52, ack, ACK, 9);
            Check.row("after ack " + ack, p.streamRow(0), 2, 3, 20, 52, 1, 3, 2, 0, 9, 1, 1, 3);
        }
    }

    private static void moreOnTheWay() {
        Check.sentence("and nothing else is on the way (FIRST was SENT): something is");
        Peer p = Peer.open(99);
        p.text(51, 1, ACK, 99, "\n");
        p.host.tick(3);
        Check.due("another line", p.text(52, 1, ACK, 99, "\n"), 1);
        Check.due("the TIMER", p.host.stream(0, 11), 3);
        Check.due("FIN", p.segment(53, 1, ACK | FIN, 99), 1);
        Check.due("the TIMER", p.host.stream(0, 11), 3);
        Check.due("the fourth tick", p.host.tick(1), 2);
    }

    private static void nothingElseOnTheWay() {
        Check.sentence("The TIMER begins anew when something is sent that takes a number");
        Peer p = Peer.open(99);
        p.host.tick(3);
        p.text(51, 1, ACK, 99, "\n");
        Check.due("the TIMER of data", p.host.stream(0, 11), 0);
        Check.due("3 ticks", p.host.tick(3), 0);
        p.segment(52, 3, ACK, 99);
        p.host.tick(3);
        p.segment(52, 3, ACK | FIN, 99);
        Check.due("the TIMER of FIN", p.host.stream(0, 11), 0);
        Check.due("3 ticks", p.host.tick(3), 0);
        Check.due("the fourth", p.host.tick(1), 1);
    }

    private static void ackAlone() {
        Check.sentence("something is sent that takes a number: an ACK alone takes none");
        Peer p = Peer.open(99);
        p.text(51, 1, ACK, 99, "Ga");
        Check.row("nothing is on the way", p.streamRow(0), 2, 3, 20, 53, 1, 1, 0, 2, 99, 2, 0, 0);
        Check.due("ticks", p.host.tick(40), 0);
        p.text(53, 1, ACK, 99, "\n");
        p.host.tick(3);
        Check.due("ACK", p.text(53, 1, ACK, 99, "x"), 1);
        Check.due("ACK for SYN", p.segment(50, 1, SYN, 99), 1);
        Check.due("the TIMER goes on", p.host.stream(0, 11), 3);
    }

    private static void synAnew() {
        Check.sentence("SYN + ACK if it is OPENING (SENT one more)");
        Peer p = Peer.known();
        p.host.tick(1);
        p.segment(50, 0, SYN, 9);
        for (int tries = 1; tries <= 3; tries++) {
            p.host.tick(WAITS[tries - 1]);
            Check.row("SYN + ACK", p.sentPayload(0), 20, 4, 51, SYN | ACK, 16);
            Check.row("stream", p.streamRow(0), 1, 3, 20, 51, 4, 5, 0, 0, 9, 1, tries, 0);
        }
        p.segment(51, 5, ACK, 9);
        Check.row("acknowledged at last", p.streamRow(0), 2, 3, 20, 51, 5, 5, 0, 0, 9, 2, 0, 0);
    }

    private static void paceAndSent() {
        Check.sentence("else TRIES is one more, PACE 1, the TIMER begins anew, SENT is FIRST, and all is sent anew from there");
        Peer p = Peer.waiting(18);
        p.segment(54, 1, ACK, 255);
        p.segment(54, 9, ACK, 255);
        Check.row("stream", p.streamRow(0), 2, 3, 20, 54, 9, 19, 10, 0, 255, 3, 0, 0);
        Check.due("4 ticks", p.host.tick(4), 1);
        Check.row("8 of 10", p.sentPayload(0), 20, 9, 54, ACK, 16, '7', '8', '9', 'a', 'b', 'c', 'd', 'e');
        Check.row("stream", p.streamRow(0), 2, 3, 20, 54, 9, 17, 10, 0, 255, 1, 1, 0);
        Check.due("8 ticks", p.host.tick(8), 1);
        Check.row("the same", p.sentPayload(0), 20, 9, 54, ACK, 16, '7', '8', '9', 'a', 'b', 'c', 'd', 'e');
    }

    private static void oldAcks() {
        Check.sentence("if ack - FIRST is 1 up to SENT - FIRST: SENT has gone back");
        Peer p = Peer.waiting(16);
        p.segment(54, 1, ACK, 255);
        p.host.tick(4);
        Check.due("SENT", p.host.stream(0, 5), 9);
        for (int ack = 10; ack <= 17; ack++) {
            p.segment(54, ack, ACK, 255);
            Check.due("FIRST after ack " + ack, p.host.stream(0, 4), 1);
        }
        p.segment(54, 9, ACK, 255);
        Check.row("ack 9", p.streamRow(0), 2, 3, 20, 54, 9, 17, 8, 0, 255, 2, 0, 0);
    }

    private static void lastIsClosingAgain() {
        Check.sentence("a FIN that was sent (LAST) being CLOSING again: FIN alone");
        Peer p = Peer.open(0);
        p.segment(51, 1, ACK | FIN, 0);
        Check.due("4 ticks", p.host.tick(4), 1);
        Check.row("FIN + ACK", p.sentPayload(0), 20, 1, 52, FIN | ACK, 16);
        Check.row("LAST", p.streamRow(0), 4, 3, 20, 52, 1, 2, 0, 0, 0, 1, 1, 0);
        p.segment(52, 2, ACK, 0);
        Check.row("gone", p.streamRow(0), NONE);
    }

    private static void finAnewBehindOut() {
        Check.sentence("a FIN that was sent (LAST) being CLOSING again: OUT of 8 and FIN");
        Peer p = Peer.waiting(8);
        p.segment(54, 1, ACK | FIN, 255);
        Check.due("4 ticks", p.host.tick(4), 2);
        Check.row("8 octets, then FIN", p.sentSizes(2), 8, 0);
        Check.row("FIN + ACK", p.sentPayload(0), 20, 9, 55, FIN | ACK, 16);
        Check.row("LAST", p.streamRow(0), 4, 3, 20, 55, 1, 10, 8, 0, 255, 1, 1, 0);
    }

    private static void finAnewHeldBack() {
        Check.sentence("a FIN that was sent (LAST) being CLOSING again: OUT of 9 and FIN");
        Peer p = Peer.waiting(9);
        p.segment(54, 1, ACK | FIN, 255);
        Check.due("LAST", p.host.stream(0, 0), 4);
        Check.due("4 ticks", p.host.tick(4), 1);
        Check.row("CLOSING", p.streamRow(0), 3, 3, 20, 55, 1, 9, 9, 0, 255, 1, 1, 0);
        Check.due("8 acknowledged", p.segment(55, 9, ACK, 255), 2);
        Check.row("LAST", p.streamRow(0), 4, 3, 20, 55, 9, 11, 1, 0, 255, 2, 0, 0);
    }

    private static void windowOfNone() {
        Check.sentence("8 is one more whenever TRIES is, also if PUSHING can send nothing then (WINDOW 0)");
        Peer p = Peer.open(9);
        p.text(51, 1, ACK, 9, "\n");
        p.segment(52, 1, ACK, 0);
        Check.due("3 ticks", p.host.tick(3), 0);
        Check.due("times that a TIMER sent anew", p.host.count(8), 0);
        Check.due("the fourth", p.host.tick(1), 0);
        Check.due("times that a TIMER sent anew", p.host.count(8), 1);
        Check.row("stream", p.streamRow(0), 2, 3, 20, 52, 1, 1, 2, 0, 0, 1, 1, 0);
        Check.due("nothing is on the way then", p.host.tick(40), 0);
        Check.due("times that a TIMER sent anew", p.host.count(8), 1);
        Check.row("stream", p.streamRow(0), 2, 3, 20, 52, 1, 1, 2, 0, 0, 1, 1, 0);
    }

    private static void windowOfNoneInLast() {
        Check.sentence("also if PUSHING can send nothing then (WINDOW 0): LAST");
        Peer p = Peer.open(9);
        p.text(51, 1, ACK | FIN, 9, "\n");
        p.segment(53, 1, ACK, 0);
        Check.due("4 ticks", p.host.tick(4), 0);
        Check.due("times that a TIMER sent anew", p.host.count(8), 1);
        Check.row("CLOSING", p.streamRow(0), 3, 3, 20, 53, 1, 1, 2, 0, 0, 1, 1, 0);
        Check.due("an ack of what is no more on the way", p.segment(53, 4, ACK, 0), 0);
        Check.row("does not count", p.streamRow(0), 3, 3, 20, 53, 1, 1, 2, 0, 0, 1, 1, 0);
        Check.due("a window of 1", p.segment(53, 1, ACK, 1), 1);
        Check.due("a window of 2", p.segment(53, 1, ACK, 2), 2);
        Check.row("LAST", p.streamRow(0), 4, 3, 20, 53, 1, 4, 2, 0, 2, 1, 1, 0);
    }

    private static void triesAtAWindowOfNone() {
        Check.sentence("8, 16, 32 with TRIES 1, 2, 3: also if nothing was sent in between");
        Peer p = Peer.open(9);
        p.text(51, 1, ACK, 9, "\n");
        p.segment(52, 1, ACK, 0);
        p.host.tick(4);
        Check.due("a window again", p.segment(52, 1, ACK, 9), 1);
        Check.due("7 ticks", p.host.tick(7), 0);
        Check.due("the eighth", p.host.tick(1), 1);
        Check.due("TRIES", p.host.stream(0, 10), 2);
    }

    private static void byNumbers() {
        Check.sentence("the TIMERS of STREAMS on whose way something is are one more, by numbers, with what comes of it");
        Peer p = Peer.known();
        int[] ports = {30, 20, 10};
        for (int port : ports) {
            p.port = port;
            p.segment(50, 0, SYN, 9);
        }
        p.port = 20;
        p.segment(51, 1, ACK, 9);
        Check.due("2 on whose way something is", p.host.tick(4), 2);
        Check.due("the first", p.host.sent(1, 9), 30);
        Check.due("the second", p.host.sent(0, 9), 10);
        Check.due("the other has no TIMER", p.host.stream(1, 11), 0);
        p.text(51, 1, ACK, 9, "\n");
        Check.due("all three, in their own ticks", p.host.tick(8), 3);
        Check.due("20 after 4 ticks", p.host.sent(2, 9), 20);
        Check.due("30 after 8", p.host.sent(1, 9), 30);
        Check.due("10 after 8", p.host.sent(0, 9), 10);
    }

    private static void manyTicksAtOnce() {
        Check.sentence("n TICKS: each with what comes of it");
        Peer once = Peer.known();
        Peer each = Peer.known();
        once.segment(50, 0, SYN, 9);
        each.segment(50, 0, SYN, 9);
        int frames = 0;
        for (int i = 0; i < 40; i++) {
            frames += each.host.tick(1);
        }
        Check.due("frames of tick(40)", once.host.tick(40), 3);
        Check.due("frames of 40 times tick(1)", frames, 3);
        Check.row("stream", once.streamRow(0), 1, 3, 20, 51, 0, 1, 0, 0, 9, 1, 3, 12);
        Check.row("stream", each.streamRow(0), 1, 3, 20, 51, 0, 1, 0, 0, 9, 1, 3, 12);
    }

    private static void assembliesBesideTimers() {
        Check.sentence("A TICK: time is one more; ASSEMBLIES are lost by time; the TIMERS are one more");
        Peer p = Peer.known();
        p.datagram(9, 7, 1);
        p.host.tick(11);
        p.segment(50, 0, SYN, 9);
        Check.due("3 ticks", p.host.tick(3), 0);
        Check.due("the age", p.host.assembly(0, 5), 14);
        Check.due("the tick of both", p.host.tick(1), 1);
        Check.due("lost", p.host.assembly(0, 0), 0);
        Check.due("time", p.host.count(0), 15);
    }

    private static void resetToUnknown() {
        Check.sentence("with TRIES 3 RESET is sent, and it is gone: to one not KNOWN");
        Peer p = Peer.unknown();
        p.segment(50, 0, SYN, 9);
        Check.due("28 ticks", p.host.tick(28), 3);
        Check.due("32 ticks", p.host.tick(32), 1);
        Check.row("ASK", p.sentFrame(0), 15, 1, 1, 1, 3);
        Check.row("gone", p.streamRow(0), NONE);
    }
}
