/** The head and the requests, by sentence of the terms and of the promises 27 to 29. */
public final class DiskBoundariesTest {
    private DiskBoundariesTest() {
    }

    public static void main(String[] args) {
        tracks();
        noRequest();
        oneRequest();
        theHeadAtItsTrackAndOff();
        theNearest();
        ofTwoTheLowerTrack();
        chosenInTheTick();
        itStaysChosenUntilItIsDone();
        itStaysChosenUntilItIsDropped();
        aRequestThatIsNotChosenIsDropped();
        promise28();
        promise29();
        Checks.end();
    }

    /** Each process has a frame, and the head stands at a track above 0, to which a process has sent it. */
    private static AlmsKernel headAt(int track) {
        AlmsKernel x = Scenes.oneFrameEach();
        if (track > 0) {
            Scenes.fetch(x, track / 8, track % 8);
        }
        Checks.due("scene: head()", x.head(), track);
        return x;
    }

    /** Touches the page on that track; it has to be a fault. */
    private static void request(AlmsKernel x, int track) {
        Checks.due("scene: a request at " + track, x.touch(track / 8, track % 8) != AlmsKernel.NONE);
    }

    private static void tracks() {
        String name = "Promise 29, 'the page v of the process p is on the track 8 * p + v': ";
        for (int track = 0; track < 40; track++) {
            AlmsKernel x = Scenes.oneFrameEach();
            request(x, track);
            Checks.due(name + track, x.requestAt(0), track);
            x.advance(Math.max(1, track));
            Checks.due("Promise 27: the head at the track " + track, x.head(), track);
            Checks.due("Promise 28: it is done", x.requests(), 0);
            Checks.due("Promise 20: its process is AWAKE", x.stateOf(track / 8), AlmsKernel.AWAKE);
        }
        // Of a borrowed frame it is the borrower's track.
        AlmsKernel lent = Scenes.withFrames(4, 1);
        lent.touch(0, 3);
        Checks.due(name + "in a borrowed frame", lent.requestAt(0), 3);
    }

    private static void noRequest() {
        String name = "Promise 27, no request: ";
        AlmsKernel x = new AlmsKernel();
        Checks.due("Promise 27, 'The head is at the track 0 at first'", x.head(), 0);
        x.advance(200);
        Checks.due(name + "the head stays at 0", x.head(), 0);
        AlmsKernel y = headAt(39);
        y.advance(200);
        Checks.due(name + "the head stays at 39", y.head(), 39);
        Checks.due("Promise 28: none", y.requests(), 0);
        Checks.due("Promise 29: none", y.requestAt(0), AlmsKernel.NONE);
        request(y, 0);
        y.advance(38);
        Checks.due("Promise 27: from one end to the other", y.head(), 1);
        Checks.due("Promise 27: not yet", y.stateOf(0), AlmsKernel.WAITING);
        y.advance(1);
        Checks.due("Promise 27: to the other end", y.head(), 0);
        Checks.due("Promise 27: done", y.stateOf(0), AlmsKernel.AWAKE);
    }

    private static void oneRequest() {
        String name = "Promise 27, one request: ";
        AlmsKernel x = headAt(16);
        request(x, 20);
        x.advance(3);
        Checks.due(name + "the head goes up a track a tick", x.head(), 19);
        Checks.due("Promise 28: one", x.requests(), 1);
        x.advance(1);
        Checks.due(name + "it is there", x.head(), 20);
        Checks.due("Promise 28: none", x.requests(), 0);
        request(x, 17);
        x.advance(2);
        Checks.due(name + "the head goes down a track a tick", x.head(), 18);
        x.advance(1);
        Checks.due(name + "it is there", x.head(), 17);
        x.advance(1);
        Checks.due(name + "it stays where the last was done", x.head(), 17);
    }

    private static void theHeadAtItsTrackAndOff() {
        String name = "Promise 27, 'If the head is at its track then, the request is done': ";
        for (int off = -2; off <= 2; off++) {
            AlmsKernel x = headAt(20);
            x.drop(2);
            request(x, 20 + off);
            Checks.due(name + "not at the touch, " + off, x.stateOf(2), AlmsKernel.WAITING);
            Checks.due(name + "the head has not moved, " + off, x.head(), 20);
            x.advance(1);
            boolean done = off >= -1 && off <= 1;
            Checks.due(name + "after a tick, " + off, x.stateOf(2), done ? AlmsKernel.AWAKE : AlmsKernel.WAITING);
            Checks.due(name + "the head after a tick, " + off, x.head(), 20 + Integer.signum(off));
            Checks.due(name + "the age after a tick, " + off, x.age(2), done ? 1 : AlmsKernel.NONE);
            x.advance(1);
            Checks.due(name + "after two ticks, " + off, x.stateOf(2), AlmsKernel.AWAKE);
            Checks.due(name + "the head after two ticks, " + off, x.head(), 20 + off);
            Checks.due("Promise 15, 'touched at this tick': " + off, x.age(2), done ? 2 : 1);
        }
        AlmsKernel atFirst = Scenes.oneFrameEach();
        request(atFirst, 0);
        atFirst.advance(1);
        Checks.due(name + "at the track 0 at first", atFirst.stateOf(0), AlmsKernel.AWAKE);
    }

    private static void theNearest() {
        String name = "Promise 27, 'the one whose track is nearest to the head is chosen': ";
        // The head is at 20: 4 below it is 16, 4 above is 24.
        Checks.due(name + "5 below, 4 above", afterATick(20, 15, 24), 21);
        Checks.due(name + "4 below, 5 above", afterATick(20, 16, 25), 19);
        Checks.due(name + "5 below, 4 above, the lower frame above", afterATick(20, 24, 15), 21);
        Checks.due(name + "both below", afterATick(39, 31, 15), 38);
        Checks.due(name + "at its track, and 1 above", afterATick(23, 23, 24), 23);
        Checks.due(name + "1 below, and 20 above", afterATick(16, 15, 36), 15);
        AlmsKernel x = headAt(20);
        request(x, 3);
        request(x, 33);
        request(x, 13);
        request(x, 28);
        x.advance(7);
        Checks.due(name + "of four, 7 away", x.stateOf(1), AlmsKernel.AWAKE);
        Checks.due(name + "then 10 away", x.head(), 13);
        x.advance(10);
        Checks.due(name + "then 10 away", x.stateOf(0), AlmsKernel.AWAKE);
        x.advance(25);
        Checks.due(name + "then 25 away", x.stateOf(3) * 10 + x.stateOf(4), 1);
    }

    /** Where the head is a tick after two requests. */
    private static int afterATick(int track, int one, int other) {
        AlmsKernel x = headAt(track);
        for (int process = 0; process < 5; process++) {
            if (x.age(process) != AlmsKernel.NONE) {
                x.drop(process);
            }
        }
        request(x, one);
        request(x, other);
        x.advance(1);
        return x.head();
    }

    private static void ofTwoTheLowerTrack() {
        String name = "Promise 27, 'of two the one with the lower track': ";
        for (int off = 1; off <= 8; off++) {
            int low = 16 - off;
            int high = 16 + off;
            Checks.due(name + low + " and " + high, afterATick(16, low, high), 15);
            Checks.due(name + high + " and " + low, afterATick(16, high, low), 15);
        }
        // The lower track need not be in the lower frame, nor be touched first.
        for (int first = 1; first <= 2; first++) {
            AlmsKernel x = new AlmsKernel();
            x.buy(first);
            x.buy(3 - first);
            Scenes.fetch(x, 1, 7);
            x.drop(first == 1 ? 0 : 1);
            request(x, 11);
            request(x, 19);
            x.advance(1);
            Checks.due(name + "11, in the frame " + (first == 1 ? 0 : 1), x.head(), 14);
            x.advance(3);
            Checks.due(name + "11 is done", x.stateOf(1), AlmsKernel.AWAKE);
            Checks.due(name + "19 is not", x.stateOf(2), AlmsKernel.WAITING);
            x.advance(8);
            Checks.due(name + "19 is done", x.stateOf(2), AlmsKernel.AWAKE);
        }
    }

    private static void chosenInTheTick() {
        String name = "Promise 27, step 4, 'if no request is chosen, one is chosen': ";
        AlmsKernel x = Scenes.oneFrameEach();
        request(x, 39);
        request(x, 9);
        x.advance(9);
        Checks.due(name + "the nearest at the tick, not the first touched", x.stateOf(1), AlmsKernel.AWAKE);
        Checks.due(name + "head()", x.head(), 9);
        // The tick in which a request is done chooses no other: one that is nearer comes in time.
        request(x, 8);
        x.advance(1);
        Checks.due(name + "at the next tick, after one is done", x.stateOf(1), AlmsKernel.AWAKE);
        Checks.due(name + "head()", x.head(), 8);
    }

    private static void itStaysChosenUntilItIsDone() {
        String name = "Promise 27, 'it stays chosen until it is done': ";
        AlmsKernel x = Scenes.oneFrameEach();
        request(x, 24);
        x.advance(12);
        request(x, 13);
        request(x, 4);
        x.advance(1);
        Checks.due(name + "the head goes on", x.head(), 13);
        Checks.due(name + "another at whose track the head is, is not done", x.stateOf(1), AlmsKernel.WAITING);
        x.advance(10);
        Checks.due(name + "one off", x.stateOf(3), AlmsKernel.WAITING);
        Checks.due("Promise 28: three", x.requests(), 3);
        x.advance(1);
        Checks.due(name + "it is done", x.stateOf(3), AlmsKernel.AWAKE);
        Checks.due(name + "no other", x.requests(), 2);
        x.advance(1);
        Checks.due(name + "then the next", x.head(), 23);
        x.advance(10);
        Checks.due(name + "that is done", x.stateOf(1), AlmsKernel.AWAKE);
        Checks.due(name + "head()", x.head(), 13);
        x.advance(9);
        Checks.due(name + "then the last", x.stateOf(0), AlmsKernel.AWAKE);
        AlmsKernel down = headAt(30);
        request(down, 2);
        down.advance(5);
        down.drop(3);
        request(down, 24);
        down.advance(22);
        Checks.due(name + "downwards", down.head(), 3);
        Checks.due(name + "past another, downwards", down.stateOf(3), AlmsKernel.WAITING);
        down.advance(1);
        Checks.due(name + "done downwards", down.stateOf(0), AlmsKernel.AWAKE);
    }

    private static void itStaysChosenUntilItIsDropped() {
        String name = "Promise 27, 'it stays chosen until it is done or dropped': ";
        AlmsKernel x = sleeperChosen();
        x.advance(1);
        Checks.due(name + "its process sleeps", x.stateOf(1), AlmsKernel.ASLEEP);
        Checks.due("Promise 28: the other is left", x.requests(), 1);
        Checks.due("Promise 29: the other is left", x.requestAt(0), 0);
        Checks.due(name + "in that very tick another is chosen", x.head(), 2);
        x.advance(2);
        Checks.due(name + "that is done", x.stateOf(0), AlmsKernel.AWAKE);
        Checks.due(name + "head()", x.head(), 0);

        AlmsKernel able = sleeperChosen();
        able.setRate(4);
        able.advance(1);
        Checks.due(name + "it can pay, so it stays chosen", able.head(), 4);
        AlmsKernel none = Scenes.withFrames(0, 1);
        none.touch(4, 7);
        none.advance(3);
        none.setRate(9);
        none.advance(2);
        Checks.due(name + "none is left", none.requests(), 0);
        int head = none.head();
        none.setRate(0);
        none.advance(20);
        Checks.due(name + "the head stays", none.head(), head);
        Scenes.untilAwake(none, 4);
        none.touch(4, 7);
        none.buy(1);
        none.touch(1, 0);
        none.advance(1);
        Checks.due(name + "the same page asked for again is not chosen by that", none.stateOf(4), AlmsKernel.WAITING);
        Checks.due(name + "but the nearest", Math.abs(none.head() - 8), Math.abs(head - 8) - 1);
    }

    /**
     * Process 1 has 4 and at the rate 5 cannot pay; its request at 15 is chosen, with the head at 3; that at 0
     * of process 0 is not. Nobody gives alms.
     */
    private static AlmsKernel sleeperChosen() {
        AlmsKernel x = Scenes.withoutGivers();
        Scenes.bringPurse(x, 1, 4);
        x.buy(0);
        x.buy(0);
        x.setRate(0);
        Checks.due("scene: the loan", x.touch(1, 7), 0);
        x.advance(3);
        Checks.due("scene: process 0", x.touch(0, 0), 1);
        x.setRate(5);
        return x;
    }

    private static void aRequestThatIsNotChosenIsDropped() {
        String name = "Promise 27, one that is not chosen is dropped: ";
        AlmsKernel x = Scenes.withoutGivers();
        Scenes.bringPurse(x, 1, 4);
        x.buy(0);
        x.buy(2);
        x.setRate(0);
        x.touch(2, 0);
        x.advance(1);
        Checks.due("scene: the loan", x.touch(1, 0), 0);
        x.setRate(5);
        x.advance(1);
        Checks.due(name + "its process sleeps", x.stateOf(1), AlmsKernel.ASLEEP);
        Checks.due(name + "the head goes on to the chosen one", x.head(), 2);
        Checks.due(name + "that is left", x.requestAt(0), 16);
        x.advance(14);
        Checks.due(name + "that is done", x.stateOf(2), AlmsKernel.AWAKE);
    }

    private static void promise28() {
        String name = "Promise 28, 'how many requests there are': ";
        AlmsKernel x = Scenes.oneFrameEach();
        for (int process = 0; process < 5; process++) {
            Checks.due(name + process, x.requests(), process);
            x.touch(process, 7 - process);
        }
        Checks.due(name + "each process has one", x.requests(), 5);
        for (int tick = 0; tick < 60; tick++) {
            x.advance(1);
            int waiting = 0;
            for (int process = 0; process < 5; process++) {
                waiting += x.stateOf(process) == AlmsKernel.WAITING ? 1 : 0;
            }
            Checks.due(name + "one for each that waits", x.requests(), waiting);
        }
        Checks.due(name + "none is left", x.requests(), 0);
    }

    private static void promise29() {
        String name = "Promise 29, 'a request by the order of tracks': ";
        AlmsKernel x = new AlmsKernel();
        for (int process = 4; process >= 0; process--) {
            x.buy(process);
        }
        for (int process = 4; process >= 0; process--) {
            x.touch(process, process % 2 == 0 ? 7 : 0);
        }
        int[] want = {7, 8, 23, 24, 39};
        for (int place = 0; place < want.length; place++) {
            Checks.due(name + place + ", not the order of frames or touches", x.requestAt(place), want[place]);
        }
        Checks.due("Promise 29, 'NONE if there are not so many': 5", x.requestAt(5), AlmsKernel.NONE);
        Checks.due("Promise 29, 'NONE if there are not so many': far more", x.requestAt(Integer.MAX_VALUE), -1);
        x.advance(7);
        Checks.due(name + "the lowest is done", x.requestAt(0), 8);
        Checks.due("Promise 29, 'NONE if there are not so many': 4", x.requestAt(4), AlmsKernel.NONE);
        Checks.refused(Checks.INDEX, "Promise 29, 'if place is below 0': -1", Scenes::busy, y -> y.requestAt(-1));
        AlmsKernel none = new AlmsKernel();
        Checks.refused(none, Checks.INDEX, "Promise 29, 'if place is below 0': -1 of none", () -> none.requestAt(-1));
    }
}
