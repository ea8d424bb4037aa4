import java.util.Arrays;

/**
 * The memory of a small operating system in which poor processes are lent pages by rich ones.
 * Processes, frames and loans are rows of arrays that the constructor makes once, so that no call
 * makes anything.
 */
public final class AlmsKernel {
    public static final int NONE = -1;
    public static final int AWAKE = 0, WAITING = 1, ASLEEP = 2;

    private static final int PROCESSES = 5;
    private static final int PAGES = 8;
    private static final int FRAMES = 12;
    private static final int TRACKS = PROCESSES * PAGES;
    private static final int MOST_LOANS = 60;
    private static final int MOST_BORROWED = 3;
    private static final int HIGHEST_WAGE = 9;
    private static final int HIGHEST_RATE = 9;
    private static final int FIRST_PURSE = 20;
    private static final int FIRST_RATE = 1;
    private static final int PRICE = 8;
    private static final int PRICE_BACK = 4;
    private static final int AGE_TO_LEND = 5;
    private static final int PURSE_TO_GIVE = 20;
    private static final int PURSE_TO_WAKE = 5;
    private static final int MOST_TICKS = 200;
    private static final int LAST_TICK = 50000;

    private final int[] wages = new int[PROCESSES];
    private final int[] purses = new int[PROCESSES];
    private final int[] states = new int[PROCESSES];
    private final int[] faultCounts = new int[PROCESSES];

    private final int[] owners = new int[FRAMES];
    private final int[] holders = new int[FRAMES];
    private final int[] pages = new int[FRAMES];
    private final boolean[] there = new boolean[FRAMES];
    private final int[] touchTicks = new int[FRAMES];

    private final int[] loanFrames = new int[MOST_LOANS];
    private final int[] lenders = new int[MOST_LOANS];
    private final int[] borrowers = new int[MOST_LOANS];
    private final boolean[] lasting = new boolean[MOST_LOANS];
    private final int[] interests = new int[MOST_LOANS];
    private int loanCount = 0;

    private int rate = FIRST_RATE;
    private int now = 0;
    private int headTrack = 0;
    // A request is known by the frame in which its page is coming.
    private int chosenFrame = NONE;

    public AlmsKernel() {
        Arrays.fill(purses, FIRST_PURSE);
        Arrays.fill(states, AWAKE);
        Arrays.fill(owners, NONE);
        Arrays.fill(holders, NONE);
        Arrays.fill(pages, NONE);
    }

    // ---- settings

    public int setWage(int process, int wage) throws IndexOutOfBoundsException, IllegalArgumentException {
        if (!isProcess(process)) {
            throw new IndexOutOfBoundsException("no such process");
        }
        if (wage < 0 || wage > HIGHEST_WAGE) {
            throw new IllegalArgumentException("wage is out of range");
        }
        int before = wages[process];
        wages[process] = wage;
        return before;
    }

    public int setRate(int rate) throws IllegalArgumentException {
        if (rate < 0 || rate > HIGHEST_RATE) {
            throw new IllegalArgumentException("rate is out of range");
        }
        int before = this.rate;
        this.rate = rate;
        return before;
    }

    // ---- frames

    public int buy(int process) throws IndexOutOfBoundsException, IllegalStateException {
        if (!isProcess(process)) {
            throw new IndexOutOfBoundsException("no such process");
        }
        if (states[process] == ASLEEP || purses[process] < PRICE) {
            throw new IllegalStateException("asleep or too poor to buy");
        }
        int frame = lowestEmptyFrame(NONE);
        if (!isFrame(frame)) {
            throw new IllegalStateException("no frame is free");
        }
        purses[process] -= PRICE;
        owners[frame] = process;
        holders[frame] = process;
        return frame;
    }

    public int sell(int frame) throws IndexOutOfBoundsException, IllegalStateException {
        if (!isFrame(frame)) {
            throw new IndexOutOfBoundsException("no such frame");
        }
        int seller = owners[frame];
        if (!isProcess(seller)) {
            throw new IllegalStateException("the frame is free");
        }
        if (holders[frame] != seller || pages[frame] != NONE || states[seller] == ASLEEP) {
            throw new IllegalStateException("lent, not empty, or of a sleeper");
        }
        owners[frame] = NONE;
        holders[frame] = NONE;
        purses[seller] += PRICE_BACK;
        return purses[seller];
    }

    public int drop(int frame) throws IndexOutOfBoundsException, IllegalStateException {
        if (!isFrame(frame)) {
            throw new IndexOutOfBoundsException("no such frame");
        }
        if (!there[frame]) {
            throw new IllegalStateException("no page is there");
        }
        int page = pages[frame];
        dropPage(frame);
        return page;
    }

    // ---- pages

    public int touch(int process, int page) throws IndexOutOfBoundsException, IllegalStateException {
        if (!isProcess(process) || !isPage(page)) {
            throw new IndexOutOfBoundsException("no such process or page");
        }
        if (states[process] != AWAKE) {
            throw new IllegalStateException("the process is not awake");
        }
        int kept = frameWithPage(process, page);
        if (isFrame(kept)) {
            touchTicks[kept] = now;
            return NONE;
        }
        int frame = frameForFault(process);
        if (!isFrame(frame)) {
            throw new IllegalStateException("the touch is refused");
        }
        // A frame got by the third or fourth way may have a page still: the new one takes its place.
        pages[frame] = page;
        there[frame] = false;
        states[process] = WAITING;
        faultCounts[process]++;
        return frame;
    }

    public int payBack(int loan) throws IndexOutOfBoundsException, IllegalStateException {
        if (!isLoan(loan)) {
            throw new IndexOutOfBoundsException("no such loan");
        }
        if (!lasting[loan] || isComing(loanFrames[loan])) {
            throw new IllegalStateException("the loan does not last, or its page is coming");
        }
        endLoan(loan);
        return lenders[loan];
    }

    public int advance(int ticks) throws IllegalArgumentException, IllegalStateException {
        if (ticks < 1 || ticks > MOST_TICKS) {
            throw new IllegalArgumentException("ticks is out of range");
        }
        if (now > LAST_TICK - ticks) {
            throw new IllegalStateException("the tick would be above 50000");
        }
        for (int i = 0; i < ticks; i++) {
            passTick();
        }
        return now;
    }

    // ---- what there is

    public int tick() {
        return now;
    }

    public int owner(int frame) throws IndexOutOfBoundsException {
        if (!isFrame(frame)) {
            throw new IndexOutOfBoundsException("no such frame");
        }
        return owners[frame];
    }

    public int holder(int frame) throws IndexOutOfBoundsException {
        if (!isFrame(frame)) {
            throw new IndexOutOfBoundsException("no such frame");
        }
        return holders[frame];
    }

    public int holderByLog(int frame) throws IndexOutOfBoundsException {
        if (!isFrame(frame)) {
            throw new IndexOutOfBoundsException("no such frame");
        }
        for (int loan = 0; loan < MOST_LOANS && loan < loanCount; loan++) {
            if (lasting[loan] && loanFrames[loan] == frame) {
                return borrowers[loan];
            }
        }
        return owners[frame];
    }

    public int pageIn(int frame) throws IndexOutOfBoundsException {
        if (!isFrame(frame)) {
            throw new IndexOutOfBoundsException("no such frame");
        }
        return pages[frame];
    }

    public int age(int frame) throws IndexOutOfBoundsException {
        if (!isFrame(frame)) {
            throw new IndexOutOfBoundsException("no such frame");
        }
        return ageOf(frame);
    }

    public int free() {
        int count = 0;
        for (int frame = 0; frame < FRAMES; frame++) {
            if (owners[frame] == NONE) {
                count++;
            }
        }
        return count;
    }

    public int owns(int process) throws IndexOutOfBoundsException {
        if (!isProcess(process)) {
            throw new IndexOutOfBoundsException("no such process");
        }
        int count = 0;
        for (int frame = 0; frame < FRAMES; frame++) {
            if (owners[frame] == process) {
                count++;
            }
        }
        return count;
    }

    public int borrowed(int process) throws IndexOutOfBoundsException {
        if (!isProcess(process)) {
            throw new IndexOutOfBoundsException("no such process");
        }
        return countBorrowed(process);
    }

    public int lent(int process) throws IndexOutOfBoundsException {
        if (!isProcess(process)) {
            throw new IndexOutOfBoundsException("no such process");
        }
        int count = 0;
        for (int frame = 0; frame < FRAMES; frame++) {
            if (owners[frame] == process && holders[frame] != process) {
                count++;
            }
        }
        return count;
    }

    public int stateOf(int process) throws IndexOutOfBoundsException {
        if (!isProcess(process)) {
            throw new IndexOutOfBoundsException("no such process");
        }
        return states[process];
    }

    public int purse(int process) throws IndexOutOfBoundsException {
        if (!isProcess(process)) {
            throw new IndexOutOfBoundsException("no such process");
        }
        return purses[process];
    }

    public int faults(int process) throws IndexOutOfBoundsException {
        if (!isProcess(process)) {
            throw new IndexOutOfBoundsException("no such process");
        }
        return faultCounts[process];
    }

    // ---- loans and the disk

    public int loans() {
        return loanCount;
    }

    public boolean lasts(int loan) throws IndexOutOfBoundsException {
        if (!isLoan(loan)) {
            throw new IndexOutOfBoundsException("no such loan");
        }
        return lasting[loan];
    }

    public int partiesOf(int loan) throws IndexOutOfBoundsException {
        if (!isLoan(loan)) {
            throw new IndexOutOfBoundsException("no such loan");
        }
        return 100 * loanFrames[loan] + 10 * lenders[loan] + borrowers[loan];
    }

    public int interest(int loan) throws IndexOutOfBoundsException {
        if (!isLoan(loan)) {
            throw new IndexOutOfBoundsException("no such loan");
        }
        return interests[loan];
    }

    public int head() {
        return headTrack;
    }

    public int requests() {
        int count = 0;
        for (int frame = 0; frame < FRAMES; frame++) {
            if (isComing(frame)) {
                count++;
            }
        }
        return count;
    }

    public int requestAt(int place) throws IndexOutOfBoundsException {
        if (place < 0) {
            throw new IndexOutOfBoundsException("place is below 0");
        }
        int before = 0;
        for (int track = 0; track < TRACKS; track++) {
            if (isRequested(track)) {
                if (before == place) {
                    return track;
                }
                before++;
            }
        }
        return NONE;
    }

    // ---- what a number may be

    private static boolean isProcess(int process) {
        return process >= 0 && process < PROCESSES;
    }

    private static boolean isPage(int page) {
        return page >= 0 && page < PAGES;
    }

    private static boolean isFrame(int frame) {
        return frame >= 0 && frame < FRAMES;
    }

    private boolean isLoan(int loan) {
        return loan >= 0 && loan < MOST_LOANS && loan < loanCount;
    }

    // ---- frames and their pages

    private boolean isComing(int frame) {
        return isFrame(frame) && pages[frame] != NONE && !there[frame];
    }

    private int ageOf(int frame) {
        return there[frame] ? now - touchTicks[frame] : NONE;
    }

    private void dropPage(int frame) {
        pages[frame] = NONE;
        there[frame] = false;
        if (chosenFrame == frame) {
            chosenFrame = NONE;
        }
    }

    /** Free frames are held by NONE, so NONE finds the lowest of these. */
    private int lowestEmptyFrame(int holder) {
        for (int frame = 0; frame < FRAMES; frame++) {
            if (holders[frame] == holder && pages[frame] == NONE) {
                return frame;
            }
        }
        return NONE;
    }

    private int frameWithPage(int holder, int page) {
        for (int frame = 0; frame < FRAMES; frame++) {
            if (holders[frame] == holder && pages[frame] == page) {
                return frame;
            }
        }
        return NONE;
    }

    private int oldestFrame(int holder) {
        int oldest = NONE;
        int greatest = NONE;
        for (int frame = 0; frame < FRAMES; frame++) {
            if (holders[frame] == holder && ageOf(frame) > greatest) {
                oldest = frame;
                greatest = ageOf(frame);
            }
        }
        return oldest;
    }

    // ---- frames for faults

    private int frameForFault(int process) {
        int frame = lowestEmptyFrame(process);
        if (frame == NONE) {
            frame = callIn(process);
        }
        if (frame == NONE) {
            frame = borrow(process);
        }
        if (frame == NONE) {
            frame = oldestFrame(process);
        }
        return frame;
    }

    private int callIn(int lender) {
        for (int loan = 0; loan < MOST_LOANS && loan < loanCount; loan++) {
            if (lasting[loan] && lenders[loan] == lender && !isComing(loanFrames[loan])) {
                endLoan(loan);
                return loanFrames[loan];
            }
        }
        return NONE;
    }

    private int borrow(int borrower) {
        if (purses[borrower] < rate || countBorrowed(borrower) >= MOST_BORROWED) {
            return NONE;
        }
        int lender = richestLender(borrower);
        int frame = isProcess(lender) ? frameToLend(lender) : NONE;
        if (!isFrame(frame)) {
            return NONE;
        }
        // A full log refuses the touch: the document does not let it go on to the fourth way.
        if (loanCount >= MOST_LOANS) {
            throw new IllegalStateException("there were 60 loans");
        }
        holders[frame] = borrower;
        loanFrames[loanCount] = frame;
        lenders[loanCount] = lender;
        borrowers[loanCount] = borrower;
        lasting[loanCount] = true;
        loanCount++;
        return frame;
    }

    private int richestLender(int borrower) {
        int richest = NONE;
        int greatest = NONE;
        for (int process = 0; process < PROCESSES; process++) {
            if (process != borrower && purses[process] > greatest && frameToLend(process) != NONE) {
                richest = process;
                greatest = purses[process];
            }
        }
        return richest;
    }

    private int frameToLend(int lender) {
        int oldest = NONE;
        int greatest = AGE_TO_LEND - 1;
        for (int frame = 0; frame < FRAMES; frame++) {
            if (owners[frame] == lender && holders[frame] == lender) {
                if (pages[frame] == NONE) {
                    return frame;
                }
                if (ageOf(frame) > greatest) {
                    oldest = frame;
                    greatest = ageOf(frame);
                }
            }
        }
        return oldest;
    }

    private int countBorrowed(int process) {
        int count = 0;
        for (int frame = 0; frame < FRAMES; frame++) {
            if (holders[frame] == process && owners[frame] != process) {
                count++;
            }
        }
        return count;
    }

    private void endLoan(int loan) {
        lasting[loan] = false;
        int frame = loanFrames[loan];
        if (isFrame(frame)) {
            dropPage(frame);
            holders[frame] = owners[frame];
        }
    }

    // ---- a tick

    private void passTick() {
        payWages();
        chargeLoans();
        giveAlms();
        moveDisk();
        now++;
    }

    private void payWages() {
        for (int process = 0; process < PROCESSES; process++) {
            if (states[process] != ASLEEP) {
                purses[process] += wages[process];
            }
        }
    }

    private void chargeLoans() {
        for (int loan = 0; loan < MOST_LOANS && loan < loanCount; loan++) {
            // A loan may have ended in this very loop, with an earlier one of its borrower.
            if (lasting[loan]) {
                charge(loan);
            }
        }
    }

    private void charge(int loan) {
        int borrower = borrowers[loan];
        int lender = lenders[loan];
        if (!isProcess(borrower) || !isProcess(lender)) {
            return;
        }
        if (purses[borrower] < rate) {
            putToSleep(borrower);
            return;
        }
        purses[borrower] -= rate;
        purses[lender] += rate;
        interests[loan] += rate;
    }

    private void putToSleep(int process) {
        for (int frame = 0; frame < FRAMES; frame++) {
            if (holders[frame] == process && isComing(frame)) {
                dropPage(frame);
            }
        }
        for (int loan = 0; loan < MOST_LOANS && loan < loanCount; loan++) {
            if (lasting[loan] && borrowers[loan] == process) {
                endLoan(loan);
            }
        }
        states[process] = ASLEEP;
    }

    private void giveAlms() {
        for (int process = 0; process < PROCESSES; process++) {
            if (states[process] == ASLEEP) {
                int giver = richestGiver();
                if (isProcess(giver)) {
                    purses[giver]--;
                    purses[process]++;
                }
                // Interest alone may wake it: it needs no alms for that.
                if (purses[process] >= PURSE_TO_WAKE) {
                    states[process] = AWAKE;
                }
            }
        }
    }

    private int richestGiver() {
        int richest = NONE;
        int greatest = PURSE_TO_GIVE - 1;
        for (int process = 0; process < PROCESSES; process++) {
            if (states[process] != ASLEEP && purses[process] > greatest) {
                richest = process;
                greatest = purses[process];
            }
        }
        return richest;
    }

    // ---- the disk

    private int trackOf(int frame) {
        return PAGES * holders[frame] + pages[frame];
    }

    private boolean isRequested(int track) {
        for (int frame = 0; frame < FRAMES; frame++) {
            if (isComing(frame) && trackOf(frame) == track) {
                return true;
            }
        }
        return false;
    }

    private void moveDisk() {
        // The choice waits for the tick: a nearer request may still come before it.
        if (chosenFrame == NONE) {
            chosenFrame = nearestRequest();
        }
        if (!isFrame(chosenFrame)) {
            return;
        }
        int target = trackOf(chosenFrame);
        if (headTrack < target) {
            headTrack++;
        } else if (headTrack > target) {
            headTrack--;
        }
        if (headTrack == target) {
            finishRequest(chosenFrame);
        }
    }

    private int nearestRequest() {
        int nearest = NONE;
        int nearestTrack = NONE;
        int least = TRACKS;
        for (int frame = 0; frame < FRAMES; frame++) {
            if (isComing(frame)) {
                int track = trackOf(frame);
                int distance = Math.abs(track - headTrack);
                if (distance < least || (distance == least && track < nearestTrack)) {
                    nearest = frame;
                    nearestTrack = track;
                    least = distance;
                }
            }
        }
        return nearest;
    }

    private void finishRequest(int frame) {
        chosenFrame = NONE;
        there[frame] = true;
        touchTicks[frame] = now;
        int process = holders[frame];
        if (isProcess(process)) {
            states[process] = AWAKE;
        }
    }
}
