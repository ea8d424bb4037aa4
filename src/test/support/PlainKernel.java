import java.util.ArrayList;
import java.util.Comparator;
import java.util.List;
import java.util.Map;
import java.util.Optional;
import java.util.TreeMap;
import java.util.stream.Collectors;
import java.util.stream.IntStream;

/**
 * The document once more, written another way: objects and sorted streams instead of rows and loops.
 * What happens is counted in events, so that a test can see that its runs reached it.
 */
final class PlainKernel {
    static final Map<String, Integer> EVENTS = new TreeMap<>();

    private static final class Proc {
        final int number;
        int wage = 0;
        int purse = 20;
        int state = 0;
        int faults = 0;

        Proc(int number) {
            this.number = number;
        }
    }

    private static final class Frame {
        final int number;
        Proc owner = null;
        Proc holder = null;
        Integer coming = null;
        Integer page = null;
        int touched = 0;

        Frame(int number) {
            this.number = number;
        }

        boolean isEmpty() {
            return coming == null && page == null;
        }

        int track() {
            return 8 * holder.number + coming;
        }
    }

    private static final class Loan {
        final Frame frame;
        final Proc lender;
        final Proc borrower;
        boolean lasts = true;
        int paid = 0;

        Loan(Frame frame, Proc lender, Proc borrower) {
            this.frame = frame;
            this.lender = lender;
            this.borrower = borrower;
        }
    }

    private final List<Proc> procs = IntStream.range(0, 5).mapToObj(Proc::new).collect(Collectors.toList());
    private final List<Frame> frames = IntStream.range(0, 12).mapToObj(Frame::new).collect(Collectors.toList());
    private final List<Loan> log = new ArrayList<>();
    private int rate = 1;
    private int tick = 0;
    private int head = 0;
    private Frame chosen = null;

    private static void event(String name) {
        EVENTS.merge(name, 1, Integer::sum);
    }

    private static void no(boolean wrong, RuntimeException e) {
        if (wrong) {
            throw e;
        }
    }

    private Proc proc(int number) {
        no(number < 0 || number > 4, new IndexOutOfBoundsException());
        return procs.get(number);
    }

    private Frame frame(int number) {
        no(number < 0 || number > 11, new IndexOutOfBoundsException());
        return frames.get(number);
    }

    private Loan loan(int number) {
        no(number < 0 || number >= log.size(), new IndexOutOfBoundsException());
        return log.get(number);
    }

    int setWage(int process, int wage) {
        Proc proc = proc(process);
        no(wage < 0 || wage > 9, new IllegalArgumentException());
        int before = proc.wage;
        proc.wage = wage;
        return before;
    }

    int setRate(int value) {
        no(value < 0 || value > 9, new IllegalArgumentException());
        int before = rate;
        rate = value;
        return before;
    }

    int buy(int process) {
        Proc proc = proc(process);
        Optional<Frame> frame = frames.stream().filter(f -> f.owner == null).findFirst();
        no(proc.state == 2, new IllegalStateException());
        no(frame.isEmpty(), new IllegalStateException());
        no(proc.purse < 8, new IllegalStateException());
        if (proc.state == 1) {
            event("bought while waiting");
        }
        proc.purse -= 8;
        frame.get().owner = proc;
        frame.get().holder = proc;
        return frame.get().number;
    }

    int sell(int number) {
        Frame frame = frame(number);
        no(frame.owner == null || frame.holder != frame.owner, new IllegalStateException());
        no(!frame.isEmpty() || frame.owner.state == 2, new IllegalStateException());
        Proc proc = frame.owner;
        frame.owner = null;
        frame.holder = null;
        proc.purse += 4;
        return proc.purse;
    }

    int drop(int number) {
        Frame frame = frame(number);
        no(frame.page == null, new IllegalStateException());
        if (frame.holder != frame.owner) {
            event("dropped in a lent frame");
        }
        if (frame.holder.state == 2) {
            event("dropped of a sleeper");
        }
        int page = frame.page;
        frame.page = null;
        return page;
    }

    int touch(int process, int page) {
        Proc proc = proc(process);
        no(page < 0 || page > 7, new IndexOutOfBoundsException());
        no(proc.state != 0, new IllegalStateException());
        Optional<Frame> hit = frames.stream()
            .filter(f -> f.holder == proc && f.page != null && f.page == page).findFirst();
        if (hit.isPresent()) {
            hit.get().touched = tick;
            event("hit");
            return -1;
        }
        Frame frame = way(proc);
        no(frame == null, new IllegalStateException());
        frame.page = null;
        frame.coming = page;
        proc.state = 1;
        proc.faults++;
        return frame.number;
    }

    private Frame way(Proc proc) {
        List<Frame> held = frames.stream().filter(f -> f.holder == proc).collect(Collectors.toList());
        Optional<Frame> empty = held.stream().filter(Frame::isEmpty).findFirst();
        if (empty.isPresent()) {
            event(empty.get().owner == proc ? "way 1, own" : "way 1, borrowed");
            return empty.get();
        }
        Optional<Loan> call = log.stream()
            .filter(l -> l.lasts && l.lender == proc && l.frame.coming == null).findFirst();
        if (call.isPresent()) {
            event("way 2");
            if (log.stream().anyMatch(l -> l.lasts && l.lender == proc && l.frame.coming != null)) {
                event("way 2, another page coming");
            }
            end(call.get());
            return call.get().frame;
        }
        Frame lent = borrow(proc);
        if (lent != null) {
            return lent;
        }
        Frame oldest = greatestAge(held);
        event(oldest == null ? "refused" : oldest.owner == proc ? "way 4, own" : "way 4, borrowed");
        return oldest;
    }

    private Frame borrow(Proc proc) {
        long has = log.stream().filter(l -> l.lasts && l.borrower == proc).count();
        List<Proc> able = procs.stream().filter(p -> p != proc && !lendable(p).isEmpty())
            .sorted(Comparator.comparingInt((Proc p) -> -p.purse).thenComparingInt(p -> p.number))
            .collect(Collectors.toList());
        if (proc.purse < rate || has >= 3 || able.isEmpty()) {
            if (!able.isEmpty()) {
                event(has >= 3 ? "way 3, three loans" : "way 3, too poor");
            }
            return null;
        }
        no(log.size() >= 60, new IllegalStateException());
        Proc lender = able.get(0);
        List<Frame> choice = lendable(lender);
        Optional<Frame> empty = choice.stream().filter(Frame::isEmpty).findFirst();
        event(empty.isPresent() ? "way 3, empty" : "way 3, old");
        if (lender.state == 2) {
            event("way 3, of a sleeper");
        }
        if (able.size() > 1 && able.get(1).purse == lender.purse) {
            event("way 3, equal purses");
        }
        Frame frame = empty.orElseGet(() -> greatestAge(choice));
        frame.page = null;
        frame.holder = proc;
        log.add(new Loan(frame, lender, proc));
        if (log.size() == 60) {
            event("60 loans");
        }
        return frame;
    }

    private List<Frame> lendable(Proc proc) {
        return frames.stream()
            .filter(f -> f.owner == proc && f.holder == proc)
            .filter(f -> f.isEmpty() || f.page != null && tick - f.touched >= 5)
            .collect(Collectors.toList());
    }

    private Frame greatestAge(List<Frame> of) {
        return of.stream().filter(f -> f.page != null)
            .min(Comparator.comparingInt((Frame f) -> f.touched).thenComparingInt(f -> f.number)).orElse(null);
    }

    private void end(Loan loan) {
        loan.lasts = false;
        loan.frame.page = null;
        loan.frame.coming = null;
        loan.frame.holder = loan.frame.owner;
    }

    int payBack(int number) {
        Loan loan = loan(number);
        no(!loan.lasts || loan.frame.coming != null, new IllegalStateException());
        end(loan);
        event("paid back");
        return loan.lender.number;
    }

    int advance(int ticks) {
        no(ticks < 1 || ticks > 200, new IllegalArgumentException());
        if ((long) tick + ticks > 50000) {
            event("above 50000");
            throw new IllegalStateException();
        }
        for (int i = 0; i < ticks; i++) {
            oneTick();
        }
        return tick;
    }

    private void oneTick() {
        procs.stream().filter(p -> p.state != 2).forEach(p -> p.purse += p.wage);
        for (Loan loan : log) {
            if (!loan.lasts) {
                continue;
            }
            if (loan.borrower.purse < rate) {
                sleep(loan.borrower);
            } else {
                loan.borrower.purse -= rate;
                loan.lender.purse += rate;
                loan.paid += rate;
                if (loan.lender.state == 2) {
                    event("interest for a sleeper");
                }
            }
        }
        for (Proc poor : procs) {
            if (poor.state == 2) {
                alms(poor);
            }
        }
        disk();
        tick++;
    }

    private void sleep(Proc proc) {
        event("put to sleep");
        for (Frame frame : frames) {
            if (frame.holder == proc && frame.coming != null) {
                event(frame == chosen ? "put to sleep, chosen dropped" : "put to sleep, coming dropped");
                event(frame.owner == proc ? "put to sleep, own coming" : "put to sleep, borrowed coming");
                frame.coming = null;
                if (frame == chosen) {
                    chosen = null;
                }
            }
        }
        List<Loan> ending = log.stream().filter(l -> l.lasts && l.borrower == proc).collect(Collectors.toList());
        event("put to sleep with loans: " + ending.size());
        ending.forEach(this::end);
        proc.state = 2;
    }

    private void alms(Proc poor) {
        Optional<Proc> rich = procs.stream().filter(p -> p.state != 2 && p.purse >= 20)
            .min(Comparator.comparingInt((Proc p) -> -p.purse).thenComparingInt(p -> p.number));
        if (rich.isPresent()) {
            event("alms");
            rich.get().purse--;
            poor.purse++;
        }
        if (poor.purse >= 5) {
            event(rich.isPresent() ? "woken with alms" : "woken without alms");
            poor.state = 0;
        }
    }

    private void disk() {
        if (chosen == null) {
            List<Frame> coming = frames.stream().filter(f -> f.coming != null)
                .sorted(Comparator.comparingInt((Frame f) -> Math.abs(f.track() - head))
                    .thenComparingInt(Frame::track))
                .collect(Collectors.toList());
            if (coming.isEmpty()) {
                return;
            }
            chosen = coming.get(0);
            if (coming.size() > 1 && Math.abs(coming.get(1).track() - head) == Math.abs(chosen.track() - head)) {
                event("equally near requests");
            }
        }
        head += Integer.signum(chosen.track() - head);
        if (frames.stream().anyMatch(f -> f.coming != null && f != chosen && f.track() == head)) {
            event("passed by another request");
        }
        if (head == chosen.track()) {
            chosen.page = chosen.coming;
            chosen.coming = null;
            chosen.touched = tick;
            chosen.holder.state = 0;
            chosen = null;
        }
    }

    int holderByLog(int number) {
        Frame frame = frame(number);
        if (frame.owner == null) {
            return -1;
        }
        return log.stream().filter(l -> l.lasts && l.frame == frame).findFirst()
            .map(l -> l.borrower.number).orElse(frame.owner.number);
    }

    int lasts(int number) {
        return loan(number).lasts ? 1 : 0;
    }

    int partiesOf(int number) {
        Loan loan = loan(number);
        return 100 * loan.frame.number + 10 * loan.lender.number + loan.borrower.number;
    }

    int interest(int number) {
        return loan(number).paid;
    }

    int requestAt(int place) {
        no(place < 0, new IndexOutOfBoundsException());
        List<Integer> tracks = requestTracks();
        return place < tracks.size() ? tracks.get(place) : -1;
    }

    private List<Integer> requestTracks() {
        return frames.stream().filter(f -> f.coming != null).map(Frame::track).sorted()
            .collect(Collectors.toList());
    }

    /** The same text as Checks.snapshot makes of an AlmsKernel. */
    String snapshot() {
        StringBuilder text = new StringBuilder();
        text.append("tick ").append(tick).append(" head ").append(head);
        text.append(" free ").append(frames.stream().filter(f -> f.owner == null).count());
        for (Frame f : frames) {
            text.append("; frame ").append(f.number).append(' ').append(f.owner == null ? -1 : f.owner.number);
            text.append(' ').append(f.holder == null ? -1 : f.holder.number);
            text.append(' ').append(holderByLog(f.number)).append(' ');
            text.append(f.page != null ? f.page : f.coming != null ? f.coming : Integer.valueOf(-1));
            text.append(' ').append(f.page != null ? tick - f.touched : -1);
        }
        for (Proc p : procs) {
            text.append("; process ").append(p.number).append(' ').append(p.state);
            text.append(' ').append(p.purse).append(' ').append(p.faults);
            text.append(' ').append(frames.stream().filter(f -> f.owner == p).count());
            text.append(' ').append(log.stream().filter(l -> l.lasts && l.borrower == p).count());
            text.append(' ').append(log.stream().filter(l -> l.lasts && l.lender == p).count());
        }
        for (Loan l : log) {
            text.append("; loan ").append(l.lasts).append(' ').append(partiesOf(log.indexOf(l)));
            text.append(' ').append(l.paid);
        }
        List<Integer> tracks = requestTracks();
        text.append("; requests ").append(tracks.size());
        tracks.forEach(t -> text.append(' ').append(t));
        return text.append(" -1").toString();
    }
}
