import java.util.ArrayDeque;
import java.util.ArrayList;
import java.util.Comparator;
import java.util.Deque;
import java.util.List;

/**
 * The document once more, written for plainness with the whole Java library: lists that grow, exceptions for what
 * is thrown. ModelTest holds LoopGroup against it.
 */
final class PlainModel implements Face {
    private static final int HOST = -1;

    private record Entry(int loop, int kind, int value) { }

    private record Order(int kind, int a, int b) { }

    private record Handler(int number, int kind, int task) { }

    private record Timer(int number, int task, long deadline) { }

    private record Queued(char kind, int number, int message) { }

    private static final class Row {
        int executor;
        int state;
        int value;
        boolean pinned;
        List<Integer> listeners = new ArrayList<>();
        List<Handler> handlers = new ArrayList<>();
    }

    private static final class Worker {
        int state = 1;
        Deque<Queued> queue = new ArrayDeque<>();
        List<Timer> timers = new ArrayList<>();
        int batch;
        Row awaited;
        int awaitedNumber;
        int task;
        int place;
        int quiet;
        int timeout;
        long start;
        Long last;
    }

    private static final class Thrown extends RuntimeException {
        private static final long serialVersionUID = 1L;
    }

    private static final class Blocked extends RuntimeException {
        private static final long serialVersionUID = 1L;
    }

    private final List<Entry> trace = new ArrayList<>();
    private final List<Worker> loops = new ArrayList<>();
    private final List<List<Order>> tasks = new ArrayList<>();
    private final List<Row> promises = new ArrayList<>();
    private final List<Row> channels = new ArrayList<>();
    private int handlers;
    private int timers;
    private int chooser;
    private long clock;
    private int done;
    private int notifications;
    private int messages;

    PlainModel(int n) {
        for (int i = 0; i < (n < 1 || n > 8 ? 1 : n); i++) {
            loops.add(new Worker());
        }
    }

    @Override
    public long call(String name, int... a) {
        switch (name) {
            case "task":
                state(tasks.size() < 24);
                tasks.add(new ArrayList<>());
                return tasks.size() - 1;
            case "order":
                argument(has(tasks, a[0]) && a[1] >= 0 && a[1] <= 13);
                state(tasks.get(a[0]).size() < 8);
                tasks.get(a[0]).add(new Order(a[1], a[2], a[3]));
                return tasks.get(a[0]).size();
            case "promise":
                argument(has(loops, a[0]));
                state(promises.size() < 32);
                promises.add(row(a[0]));
                return promises.size() - 1;
            case "channels":
                argument(has(loops, a[0]) && has(loops, a[1]));
                state(channels.size() < 16);
                channels.add(row(a[0]));
                channels.add(row(a[1]));
                return channels.size() - 2;
            case "handler":
                return handler(a[0], a[1], a[2], a[3]);
            case "advance":
                argument(a[0] >= 0 && a[0] <= 1_000_000);
                clock += a[0];
                return clock;
            case "cancel":
                return loops.stream().anyMatch(l -> l.timers.removeIf(t -> t.number() == a[0])) ? 1 : 0;
            case "step":
                argument(has(loops, a[0]));
                return step(a[0]);
            case "traced":
                return trace.size();
            case "loop":
            case "look":
            case "trace":
                return seen(name, a[0], a[1]);
            default:
                try {
                    return asOrder(name, a);
                } catch (Thrown e) {
                    throw new IllegalArgumentException();
                }
        }
    }

    private long handler(int channel, int kind, int task, int place) {
        argument(has(channels, channel));
        List<Handler> pipeline = channels.get(channel).handlers;
        if (place != -1) {
            argument(has(pipeline, place));
            return pipeline.remove(place).number();
        }
        argument(kind >= 0 && kind <= 6 && (kind != 4 || has(tasks, task)));
        state(pipeline.size() < 6);
        pipeline.add(new Handler(handlers, kind, task));
        return handlers++;
    }

    private long seen(String name, int k, int what) {
        if (name.equals("trace")) {
            argument(what >= 0 && what <= 2);
            if (!has(trace, k) || k < trace.size() - 300) {
                throw new IndexOutOfBoundsException();
            }
            Entry e = trace.get(k);
            return new int[] {e.loop(), e.kind(), e.value()}[what];
        }
        int[] row;
        if (name.equals("loop")) {
            argument(has(loops, k));
            Worker l = loops.get(k);
            row = new int[] {l.state, l.queue.size(), l.timers.size(), l.awaited == null ? 0 : 1, l.batch};
        } else {
            argument(has(promises, k));
            Row p = promises.get(k);
            row = new int[] {p.state, p.value, p.listeners.size()};
        }
        argument(what >= 0 && what < row.length);
        return row[what];
    }

    private long asOrder(String name, int[] a) {
        switch (name) {
            case "execute":
                argument(a[1] != -1);
                return rejectedIsState(execute(HOST, a[0], a[1]));
            case "timer":
                argument(has(loops, a[2]));
                return rejectedIsState(timer(HOST, a[0], a[1], a[2]));
            case "complete":
                argument(has(promises, a[0]) && a[1] >= 1 && a[1] <= 4);
                return (a[1] == 4 ? pin(a[0]) : complete(HOST, a[0], a[1], a[2])) ? 1 : 0;
            case "listen":
                listen(HOST, a[0], a[1]);
                return 0;
            case "fire":
                check(has(channels, a[0]));
                rejectedIsState(fire(HOST, a[0], a[1]));
                return 0;
            case "shutdown":
                shutdown(a[0], a[1]);
                return 0;
            default:
                throw new UnsupportedOperationException(name);
        }
    }

    private static int rejectedIsState(int answer) {
        state(answer >= 0);
        return answer;
    }

    private int step(int number) {
        Worker l = loops.get(number);
        if (l.state == 1 || l.state == 5) {
            return 0;
        }
        if (l.state == 3) {
            l.timers.clear();
        }
        done = 0;
        if (l.awaited != null) {
            if (l.awaited.state == 0) {
                return 2;
            }
            l.awaited = null;
            log(number, 10, l.awaitedNumber);
            run(number, l.task, l.place);
            return 1;
        }
        if (l.batch == 0) {
            l.timers.sort(Comparator.comparingLong(Timer::deadline).thenComparingInt(Timer::number));
            while (l.queue.size() < 24 && !l.timers.isEmpty() && l.timers.get(0).deadline() <= clock) {
                l.queue.add(new Queued('t', l.timers.remove(0).task(), 0));
            }
            l.batch = Math.min(16, l.queue.size());
        }
        Queued first = l.queue.poll();
        if (first == null) {
            return l.state == 3 && confirm(number, l) ? 3 : 0;
        }
        l.batch--;
        if (l.state == 3) {
            l.last = clock;
        }
        if (first.kind() == 'm') {
            log(number, 1, -1);
            pipeline(number, first.number(), first.message());
        } else {
            log(number, first.kind() == 'l' ? 5 : 1, first.number());
            run(number, first.number(), 0);
        }
        return 1;
    }

    private boolean confirm(int number, Worker l) {
        long since = l.last == null ? l.start : l.last;
        if (l.quiet == 0 || clock - l.start > l.timeout || clock - since > l.quiet) {
            become(number, 4);
            become(number, 5);
            return true;
        }
        return false;
    }

    private void run(int thread, int task, int from) {
        List<Order> orders = tasks.get(task);
        int i = from;
        try {
            while (i < orders.size()) {
                Order o = orders.get(i++);
                check(done < 1000);
                done++;
                obey(thread, o.kind(), o.a(), o.b());
            }
        } catch (Thrown e) {
            log(thread, 2, task);
        } catch (Blocked e) {
            loops.get(thread).task = task;
            loops.get(thread).place = i;
        }
    }

    private void obey(int thread, int kind, int a, int b) {
        switch (kind) {
            case 0 -> log(thread, 0, a);
            case 1 -> execute(thread, a, b);
            case 2 -> timer(thread, a, b, thread);
            case 3 -> {
                check(a >= 0 && a < timers);
                loops.forEach(l -> l.timers.removeIf(t -> t.number() == a));
            }
            case 4, 5, 6 -> complete(thread, a, kind - 3, b);
            case 7 -> listen(thread, a, b);
            case 8 -> await(thread, a);
            case 10 -> {
                check(has(channels, a));
                fire(thread, a, b);
            }
            case 11 -> {
                check(has(channels, a));
                fire(thread, a % 2 == 0 ? a + 1 : a - 1, b);
            }
            case 12 -> shutdown(a, b);
            case 13 -> pin(a);
            default -> throw new Thrown();
        }
    }

    private int execute(int thread, int task, int loop) {
        check(has(tasks, task) && (has(loops, loop) || loop == -1 || loop == -2));
        int target = loop;
        if (loop == -1) {
            target = thread;
        } else if (loop == -2) {
            target = chooser++ % loops.size();
        }
        return put(thread, target, 't', task, 0);
    }

    private int put(int thread, int loop, char kind, int number, int message) {
        Worker l = loops.get(loop);
        if (l.state > 3 || l.queue.size() == 24) {
            log(thread, 4, kind == 'm' ? -1 : number);
            return -1;
        }
        start(loop);
        l.queue.add(new Queued(kind, number, message));
        return loop;
    }

    private int timer(int thread, int task, int delay, int loop) {
        check(has(tasks, task) && delay >= 0);
        Worker l = loops.get(loop);
        if (l.state > 2 || l.timers.size() == 24 || timers == 400) {
            log(thread, 4, task);
            return -1;
        }
        start(loop);
        log(thread, 9, timers);
        l.timers.add(new Timer(timers, task, clock + delay));
        return timers++;
    }

    private void shutdown(int quiet, int timeout) {
        check(0 <= quiet && quiet <= timeout);
        for (int i = 0; i < loops.size(); i++) {
            Worker l = loops.get(i);
            if (l.state < 3) {
                l.quiet = quiet;
                l.timeout = timeout;
                l.start = clock;
                become(i, 3);
            }
        }
    }

    private boolean pin(int promise) {
        check(has(promises, promise));
        boolean pending = promises.get(promise).state == 0;
        promises.get(promise).pinned |= pending;
        return pending;
    }

    private boolean complete(int thread, int promise, int how, int value) {
        check(has(promises, promise));
        Row p = promises.get(promise);
        if (p.state != 0 || how == 3 && p.pinned) {
            return false;
        }
        p.state = how;
        p.value = how == 3 ? 0 : value;
        List<Integer> waiting = p.listeners;
        p.listeners = new ArrayList<>();
        waiting.forEach(task -> notify(thread, p, task));
        return true;
    }

    private void listen(int thread, int promise, int task) {
        check(has(promises, promise) && has(tasks, task));
        Row p = promises.get(promise);
        if (p.state != 0) {
            notify(thread, p, task);
        } else {
            check(p.listeners.size() < 6);
            p.listeners.add(task);
        }
    }

    private void notify(int thread, Row p, int task) {
        if (thread == p.executor && notifications < 4) {
            notifications++;
            log(thread, 5, task);
            run(thread, task, 0);
            notifications--;
        } else {
            put(thread, p.executor, 'l', task, 0);
        }
    }

    private void await(int thread, int promise) {
        check(has(promises, promise));
        Row p = promises.get(promise);
        if (p.state != 0) {
            return;
        }
        if (notifications + messages > 0 || thread == p.executor) {
            log(thread, 3, promise);
            return;
        }
        loops.get(thread).awaited = p;
        loops.get(thread).awaitedNumber = promise;
        throw new Blocked();
    }

    private int fire(int thread, int channel, int message) {
        int loop = channels.get(channel).executor;
        if (thread == loop && messages < 4) {
            pipeline(thread, channel, message);
            return loop;
        }
        return put(thread, loop, 'm', channel, message);
    }

    private void pipeline(int thread, int channel, int message) {
        messages++;
        int carried = message;
        boolean thrown = false;
        boolean swallowed = false;
        for (Handler h : channels.get(channel).handlers) {
            // Skipped are kind 6 with messages, all others with what was thrown.
            if (swallowed || thrown != (h.kind() == 6)) {
                continue;
            }
            if (thrown) {
                swallowed = true;
                continue;
            }
            log(thread, 6, 1_000_000 * h.number() + carried);
            switch (h.kind()) {
                case 1 -> carried += h.number();
                case 2 -> swallowed = Math.floorMod(carried, 2) == 1;
                case 3 -> echo(thread, channel, carried);
                case 4 -> run(thread, h.task(), 0);
                case 5 -> thrown = Math.floorMod(carried, 3) == 0;
                default -> { }
            }
        }
        if (!swallowed) {
            log(thread, thrown ? 2 : 8, thrown ? -1 - channel : carried);
        }
        messages--;
    }

    private void echo(int thread, int channel, int message) {
        if (done < 1000) {
            done++;
            fire(thread, channel % 2 == 0 ? channel + 1 : channel - 1, message);
        }
    }

    private void start(int loop) {
        if (loops.get(loop).state == 1) {
            become(loop, 2);
        }
    }

    private void become(int loop, int state) {
        loops.get(loop).state = state;
        log(loop, 7, state);
    }

    private void log(int loop, int kind, int value) {
        trace.add(new Entry(loop, kind, value));
    }

    private static Row row(int loop) {
        Row row = new Row();
        row.executor = loop;
        return row;
    }

    private static boolean has(List<?> list, int k) {
        return k >= 0 && k < list.size();
    }

    private static void argument(boolean right) {
        if (!right) {
            throw new IllegalArgumentException();
        }
    }

    private static void state(boolean right) {
        if (!right) {
            throw new IllegalStateException();
        }
    }

    private static void check(boolean right) {
        if (!right) {
            throw new Thrown();
        }
    }
}
