/**
 * A group of event loops whose threads go on only by step(), so that any interleaving can be tried.
 *
 * <p>What every call does stands in DOC.md. All rows are made by the constructor and used again; a THROW of
 * an order is no Java exception: it is found before the order is done, and ends just the task that it stands in.
 */
public final class LoopGroup {
    private static final int HOST = -1;
    private static final int NONE = -1;

    private static final int MOST_LOOPS = 8;
    private static final int MOST_TASKS = 24;
    private static final int MOST_ORDERS = 8;
    private static final int MOST_PROMISES = 32;
    private static final int MOST_LISTENERS = 6;
    private static final int MOST_CHANNELS = 16;
    private static final int MOST_HANDLERS = 6;
    private static final int MOST_QUEUED = 24;
    private static final int MOST_WAITING_TIMERS = 24;
    private static final int MOST_TIMERS_EVER = 400;
    private static final int MOST_IN_A_BATCH = 16;
    private static final int MOST_NESTED = 4;
    private static final int MOST_DONE_IN_A_STEP = 1000;
    private static final int MOST_ADVANCE = 1000000;
    private static final int KEPT_ENTRIES = 300;

    private static final int OWN_LOOP = -1;
    private static final int CHOSEN_LOOP = -2;
    private static final int ADD_AT_END = -1;

    private static final int NOT_STARTED = 1;
    private static final int STARTED = 2;
    private static final int SHUTTING_DOWN = 3;
    private static final int SHUT_DOWN = 4;
    private static final int TERMINATED = 5;

    private static final int ORDER_LOG = 0;
    private static final int ORDER_EXECUTE = 1;
    private static final int ORDER_TIMER = 2;
    private static final int ORDER_CANCEL_TIMER = 3;
    private static final int ORDER_SUCCEED = 4;
    private static final int ORDER_FAIL = 5;
    private static final int ORDER_CANCEL_PROMISE = 6;
    private static final int ORDER_LISTEN = 7;
    private static final int ORDER_AWAIT = 8;
    private static final int ORDER_FIRE = 10;
    private static final int ORDER_WRITE = 11;
    private static final int ORDER_SHUTDOWN = 12;
    private static final int ORDER_PIN = 13;
    private static final int LAST_ORDER_KIND = 13;

    private static final int LOGGED = 0;
    private static final int BEGINS = 1;
    private static final int THREW = 2;
    private static final int BLOCKING = 3;
    private static final int REJECTED = 4;
    private static final int LISTENER_BEGINS = 5;
    private static final int HANDLER_GETS = 6;
    private static final int STATE_CHANGED = 7;
    private static final int UNHANDLED = 8;
    private static final int TIMER_MADE = 9;
    private static final int AWAIT_OVER = 10;

    private static final int PENDING = 0;
    private static final int SUCCEEDED = 1;
    private static final int FAILED = 2;
    private static final int CANCELLED = 3;
    private static final int PIN = 4;

    private static final int ADDS = 1;
    private static final int SWALLOWS_ODD = 2;
    private static final int ECHOES = 3;
    private static final int RUNS_TASK = 4;
    private static final int THROWS_ON_THIRDS = 5;
    private static final int CATCHES = 6;
    private static final int LAST_HANDLER_KIND = 6;
    private static final int HANDLER_FACTOR = 1000000;

    private static final int QUEUED_TASK = 0;
    private static final int QUEUED_LISTENER = 1;
    private static final int QUEUED_MESSAGE = 2;
    private static final int NO_NUMBER = -1;

    private static final int NOTHING_RAN = 0;
    private static final int SOMETHING_RAN = 1;
    private static final int STILL_BLOCKED = 2;
    private static final int BECAME_TERMINATED = 3;

    private final Loop[] loops;
    private final Task[] tasks;
    private final Promise[] promises;
    private final Channel[] channels;
    private final Trace log;
    private int taskCount;
    private int promiseCount;
    private int channelCount;
    private int handlersMade;
    private int timersMade;
    private int chosen;
    private long clock;
    // Only one thread moves at a time and none stops within a nested run, so one set of counters serves all loops.
    private int doneInStep;
    private int notifying;
    private int firing;

    public LoopGroup(int n) {
        loops = new Loop[n >= 1 && n <= MOST_LOOPS ? n : 1];
        for (int i = 0; i < loops.length; i++) {
            loops[i] = new Loop();
        }
        tasks = new Task[MOST_TASKS];
        for (int i = 0; i < tasks.length; i++) {
            tasks[i] = new Task();
        }
        promises = new Promise[MOST_PROMISES];
        for (int i = 0; i < promises.length; i++) {
            promises[i] = new Promise();
        }
        channels = new Channel[MOST_CHANNELS];
        for (int i = 0; i < channels.length; i++) {
            channels[i] = new Channel();
        }
        log = new Trace();
    }

    // ---- What the host sets up ----

    public int task() throws IllegalStateException {
        if (taskCount >= MOST_TASKS) {
            throw new IllegalStateException();
        }
        taskCount++;
        return taskCount - 1;
    }

    public int order(int task, int kind, int a, int b) throws IllegalArgumentException, IllegalStateException {
        if (!isTask(task) || kind < 0 || kind > LAST_ORDER_KIND) {
            throw new IllegalArgumentException();
        }
        if (tasks[task].isFull()) {
            throw new IllegalStateException();
        }
        tasks[task].append(kind, a, b);
        return tasks[task].size;
    }

    public int promise(int loop) throws IllegalArgumentException, IllegalStateException {
        if (!isLoop(loop)) {
            throw new IllegalArgumentException();
        }
        if (promiseCount >= MOST_PROMISES) {
            throw new IllegalStateException();
        }
        promises[promiseCount].executor = loop;
        promiseCount++;
        return promiseCount - 1;
    }

    public int channels(int first, int second) throws IllegalArgumentException, IllegalStateException {
        if (!isLoop(first) || !isLoop(second)) {
            throw new IllegalArgumentException();
        }
        if (channelCount + 2 > MOST_CHANNELS) {
            throw new IllegalStateException();
        }
        channels[channelCount].loop = first;
        channels[channelCount + 1].loop = second;
        channelCount += 2;
        return channelCount - 2;
    }

    public int handler(int channel, int kind, int task, int place)
            throws IllegalArgumentException, IllegalStateException {
        if (!isChannel(channel)) {
            throw new IllegalArgumentException();
        }
        Channel pipeline = channels[channel];
        boolean adds = place == ADD_AT_END;
        if (adds ? !isHandler(kind, task) : !pipeline.hasPlace(place)) {
            throw new IllegalArgumentException();
        }
        if (!adds) {
            return pipeline.takeAway(place);
        }
        if (pipeline.isFull()) {
            throw new IllegalStateException();
        }
        pipeline.append(handlersMade, kind, task);
        handlersMade++;
        return handlersMade - 1;
    }

    public long advance(int by) throws IllegalArgumentException {
        if (by < 0 || by > MOST_ADVANCE) {
            throw new IllegalArgumentException();
        }
        clock += by;
        return clock;
    }

    // ---- What the host does as orders do it ----

    public int execute(int task, int loop) throws IllegalArgumentException, IllegalStateException {
        if (!isTask(task) || !isLoopToChoose(loop)) {
            throw new IllegalArgumentException();
        }
        int target = loopMeant(loop);
        if (!enqueue(HOST, target, QUEUED_TASK, task, 0)) {
            throw new IllegalStateException();
        }
        return target;
    }

    public int timer(int task, int delay, int loop) throws IllegalArgumentException, IllegalStateException {
        if (!isTask(task) || delay < 0 || !isLoop(loop)) {
            throw new IllegalArgumentException();
        }
        if (!schedule(HOST, loop, task, delay)) {
            throw new IllegalStateException();
        }
        return timersMade - 1;
    }

    public boolean cancel(int timer) {
        return takeTimerAway(timer);
    }

    public boolean complete(int promise, int how, int value) throws IllegalArgumentException {
        if (!isPromise(promise) || how < SUCCEEDED || how > PIN) {
            throw new IllegalArgumentException();
        }
        return how == PIN ? promises[promise].pin() : finish(HOST, promise, how, value);
    }

    public void listen(int promise, int task) throws IllegalArgumentException {
        if (!canListen(promise, task)) {
            throw new IllegalArgumentException();
        }
        addListener(HOST, promise, task);
    }

    public void fire(int channel, int message) throws IllegalArgumentException, IllegalStateException {
        if (!isChannel(channel)) {
            throw new IllegalArgumentException();
        }
        if (!send(HOST, channel, message)) {
            throw new IllegalStateException();
        }
    }

    public void shutdown(int quiet, int timeout) throws IllegalArgumentException {
        if (!canShutDown(quiet, timeout)) {
            throw new IllegalArgumentException();
        }
        shutLoopsDown(quiet, timeout);
    }

    // ---- What moves the loops, and what is seen of them ----

    public int step(int loop) throws IllegalArgumentException {
        if (!isLoop(loop)) {
            throw new IllegalArgumentException();
        }
        Loop mover = loops[loop];
        if (mover.state == NOT_STARTED || mover.state == TERMINATED) {
            return NOTHING_RAN;
        }
        doneInStep = 0;
        if (mover.state == SHUTTING_DOWN) {
            mover.timers.clear();
        }
        if (mover.isBlocked()) {
            return goOn(loop);
        }
        if (mover.batch == 0) {
            mover.beginBatch(clock);
        }
        if (mover.queue.size > 0) {
            runFirst(loop);
            return SOMETHING_RAN;
        }
        if (mover.state == SHUTTING_DOWN && mover.confirms(clock)) {
            changeState(loop, SHUT_DOWN);
            changeState(loop, TERMINATED);
            return BECAME_TERMINATED;
        }
        return NOTHING_RAN;
    }

    public int loop(int loop, int what) throws IllegalArgumentException {
        if (!isLoop(loop)) {
            throw new IllegalArgumentException();
        }
        Loop seen = loops[loop];
        switch (what) {
            case 0:
                return seen.state;
            case 1:
                return seen.queue.size;
            case 2:
                return seen.timers.size;
            case 3:
                return seen.isBlocked() ? 1 : 0;
            case 4:
                return seen.batch;
            default:
                throw new IllegalArgumentException();
        }
    }

    public int look(int promise, int what) throws IllegalArgumentException {
        if (!isPromise(promise)) {
            throw new IllegalArgumentException();
        }
        Promise seen = promises[promise];
        switch (what) {
            case 0:
                return seen.state;
            case 1:
                return seen.value;
            case 2:
                return seen.waiting;
            default:
                throw new IllegalArgumentException();
        }
    }

    public int traced() {
        return log.count;
    }

    public int trace(int k, int what) throws IllegalArgumentException, IndexOutOfBoundsException {
        if (what < 0 || what > 2) {
            throw new IllegalArgumentException();
        }
        if (!log.keeps(k)) {
            throw new IndexOutOfBoundsException();
        }
        return log.part(k, what);
    }

    // ---- What there is ----

    private boolean isLoop(int loop) {
        return loop >= 0 && loop < loops.length;
    }

    private boolean isLoopToChoose(int loop) {
        return loop == CHOSEN_LOOP || isLoop(loop);
    }

    private boolean isTask(int task) {
        return task >= 0 && task < taskCount;
    }

    private boolean isPromise(int promise) {
        return promise >= 0 && promise < promiseCount;
    }

    private boolean isChannel(int channel) {
        return channel >= 0 && channel < channelCount;
    }

    private boolean isHandler(int kind, int task) {
        return kind >= 0 && kind <= LAST_HANDLER_KIND && (kind != RUNS_TASK || isTask(task));
    }

    private static int peerOf(int channel) {
        // Channels are made two at a time from 0 on, so a pair's numbers differ in the lowest bit alone.
        return channel ^ 1;
    }

    // ---- A thread's run of orders ----

    private int goOn(int loop) {
        Loop mover = loops[loop];
        int promise = mover.awaited;
        if (!promises[promise].isDone()) {
            return STILL_BLOCKED;
        }
        mover.awaited = NONE;
        log.append(loop, AWAIT_OVER, promise);
        runOrders(loop, mover.restTask, mover.restPlace);
        return SOMETHING_RAN;
    }

    private void runFirst(int loop) {
        Loop mover = loops[loop];
        int kind = mover.queue.firstKind();
        int number = mover.queue.firstNumber();
        int message = mover.queue.firstMessage();
        // It leaves the queue before it runs: what it executes may need its place.
        mover.queue.dropFirst();
        mover.batch--;
        mover.last = clock;
        if (kind == QUEUED_MESSAGE) {
            log.append(loop, BEGINS, NO_NUMBER);
            runPipeline(number, message);
        } else {
            log.append(loop, kind == QUEUED_LISTENER ? LISTENER_BEGINS : BEGINS, number);
            runOrders(loop, number, 0);
        }
    }

    private void runOrders(int thread, int task, int from) {
        Task row = tasks[task];
        for (int place = from; place < row.size; place++) {
            int kind = row.kinds[place];
            int a = row.firsts[place];
            int b = row.seconds[place];
            if (!countDone() || !canBeDone(kind, a, b)) {
                log.append(thread, THREW, task);
                return;
            }
            obey(thread, kind, a, b);
            if (loops[thread].isBlocked()) {
                loops[thread].restTask = task;
                loops[thread].restPlace = place + 1;
                return;
            }
        }
    }

    /** Whether an order or an echo more has its place in this step. */
    private boolean countDone() {
        if (doneInStep >= MOST_DONE_IN_A_STEP) {
            return false;
        }
        doneInStep++;
        return true;
    }

    /** Whether an order is more than a THROW, as things stand when its turn comes. */
    private boolean canBeDone(int kind, int a, int b) {
        switch (kind) {
            case ORDER_LOG:
                return true;
            case ORDER_EXECUTE:
                return isTask(a) && (b == OWN_LOOP || isLoopToChoose(b));
            case ORDER_TIMER:
                return isTask(a) && b >= 0;
            case ORDER_CANCEL_TIMER:
                return a >= 0 && a < timersMade;
            case ORDER_SUCCEED:
            case ORDER_FAIL:
            case ORDER_CANCEL_PROMISE:
            case ORDER_AWAIT:
            case ORDER_PIN:
                return isPromise(a);
            case ORDER_LISTEN:
                return canListen(a, b);
            case ORDER_FIRE:
            case ORDER_WRITE:
                return isChannel(a);
            case ORDER_SHUTDOWN:
                return canShutDown(a, b);
            default:
                return false;
        }
    }

    private void obey(int thread, int kind, int a, int b) {
        switch (kind) {
            case ORDER_LOG:
                log.append(thread, LOGGED, a);
                break;
            case ORDER_EXECUTE:
                enqueue(thread, b == OWN_LOOP ? thread : loopMeant(b), QUEUED_TASK, a, 0);
                break;
            case ORDER_TIMER:
                schedule(thread, thread, a, b);
                break;
            case ORDER_CANCEL_TIMER:
                takeTimerAway(a);
                break;
            case ORDER_SUCCEED:
                finish(thread, a, SUCCEEDED, b);
                break;
            case ORDER_FAIL:
                finish(thread, a, FAILED, b);
                break;
            case ORDER_CANCEL_PROMISE:
                finish(thread, a, CANCELLED, 0);
                break;
            case ORDER_LISTEN:
                addListener(thread, a, b);
                break;
            case ORDER_AWAIT:
                block(thread, a);
                break;
            case ORDER_FIRE:
                send(thread, a, b);
                break;
            case ORDER_WRITE:
                send(thread, peerOf(a), b);
                break;
            case ORDER_SHUTDOWN:
                shutLoopsDown(a, b);
                break;
            case ORDER_PIN:
                promises[a].pin();
                break;
            default:
                break;
        }
    }

    private void block(int thread, int promise) {
        Promise awaited = promises[promise];
        if (awaited.isDone()) {
            return;
        }
        if (notifying > 0 || firing > 0 || awaited.executor == thread) {
            log.append(thread, BLOCKING, promise);
        } else {
            loops[thread].awaited = promise;
        }
    }

    // ---- Queues and timers ----

    private int loopMeant(int loop) {
        if (loop != CHOSEN_LOOP) {
            return loop;
        }
        int turn = chosen;
        chosen++;
        int n = loops.length;
        return (n & (n - 1)) == 0 ? turn & (n - 1) : Math.abs(turn % n);
    }

    /** Puts something to the end of a loop's queue: false when it is rejected. */
    private boolean enqueue(int thread, int loop, int kind, int number, int message) {
        Loop target = loops[loop];
        if (target.state >= SHUT_DOWN || target.queue.isFull()) {
            log.append(thread, REJECTED, kind == QUEUED_MESSAGE ? NO_NUMBER : number);
            return false;
        }
        startIfNew(loop);
        target.queue.append(kind, number, message);
        return true;
    }

    /** Makes a timer: false when it is rejected. */
    private boolean schedule(int thread, int loop, int task, int delay) {
        Loop target = loops[loop];
        if (target.state >= SHUTTING_DOWN || target.timers.isFull() || timersMade >= MOST_TIMERS_EVER) {
            log.append(thread, REJECTED, task);
            return false;
        }
        startIfNew(loop);
        target.timers.insert(timersMade, task, clock + delay);
        log.append(thread, TIMER_MADE, timersMade);
        timersMade++;
        return true;
    }

    private boolean takeTimerAway(int timer) {
        for (int i = 0; i < loops.length; i++) {
            if (loops[i].timers.drop(timer)) {
                return true;
            }
        }
        return false;
    }

    private void startIfNew(int loop) {
        if (loops[loop].state == NOT_STARTED) {
            changeState(loop, STARTED);
        }
    }

    private void changeState(int loop, int state) {
        loops[loop].state = state;
        log.append(loop, STATE_CHANGED, state);
    }

    private static boolean canShutDown(int quiet, int timeout) {
        return quiet >= 0 && quiet <= timeout;
    }

    private void shutLoopsDown(int quiet, int timeout) {
        for (int i = 0; i < loops.length; i++) {
            if (loops[i].state < SHUTTING_DOWN) {
                loops[i].setShutdown(quiet, timeout, clock);
                changeState(i, SHUTTING_DOWN);
            }
        }
    }

    // ---- Promises ----

    /** Completes a promise: false when it stays as it is. */
    private boolean finish(int thread, int promise, int how, int value) {
        Promise done = promises[promise];
        if (done.isDone() || (how == CANCELLED && done.pinned)) {
            return false;
        }
        int listeners = done.waiting;
        done.settle(how, how == CANCELLED ? 0 : value);
        // The row stays as it is meanwhile: listeners of a promise that is done never wait in it.
        for (int i = 0; i < listeners; i++) {
            tell(thread, done.executor, done.listeners[i]);
        }
        return true;
    }

    private boolean canListen(int promise, int task) {
        return isPromise(promise) && isTask(task) && promises[promise].hasRoom();
    }

    private void addListener(int thread, int promise, int task) {
        Promise heard = promises[promise];
        if (heard.isDone()) {
            tell(thread, heard.executor, task);
        } else {
            heard.addWaiting(task);
        }
    }

    private void tell(int thread, int executor, int task) {
        if (thread != executor || notifying >= MOST_NESTED) {
            enqueue(thread, executor, QUEUED_LISTENER, task, 0);
            return;
        }
        notifying++;
        log.append(thread, LISTENER_BEGINS, task);
        runOrders(thread, task, 0);
        notifying--;
    }

    // ---- Channels ----

    /** Fires a message at a channel: false when it is rejected. */
    private boolean send(int thread, int channel, int message) {
        int loop = channels[channel].loop;
        if (thread != loop || firing >= MOST_NESTED) {
            return enqueue(thread, loop, QUEUED_MESSAGE, channel, message);
        }
        runPipeline(channel, message);
        return true;
    }

    private void runPipeline(int channel, int message) {
        firing++;
        passThrough(channel, message);
        firing--;
    }

    private void passThrough(int channel, int message) {
        Channel pipeline = channels[channel];
        int carried = message;
        for (int place = 0; place < pipeline.size; place++) {
            int kind = pipeline.kinds[place];
            if (kind == CATCHES) {
                continue;
            }
            log.append(pipeline.loop, HANDLER_GETS, HANDLER_FACTOR * pipeline.numbers[place] + carried);
            if (kind == SWALLOWS_ODD && carried % 2 != 0) {
                return;
            }
            if (kind == THROWS_ON_THIRDS && carried % 3 == 0) {
                passThrown(channel, place + 1);
                return;
            }
            if (kind == ADDS) {
                carried += pipeline.numbers[place];
            } else if (kind == ECHOES) {
                echo(channel, carried);
            } else if (kind == RUNS_TASK) {
                runOrders(pipeline.loop, pipeline.tasks[place], 0);
            }
        }
        log.append(pipeline.loop, UNHANDLED, carried);
    }

    private void passThrown(int channel, int from) {
        Channel pipeline = channels[channel];
        for (int place = from; place < pipeline.size; place++) {
            if (pipeline.kinds[place] == CATCHES) {
                return;
            }
        }
        log.append(pipeline.loop, THREW, -1 - channel);
    }

    private void echo(int channel, int message) {
        if (countDone()) {
            send(channels[channel].loop, peerOf(channel), message);
        }
    }

    private static final class Loop {
        final Queue queue = new Queue();
        final Timers timers = new Timers();
        int state = NOT_STARTED;
        int batch;
        int awaited = NONE;
        int restTask;
        int restPlace;
        int quiet;
        int timeout;
        long start;
        long last;

        boolean isBlocked() {
            return awaited != NONE;
        }

        void beginBatch(long now) {
            int moved = Math.min(timers.countDue(now), queue.room());
            for (int i = 0; i < moved; i++) {
                queue.append(QUEUED_TASK, timers.tasks[i], 0);
            }
            timers.closeUp(0, moved);
            batch = Math.min(queue.size, MOST_IN_A_BATCH);
        }

        void setShutdown(int quietPeriod, int mostWait, long now) {
            quiet = quietPeriod;
            timeout = mostWait;
            start = now;
            last = now;
        }

        boolean confirms(long now) {
            return quiet == 0 || now - start > timeout || now - last > quiet;
        }
    }

    /** A ring of what was executed: tasks, listeners (by their tasks), messages (by their channels). */
    private static final class Queue {
        final int[] kinds = new int[MOST_QUEUED];
        final int[] numbers = new int[MOST_QUEUED];
        final int[] messages = new int[MOST_QUEUED];
        int first;
        int size;

        boolean isFull() {
            return size >= MOST_QUEUED;
        }

        int room() {
            return MOST_QUEUED - size;
        }

        void append(int kind, int number, int message) {
            int at = (first + size) % MOST_QUEUED;
            kinds[at] = kind;
            numbers[at] = number;
            messages[at] = message;
            size++;
        }

        int firstKind() {
            return kinds[first];
        }

        int firstNumber() {
            return numbers[first];
        }

        int firstMessage() {
            return messages[first];
        }

        void dropFirst() {
            first = (first + 1) % MOST_QUEUED;
            size--;
        }
    }

    /** The timers that wait at a loop, kept in the order of their deadlines, then numbers. */
    private static final class Timers {
        final int[] numbers = new int[MOST_WAITING_TIMERS];
        final int[] tasks = new int[MOST_WAITING_TIMERS];
        final long[] deadlines = new long[MOST_WAITING_TIMERS];
        int size;

        boolean isFull() {
            return size >= MOST_WAITING_TIMERS;
        }

        void insert(int number, int task, long deadline) {
            int at = size;
            // A new timer has the highest number, so it goes behind those of the same deadline.
            while (at > 0 && deadlines[at - 1] > deadline) {
                copy(at - 1, at);
                at--;
            }
            numbers[at] = number;
            tasks[at] = task;
            deadlines[at] = deadline;
            size++;
        }

        boolean drop(int number) {
            for (int i = 0; i < size; i++) {
                if (numbers[i] == number) {
                    closeUp(i, 1);
                    return true;
                }
            }
            return false;
        }

        int countDue(long now) {
            int due = 0;
            while (due < size && deadlines[due] <= now) {
                due++;
            }
            return due;
        }

        void closeUp(int from, int gap) {
            for (int i = from + gap; i < size; i++) {
                copy(i, i - gap);
            }
            size -= gap;
        }

        void clear() {
            size = 0;
        }

        void copy(int from, int to) {
            numbers[to] = numbers[from];
            tasks[to] = tasks[from];
            deadlines[to] = deadlines[from];
        }
    }

    private static final class Task {
        final int[] kinds = new int[MOST_ORDERS];
        final int[] firsts = new int[MOST_ORDERS];
        final int[] seconds = new int[MOST_ORDERS];
        int size;

        boolean isFull() {
            return size >= MOST_ORDERS;
        }

        void append(int kind, int a, int b) {
            kinds[size] = kind;
            firsts[size] = a;
            seconds[size] = b;
            size++;
        }
    }

    private static final class Promise {
        final int[] listeners = new int[MOST_LISTENERS];
        int executor;
        int state = PENDING;
        int value;
        int waiting;
        boolean pinned;

        boolean isDone() {
            return state != PENDING;
        }

        boolean pin() {
            if (isDone()) {
                return false;
            }
            pinned = true;
            return true;
        }

        void settle(int how, int result) {
            state = how;
            value = result;
            waiting = 0;
        }

        boolean hasRoom() {
            return waiting < MOST_LISTENERS;
        }

        void addWaiting(int task) {
            listeners[waiting] = task;
            waiting++;
        }
    }

    /** A channel's loop and its pipeline. */
    private static final class Channel {
        final int[] numbers = new int[MOST_HANDLERS];
        final int[] kinds = new int[MOST_HANDLERS];
        final int[] tasks = new int[MOST_HANDLERS];
        int loop;
        int size;

        boolean isFull() {
            return size >= MOST_HANDLERS;
        }

        boolean hasPlace(int place) {
            return place >= 0 && place < size;
        }

        void append(int number, int kind, int task) {
            numbers[size] = number;
            kinds[size] = kind;
            tasks[size] = task;
            size++;
        }

        int takeAway(int place) {
            int gone = numbers[place];
            for (int i = place + 1; i < size; i++) {
                numbers[i - 1] = numbers[i];
                kinds[i - 1] = kinds[i];
                tasks[i - 1] = tasks[i];
            }
            size--;
            return gone;
        }
    }

    /** A ring of the latest entries, three numbers each. */
    private static final class Trace {
        final int[] row = new int[3 * KEPT_ENTRIES];
        int count;

        void append(int loop, int kind, int value) {
            int at = 3 * (count % KEPT_ENTRIES);
            row[at] = loop;
            row[at + 1] = kind;
            row[at + 2] = value;
            count++;
        }

        boolean keeps(int k) {
            return k >= 0 && k < count && k >= count - KEPT_ENTRIES;
        }

        int part(int k, int what) {
            return row[3 * (k % KEPT_ENTRIES) + what];
        }
    }
}
