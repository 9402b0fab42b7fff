/** The class under test, called by name. */
final class RealFace implements Face {
    private final LoopGroup group;

    RealFace(int n) {
        group = new LoopGroup(n);
    }

    @Override
    public long call(String name, int... a) {
        switch (name) {
            case "task": return group.task();
            case "order": return group.order(a[0], a[1], a[2], a[3]);
            case "promise": return group.promise(a[0]);
            case "channels": return group.channels(a[0], a[1]);
            case "handler": return group.handler(a[0], a[1], a[2], a[3]);
            case "advance": return group.advance(a[0]);
            case "execute": return group.execute(a[0], a[1]);
            case "timer": return group.timer(a[0], a[1], a[2]);
            case "cancel": return group.cancel(a[0]) ? 1 : 0;
            case "complete": return group.complete(a[0], a[1], a[2]) ? 1 : 0;
            case "listen": group.listen(a[0], a[1]); return 0;
            case "fire": group.fire(a[0], a[1]); return 0;
            case "shutdown": group.shutdown(a[0], a[1]); return 0;
            case "step": return group.step(a[0]);
            case "loop": return group.loop(a[0], a[1]);
            case "look": return group.look(a[0], a[1]);
            case "traced": return group.traced();
            case "trace": return group.trace(a[0], a[1]);
            default: throw new UnsupportedOperationException(name);
        }
    }
}
