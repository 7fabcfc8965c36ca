import com.sun.management.ThreadMXBean;
import java.lang.management.ManagementFactory;

/** All calls live in one room: no call makes an object, and a new one makes few. */
public final class RoomTest {
    private static final long FEW_BYTES = 20_000;

    public static void main(String[] args) {
        if (!(ManagementFactory.getThreadMXBean() instanceof ThreadMXBean bean)
            || !bean.isThreadAllocatedMemorySupported()) {
            System.out.println("RoomTest: this machine can't tell");
            return;
        }
        DearLetters x = Due.town(Due.TOWN);
        calls(x);
        long made = bean.getCurrentThreadAllocatedBytes();
        made = bean.getCurrentThreadAllocatedBytes() - made;
        long before = bean.getCurrentThreadAllocatedBytes();
        for (int i = 0; i < 10; i++) {
            calls(x);
        }
        long after = bean.getCurrentThreadAllocatedBytes();
        Due.is("calls make nothing", after - before - made, 0);
        before = bean.getCurrentThreadAllocatedBytes();
        DearLetters y = new DearLetters();
        after = bean.getCurrentThreadAllocatedBytes();
        Due.is("a new object is small: " + (after - before), Math.max(FEW_BYTES, after - before), FEW_BYTES);
        Due.is("and new", y.asked(), 0);
        Due.end("RoomTest");
    }

    private static long calls(DearLetters x) {
        long sum = x.fault(0) + x.town(0) + x.row(1, 2) + x.lay(1, 0, 1) + x.lay(1, 1, 4) + x.at(1, 1) + x.mean(1);
        sum += x.copy(1, 0, 1, 1, 1) + x.text(3, 9) + x.put(3, 0, 4) + x.send(0, 6, 30, 2) + x.send(6, 0, 30, 2);
        sum += x.bearer(0, 2) + x.mark(1, 1) + x.purse(0, 50) + x.snow(1, 0) + x.asks(0, 4) + x.beside(0);
        sum += x.keep(1) + x.cheapest(0, 2) + x.soonest(0, 3) + x.comes(0) + x.bars(0) + x.why(0) + x.needs(0);
        sum += x.lend(0) + x.block(0) + x.worth(0, 0, 0) + x.bundle(1) + x.post(3) + x.fake(0, 6, 9);
        sum += x.sell(0, 1) + x.days(1) + x.where(0) + x.letter(0, 2) + x.can(0) + x.gain(0) + x.undo(0);
        sum += x.had(0, 1) + x.sure(0, 1) + x.first(0, 1, 4) + x.luck(10, 7) + x.on(1) + x.asked() + x.upper();
        return sum + x.lower() + x.count(5) + x.finding() + x.findings(1) + x.digest() + x.tear(1);
    }
}
