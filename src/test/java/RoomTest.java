import com.sun.management.ThreadMXBean;
import java.lang.management.ManagementFactory;
import java.util.LinkedHashMap;
import java.util.Map;
import java.util.function.Function;
import java.util.function.Supplier;

/**
 * The room of a run: 512 calls of the dearest kind, each in the state in which it makes most, stay below some 600,000
 * objects and 7.3 million elements. What a call makes is measured in bytes: an object takes sixteen at least, an element
 * one, so bytes below the lesser of both limits hold both. (Left out: page() of fields far longer than those here, whose
 * answer has to be as long as they are.)
 */
public final class RoomTest {
    private static final int CALLS = 512;
    private static final long OBJECTS = 600_000;
    private static final long ELEMENTS = 7_300_000;
    private static final long LEAST_OBJECT = 16;

    private static final String[] TEXTS = {"", "aa,".repeat(100), "aa\n".repeat(100), "aa,aa,aa,aa,aa,aa,aa,aa\n".repeat(12), "a\n".repeat(150),
        "\"a\"\n".repeat(75), "\n".repeat(300), ",".repeat(300), "a".repeat(300), "0=ab!".repeat(60).substring(0, 299), "0:b", "a \"".repeat(100)};
    private static final String[] ROWS = {"a", "##", "##,1,cc,dd,ee,ff,gg,hh", "##,1,cc,dd", "\"\"\"\",\"\n\",\"\"\"\""};

    private static final ThreadMXBean MEASURE = (ThreadMXBean) ManagementFactory.getThreadMXBean();

    private static Map<String, Function<Commadesk, Object>> calls() {
        Map<String, Function<Commadesk, Object>> calls = new LinkedHashMap<>();
        calls.put("type", x -> x.type(10));
        calls.put("rub", x -> x.rub(1));
        calls.put("wipe", Commadesk::wipe);
        calls.put("take", x -> x.take(0, 0, 0));
        calls.put("mode", x -> x.mode(3, 1, true, true));
        calls.put("begin", Commadesk::begin);
        calls.put("feed", x -> x.feed(0, x.desk(0)));
        calls.put("finish", x -> x.finish(0));
        calls.put("read", x -> x.read(0));
        calls.put("write", x -> x.write(0, true));
        calls.put("fix", x -> x.fix(0));
        for (int width : new int[] {1, 2, 3, 40}) calls.put("readFixed " + width, x -> x.readFixed(0, width));
        calls.put("insert", x -> x.insert(0, 0, 8));
        calls.put("put", x -> x.put(0, 0, 0));
        calls.put("drop", x -> x.drop(0, 0));
        calls.put("move", x -> x.move(0, 0, x.rows(0) - 1));
        calls.put("dropColumn", x -> x.dropColumn(0, 0));
        calls.put("copy", x -> x.copy(0));
        calls.put("stack", x -> x.stack(0));
        calls.put("part", x -> x.part(0, 0));
        calls.put("turn", x -> x.turn(0));
        for (int how = 0; how <= 2; how++) {
            int by = how;
            calls.put("sort " + how, x -> x.sort(0, 0, by, true, 0));
        }
        calls.put("filter", x -> x.filter(0, 0));
        calls.put("group", x -> x.group(0, 0, 1));
        calls.put("join", x -> x.join(0, 0, 0));
        calls.put("heads", x -> x.heads(0));
        calls.put("sample", x -> x.sample(0, 1, 10));
        calls.put("undo", Commadesk::undo);
        calls.put("text", Commadesk::text);
        calls.put("rows", x -> x.rows(0));
        calls.put("fields", x -> x.fields(0, 0));
        calls.put("cell", x -> x.cell(0, 0, 0));
        calls.put("isEven", x -> x.isEven(0));
        calls.put("headed", x -> x.headed(0));
        calls.put("find", x -> x.find(0, 0, 0));
        calls.put("typeOf", x -> x.typeOf(0, 0, 0));
        calls.put("wrong", x -> x.wrong(0, 0, 1));
        calls.put("total", x -> x.total(0, 0));
        calls.put("written", x -> x.written(0, true));
        calls.put("page", x -> x.page(0, 0, 40));
        calls.put("differences", x -> x.differences(0));
        calls.put("guess", Commadesk::guess);
        calls.put("filterFault", Commadesk::filterFault);
        calls.put("passes", x -> x.passes(0, 0));
        calls.put("fault", x -> x.fault(0, 0));
        calls.put("desk", x -> x.desk(0));
        calls.put("isSound", Commadesk::isSound);
        calls.put("knock", Commadesk::knock);
        calls.put("digest", Commadesk::digest);
        return calls;
    }

    /** Both tables with such rows ("##" is another text in each), like ones or not, a reading that goes on, and the text. */
    private static Commadesk filled(String row, int many, boolean areLike, String text) {
        Commadesk x = new Commadesk();
        for (int table = 0; table <= 1; table++) {
            x.begin();
            for (int i = 0; i < many; i++) {
                Trial.type(x, row.replace("##", "" + table + (char) ('a' + i / 10) + i % 10) + "\n");
                x.feed(0, x.desk(0));
            }
            x.finish(table);
        }
        if (areLike) x.copy(1);
        Trial.type(x, text).begin();
        if (text.length() < 300) x.feed(0, x.desk(0));
        return x;
    }

    /** The most bytes that a call takes in any of these states. */
    private static long dearest(Function<Commadesk, Object> call) {
        long dearest = bytes(Commadesk::new, call);
        for (String row : ROWS) {
            for (int many : new int[] {8, 20, 40}) {
                for (String text : TEXTS) {
                    dearest = Math.max(dearest, bytes(() -> filled(row, many, false, text), call));
                    dearest = Math.max(dearest, bytes(() -> filled(row, many, true, text), call));
                }
            }
        }
        return dearest;
    }

    /** How many bytes one call takes, the lesser of two times: at first the machine may load a class. */
    private static long bytes(Supplier<Commadesk> made, Function<Commadesk, Object> call) {
        return Math.min(bytes(made.get(), call), bytes(made.get(), call));
    }

    /** How many bytes one call takes; none, if it throws. */
    private static long bytes(Commadesk x, Function<Commadesk, Object> call) {
        long before = MEASURE.getCurrentThreadAllocatedBytes();
        try {
            call.apply(x);
        } catch (RuntimeException e) {
            return 0;
        }
        return MEASURE.getCurrentThreadAllocatedBytes() - before;
    }

    public static void main(String[] args) {
        long most = Math.min(OBJECTS * LEAST_OBJECT, ELEMENTS) / CALLS;
        int wrong = 0;
        for (Map.Entry<String, Function<Commadesk, Object>> call : calls().entrySet()) {
            long dearest = dearest(call.getValue());
            if (args.length > 0) System.out.println(call.getKey() + ": " + dearest);
            if (dearest > most) {
                wrong++;
                System.out.println(call.getKey() + " takes " + dearest + " bytes, more than " + most);
            }
        }
        if (wrong != 0) System.exit(1);
        System.out.println("no call takes more than " + most + " bytes");
    }
}
