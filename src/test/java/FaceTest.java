import java.lang.management.ManagementFactory;
import java.lang.reflect.Constructor;
import java.lang.reflect.Field;
import java.lang.reflect.Method;
import java.lang.reflect.Modifier;
import java.util.Set;
import java.util.TreeSet;

/** The public face is the document's and no more; and calls make no objects, as all of a run share one room. */
public final class FaceTest {
    static final String[] FACE = {"int feed(int,int,int,int,int)", "boolean end(int)", "int town()", "int fault()",
        "int name(int,int)", "int soul(int,int)", "int worth(int,int)", "int now(int)", "int take(int,int)", "int swap(int,int)",
        "int sell(int,int)", "int die(int,int)", "int flee(int)", "int pay(int,int)", "int lot(int,int)", "int mondays(int)", "int undo()",
        "int called(int,int)", "int holder(int,int)", "int bearers(int)", "int howLong(int,int)", "int wishes()", "int swaps()",
        "int partner(int)", "int bidder(int)", "int bid(int)", "int must(int)", "int ledger()", "int votes(int)", "int party()",
        "int least(int)", "int cheapest()", "int feasts(int,int)", "int queue(int)", "int drawn(int,int)", "int odds(int,int,int)",
        "int roll(int)", "int rolled(int)", "int sentence()", "int said(int)", "boolean image(int)", "boolean restore(int)", "int count(int)"};

    public static void main(String[] args) {
        face();
        hidden();
        room();
        Check.close();
    }

    private static void face() {
        Set<String> due = new TreeSet<>(Set.of(FACE));
        Set<String> found = new TreeSet<>();
        Set<String> open = new TreeSet<>();
        Set<String> hidden = new TreeSet<>();
        for (Method m : NamesAgain.class.getDeclaredMethods()) {
            if (Modifier.isPrivate(m.getModifiers())) {
                hidden.add(m.getName());
            } else {
                StringBuilder types = new StringBuilder();
                for (Class<?> type : m.getParameterTypes()) {
                    types.append(types.length() == 0 ? "" : ",").append(type.getName());
                }
                found.add(m.getReturnType().getName() + " " + m.getName() + "(" + types + ")");
                open.add(m.getName());
                Check.is(m.getName() + " is public and of an object", m.getModifiers() == Modifier.PUBLIC);
            }
        }
        Check.is("the methods are " + due + ", found " + found, due.equals(found));
        hidden.retainAll(open);
        Check.is("no private method bears a public one's name: " + hidden, hidden.isEmpty());
        Check.eq("NONE", NamesAgain.NONE, -1);
        Check.is("the class", NamesAgain.class.getModifiers() == (Modifier.PUBLIC | Modifier.FINAL));
    }

    private static void hidden() {
        for (Field f : NamesAgain.class.getDeclaredFields()) {
            Check.is(f.getName() + " is private", Modifier.isPrivate(f.getModifiers()) || f.getName().equals("NONE"));
            Check.is(f.getName() + " is final, if static", !Modifier.isStatic(f.getModifiers()) || Modifier.isFinal(f.getModifiers()));
        }
        Constructor<?>[] made = NamesAgain.class.getDeclaredConstructors();
        Check.eq("one constructor", made.length, 1);
        Check.is("it is public, without arguments", Modifier.isPublic(made[0].getModifiers()) && made[0].getParameterCount() == 0);
        Set<String> open = new TreeSet<>();
        for (String line : FACE) {
            open.add(line.substring(line.indexOf(' ') + 1, line.indexOf('(')));
        }
        for (Class<?> inside : NamesAgain.class.getDeclaredClasses()) {
            for (Method m : inside.getDeclaredMethods()) {
                Check.is(m + " bears no public method's name", !open.contains(m.getName()));
            }
            Check.is(inside.getName() + " is private and static",
                Modifier.isPrivate(inside.getModifiers()) && Modifier.isStatic(inside.getModifiers()));
        }
    }

    private static void room() {
        com.sun.management.ThreadMXBean bean = (com.sun.management.ThreadMXBean) ManagementFactory.getThreadMXBean();
        NamesAgain x = Check.town("name a 1;name b 2;feast a 2;debt a 5;soul s 90 called a;soul t 9 called b;soul u 9;wish s b;");
        useAll(x);
        long id = Thread.currentThread().getId();
        bean.getThreadAllocatedBytes(id);
        long ahead = bean.getThreadAllocatedBytes(id);
        for (int i = 0; i < 1000; i++) {
            useAll(x);
        }
        long made = bean.getThreadAllocatedBytes(id) - ahead;
        Check.is("calls make no objects, made " + made + " bytes", made < 50_000);
    }

    /** Every call that could make something, on one object. */
    private static void useAll(NamesAgain x) {
        // "s swaps t;monday 1;" and "waits or not (glad)"
        x.feed(0x73207377, 0x61707320, 0x743b6d6f, 0x6e646179, 0x20313b20);
        x.roll(1);
        x.feed(0x77616974, 0x73206f72, 0x206e6f74, 0x2028676c, 0x61642920);
        x.sentence();
        x.said(-1);
        x.image(0);
        x.wishes();
        x.swaps();
        x.party();
        x.bid(0);
        x.least(2);
        x.odds(0, 3, 7);
        x.drawn(1, 5);
        x.undo();
        x.flee(0);
        x.lot(0, 9);
        x.mondays(1);
        x.feed(0x61006162, 0, 0, 0, 0);
        x.ledger();
        x.feed(0x61006162, 0, 0, 0, 0);
        x.town();
        x.restore(0);
        x.undo();
    }
}
