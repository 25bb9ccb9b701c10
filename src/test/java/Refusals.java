import java.util.Arrays;
import java.util.NoSuchElementException;
import java.util.function.Supplier;

/**
 * "What is refused answers as told and changes nothing": each argument of each call just below and just above what is
 * allowed, and far off, on objects in several states; behind each refused call all answers are those of a twin that was
 * not asked. The least and the greatest that are allowed are not refused.
 */
public final class Refusals {
    private static final int NONE = SwornDays.NONE;
    private static final int HIDDEN = SwornDays.HIDDEN;
    private static final int THROWN = Integer.MIN_VALUE + 7;

    /** A call of the face with its arguments in a row; a boolean counts 1 or 0. */
    private interface Call {
        int on(SwornDays x, int[] a);
    }

    private Refusals() {
    }

    private static int bit(boolean b) {
        return b ? 1 : 0;
    }

    private static int person(SwornDays x, int person, int what) {
        try {
            return x.person(person, what);
        } catch (NoSuchElementException e) {
            return THROWN;
        }
    }

    // ---- objects in several states

    private static SwornDays newOne() {
        return new SwornDays();
    }

    /** Tastes, rows, a tape, but no country. */
    private static SwornDays withoutCountry() {
        SwornDays x = new SwornDays();
        Check.tell(x, 1, "y:j");
        Check.tell(x, 1, "y:2");
        Check.tell(x, 2, "abc");
        Check.tell(x, 2, "h");
        x.taste(1);
        x.tempted(40);
        Check.tape(x, "abz");
        return x;
    }

    /** Persons 0 .. 2, vows 0 .. 3, eyes 0 .. 2, rows 0 .. 1, tastes 0 .. 1, days seen, days gone by, an image. */
    private static SwornDays some() {
        SwornDays x = Check.country("pw2s1:abc;pw0:cab;p:hh;da2j5h3;vt9;vp1k1a2n1t4;vp2k4a7n1t5;vk6a0t8;"
                + "ep1o0f0t1;ep0o1;ep1o2f1t1", "abc", "h");
        Check.tell(x, 1, "y:j");
        Check.tell(x, 1, "y:2");
        x.taste(1);
        x.tempted(40);
        x.see(0, 0);
        x.see(1, 1);
        x.days(2);
        x.image();
        x.change(0, 0, 5);
        x.days(1);
        Check.tape(x, "abz");
        return x;
    }

    /** As many of everything as there can be. */
    private static SwornDays full() {
        String eyes = ";e;ep1o0;ep2o3;eo4f11;ep4o2t0;ep3o1f1t2;ep3o2;e";
        SwornDays x = Check.country("pw2s9:abcdefghabcd;p:a;p:b;p:c;pw7:h;v;va1;va2;vk3;vp1;vp2k6a1;vp3k7a2;vp4"
                + eyes);
        for (int v = 8; v < 12; v++) {
            x.swear(v % 5, 1000 * (v % 6) + 12, v);
        }
        for (int i = 0; i < 4; i++) {
            Check.tell(x, 1, "y:j+" + i);
        }
        for (int i = 0; i < 6; i++) {
            Check.tell(x, 2, "abcdefgh".substring(i));
        }
        for (int i = 0; i < 8; i++) {
            x.see(i % 5, i % 6);
        }
        x.taste(3);
        x.tempted(99);
        x.days(60);
        x.image();
        x.decades(9, 5);
        StringBuilder rest = new StringBuilder();
        for (int i = 0; i < 240; i++) {
            rest.append('a');
        }
        Check.tape(x, rest.toString());
        return x;
    }

    // ---- refused calls

    private static void refused(String name, Supplier<SwornDays> maker, Call call, int[] args, int want) {
        SwornDays x = maker.get();
        String said = name + Arrays.toString(args);
        Check.due(said, call.on(x, args), want);
        int[] then = Trace.of(x);
        int[] twin = Trace.of(maker.get());
        Check.due(said + " changes nothing", Arrays.equals(then, twin), true);
    }

    private static void allowed(String name, Supplier<SwornDays> maker, Call call, int[] args, int refusal) {
        int got = call.on(maker.get(), args);
        Check.due(name + Arrays.toString(args) + " is not refused, it answered " + got, got != refusal, true);
    }

    /**
     * The call with arguments that are allowed, then with each of them at its least and its greatest, then with each
     * of them out of its bounds. The bounds stand as pairs.
     */
    private static void bounds(String name, Supplier<SwornDays> maker, Call call, int[] args, int refusal, int... b) {
        allowed(name, maker, call, args, refusal);
        for (int k = 0; k < args.length; k++) {
            int least = b[2 * k];
            int most = b[2 * k + 1];
            int[] with = args.clone();
            for (int value : new int[] {least, most}) {
                with[k] = value;
                allowed(name, maker, call, with, refusal);
            }
            int[] wrong = {least - 1, least - 2, least - 1000, most + 1, most + 2, most + 1000,
                Integer.MIN_VALUE, Integer.MAX_VALUE};
            for (int value : wrong) {
                with[k] = value;
                refused(name, maker, call, with, refusal);
            }
        }
    }

    private static int[] of(int... args) {
        return args;
    }

    private static void whatIsTold() {
        bounds("person ", Refusals::some, (x, a) -> person(x, a[0], a[1]), of(0, 1), THROWN, 0, 2, 0, 5);
        bounds("person ", Refusals::full, (x, a) -> person(x, a[0], a[1]), of(0, 3), THROWN, 0, 4, 0, 14);
        bounds("deed ", Refusals::some, (x, a) -> x.deed(a[0], a[1]), of(2, 0), NONE, 0, 7, 0, 1);
        bounds("vow ", Refusals::some, (x, a) -> x.vow(a[0], a[1]), of(1, 1), NONE, 0, 3, 0, 5);
        bounds("vow ", Refusals::full, (x, a) -> x.vow(a[0], a[1]), of(1, 1), NONE, 0, 11, 0, 5);
        bounds("eye ", Refusals::some, (x, a) -> x.eye(a[0], a[1]), of(1, 1), NONE, 0, 2, 0, 3);
        bounds("eye ", Refusals::full, (x, a) -> x.eye(a[0], a[1]), of(1, 1), NONE, 0, 7, 0, 3);
        bounds("row ", Refusals::some, (x, a) -> x.row(a[0], a[1]), of(0, 0), NONE, 0, 1, -1, 2);
        bounds("row ", Refusals::full, (x, a) -> x.row(a[0], a[1]), of(0, 0), NONE, 0, 5, -1, 7);
        bounds("row ", Refusals::withoutCountry, (x, a) -> x.row(a[0], a[1]), of(0, 0), NONE, 0, 1, -1, 2);
        bounds("taste ", Refusals::some, (x, a) -> bit(x.taste(a[0])), of(0), 0, -1, 1);
        bounds("taste ", Refusals::full, (x, a) -> bit(x.taste(a[0])), of(0), 0, -1, 3);
        bounds("taste ", Refusals::newOne, (x, a) -> bit(x.taste(a[0])), of(-1), 0, -1, -1);
        bounds("tempted ", Refusals::some, (x, a) -> bit(x.tempted(a[0])), of(1), 0, 0, 99);
        refused("tempted ", Refusals::some, (x, a) -> bit(x.tempted(a[0])), of(40), 0);
        refused("tempted ", Refusals::newOne, (x, a) -> bit(x.tempted(a[0])), of(0), 0);
        refused("tempted ", Refusals::full, (x, a) -> bit(x.tempted(a[0])), of(99), 0);
        bounds("broken ", Refusals::some, (x, a) -> x.broken(a[0], a[1]), of(0, 0), HIDDEN, 0, 1, 0, 2);
        refused("broken ", Refusals::some, (x, a) -> x.broken(a[0], a[1]), of(0, 3), HIDDEN);
        bounds("broken ", Refusals::full, (x, a) -> x.broken(a[0], a[1]), of(0, 0), HIDDEN, 0, 5, 0, 11);
        refused("broken ", Refusals::full, (x, a) -> x.broken(a[0], a[1]), of(0, 5), HIDDEN);
        refused("broken ", Refusals::full, (x, a) -> x.broken(a[0], a[1]), of(0, 6), HIDDEN);
        bounds("fares ", Refusals::some, (x, a) -> x.fares(a[0]), of(0), NONE, 0, 3);
        bounds("count ", Refusals::some, (x, a) -> x.count(a[0]), of(0), HIDDEN, 0, 12);
    }

    private static void acts() {
        bounds("lives ", Refusals::some, (x, a) -> x.lives(a[0], a[1]), of(0, 0), NONE, 0, 2, 0, 1);
        bounds("lives ", Refusals::full, (x, a) -> x.lives(a[0], a[1]), of(0, 0), NONE, 0, 4, 0, 5);
        bounds("change ", Refusals::some, (x, a) -> x.change(a[0], a[1], a[2]), of(0, 1, 6), NONE,
                0, 2, 0, 2, 0, 7);
        bounds("change ", Refusals::full, (x, a) -> x.change(a[0], a[1], a[2]), of(0, 0, 6), NONE,
                0, 4, 0, 11, 1, 7);
        // The places of a row of two and of one.
        refused("change ", Refusals::some, (x, a) -> x.change(a[0], a[1], a[2]), of(2, 2, 6), NONE);
        refused("change ", Refusals::full, (x, a) -> x.change(a[0], a[1], a[2]), of(1, 1, 6), NONE);
        // It has this deed there.
        refused("change ", Refusals::some, (x, a) -> x.change(a[0], a[1], a[2]), of(0, 0, 5), NONE);
        refused("change ", Refusals::some, (x, a) -> x.change(a[0], a[1], a[2]), of(0, 1, 1), NONE);
        bounds("swear ", Refusals::some, (x, a) -> x.swear(a[0], a[1], a[2]), of(1, 1234, 5), NONE,
                0, 2, 0, 5779, 1, 99);
        for (int what : new int[] {80, 89, 800, 900, 980, 1080, 1800, 2890, 3990, 5780, 5790, 5800, 5999, 6000, 7000}) {
            refused("swear ", Refusals::some, (x, a) -> x.swear(a[0], a[1], a[2]), of(1, what, 5), NONE);
        }
        // There are twelve.
        refused("swear ", Refusals::full, (x, a) -> x.swear(a[0], a[1], a[2]), of(0, 0, 1), NONE);
        bounds("pardon ", Refusals::some, (x, a) -> bit(x.pardon(a[0])), of(1), 0, 0, 3);
        bounds("days ", Refusals::some, (x, a) -> x.days(a[0]), of(2), NONE, 1, 60);
        bounds("days ", Refusals::full, (x, a) -> x.days(a[0]), of(2), NONE, 1, 60);
        bounds("decades ", Refusals::some, (x, a) -> x.decades(a[0], 9), of(2), NONE, 1, 60);
        bounds("decades ", Refusals::full, (x, a) -> x.decades(a[0], Long.MIN_VALUE), of(2), NONE, 1, 60);
        bounds("log ", Refusals::some, (x, a) -> x.log(a[0], a[1]), of(0, 0), NONE, 0, 2, 0, 3);
        bounds("log ", Refusals::full, (x, a) -> x.log(a[0], a[1]), of(0, 0), NONE, 0, 59, 0, 3);
    }

    private static void notInForce() {
        Supplier<SwornDays> pardoned = () -> {
            SwornDays x = some();
            x.pardon(0);
            return x;
        };
        refused("fares, not in force ", pardoned, (x, a) -> x.fares(a[0]), of(0), NONE);
        refused("pardon, not in force ", pardoned, (x, a) -> bit(x.pardon(a[0])), of(0), 0);
        Supplier<SwornDays> spent = () -> {
            SwornDays x = Check.country("p:b;vt1");
            x.days(1);
            return x;
        };
        refused("fares, run out ", spent, (x, a) -> x.fares(a[0]), of(0), NONE);
        refused("pardon, run out ", spent, (x, a) -> bit(x.pardon(a[0])), of(0), 0);
        Supplier<SwornDays> struck = () -> {
            SwornDays x = Check.country("p:b;vk7a0");
            x.days(1);
            return x;
        };
        refused("fares, struck ", struck, (x, a) -> x.fares(a[0]), of(0), NONE);
        refused("pardon, struck ", struck, (x, a) -> bit(x.pardon(a[0])), of(0), 0);
        Supplier<SwornDays> bare = () -> Check.country("p:b");
        refused("fares, none sworn ", bare, (x, a) -> x.fares(a[0]), of(0), NONE);
        refused("pardon, none sworn ", bare, (x, a) -> bit(x.pardon(a[0])), of(0), 0);
        refused("undo, no act ", bare, (x, a) -> x.undo(), of(), NONE);
        refused("back, no image ", bare, (x, a) -> x.back(), of(), NONE);
        refused("log, no day ", bare, (x, a) -> x.log(a[0], a[1]), of(0, 0), NONE);
        refused("eye, none told ", bare, (x, a) -> x.eye(a[0], a[1]), of(0, 0), NONE);
        refused("row, none told ", bare, (x, a) -> x.row(a[0], a[1]), of(0, -1), NONE);
        refused("tempting, none told ", bare, (x, a) -> x.tempting(a[0]), of(0), NONE);
        refused("bold, it wants nothing ", bare, (x, a) -> x.bold(a[0], a[1], a[2]), of(0, 0, 0), HIDDEN);
        refused("fails, none ", bare, (x, a) -> x.fails(a[0], a[1]), of(0, 0), NONE);
    }

    private static void rowsOfL() {
        bounds("can ", Refusals::some, (x, a) -> x.can(a[0], a[1], a[2]), of(2, 1, 0), NONE, 0, 2, 1, 5, -1, 7);
        bounds("strike ", Refusals::some, (x, a) -> x.strike(a[0], a[1]), of(0, 1), NONE, 0, 2, 1, 5);
        bounds("together ", Refusals::some, (x, a) -> x.together(a[0], a[1], a[2]), of(0, 1, 1), NONE,
                0, 2, 0, 2, 1, 5);
        bounds("joy ", Refusals::some, (x, a) -> x.joy(a[0], a[1]), of(0, 0), HIDDEN, 0, 2, 0, 1);
        bounds("joy ", Refusals::full, (x, a) -> x.joy(a[0], a[1]), of(0, 0), HIDDEN, 0, 4, 0, 5);
        bounds("best ", Refusals::some, (x, a) -> x.best(a[0], a[1], a[2]), of(0, 1, 0), HIDDEN,
                0, 2, 1, 5, 0, 1);
        bounds("cost ", Refusals::some, (x, a) -> x.cost(a[0], a[1]), of(0, 1), HIDDEN, 0, 2, 1, 5);
        bounds("sentence ", Refusals::some, (x, a) -> x.sentence(a[0], a[1], a[2], a[3]), of(0, 2, 1, 0), HIDDEN,
                0, 2, 0, 7, 1, 3, 0, 1);
        bounds("loopholes ", Refusals::some, (x, a) -> x.loopholes(a[0], a[1], a[2], a[3]), of(2, 2, 3, -1), NONE,
                0, 2, 1, 5, 0, 99, -1, 14);
        bounds("harm ", Refusals::some, (x, a) -> x.harm(a[0]), of(0), NONE, 0, 1);
        bounds("harm ", Refusals::full, (x, a) -> x.harm(a[0]), of(0), NONE, 0, 5);
    }

    private static void eyesAndDays() {
        bounds("safe ", Refusals::some, (x, a) -> x.safe(a[0]), of(0), NONE, 0, 2);
        bounds("cover ", Refusals::some, (x, a) -> x.cover(a[0]), of(0), NONE, 0, 2);
        bounds("bold ", Refusals::some, (x, a) -> x.bold(a[0], a[1], a[2]), of(0, 5, 0), HIDDEN, 0, 1, 0, 99, 0, 1);
        refused("bold ", Refusals::some, (x, a) -> x.bold(a[0], a[1], a[2]), of(2, 5, 0), HIDDEN);
        Supplier<SwornDays> breakers = () -> Check.country("p:a;p:a;v;vp1");
        bounds("fails ", breakers, (x, a) -> x.fails(a[0], a[1]), of(0, 0), NONE, 0, 1, 0, 1);
        Supplier<SwornDays> keepers = () -> Check.country("p:b;p:b;v;vp1");
        bounds("length ", keepers, (x, a) -> x.length(a[0]), of(0), NONE, 0, 1);
        bounds("see ", Refusals::some, (x, a) -> x.see(a[0], a[1]), of(0, 0), NONE, 0, 2, 0, 1);
        // There are eight.
        refused("see ", Refusals::full, (x, a) -> x.see(a[0], a[1]), of(0, 0), NONE);
        refused("see ", Refusals::full, (x, a) -> x.see(a[0], a[1]), of(4, 5), NONE);
        int last = some().promised(0, -1) - 1;
        bounds("promised ", Refusals::some, (x, a) -> x.promised(a[0], a[1]), of(0, 0), NONE, 0, 2, -1, last);
        bounds("tells ", Refusals::some, (x, a) -> x.tells(a[0], a[1]), of(0, 0), NONE, 0, 2, 0, 1);
        bounds("tempting ", Refusals::some, (x, a) -> x.tempting(a[0]), of(0), NONE, 0, 2);
        Supplier<SwornDays> against = () -> Check.country("p:a;p:b;p:c;v;vp1k1;vp2k1");
        bounds("huts ", against, (x, a) -> x.huts(a[0]), of(0), NONE, -1, 1);
        bounds("left ", Refusals::some, (x, a) -> x.left(a[0]), of(0), NONE, 0, 2);
    }

    private static void texts() {
        bounds("end ", Refusals::some, (x, a) -> bit(x.end(a[0])), of(1), 0, 0, 3);
        bounds("end ", Refusals::full, (x, a) -> bit(x.end(a[0])), of(1), 0, 0, 240);
        bounds("end ", Refusals::newOne, (x, a) -> bit(x.end(a[0])), of(0), 0, 0, 0);
        bounds("fault ", Refusals::some, (x, a) -> x.fault(a[0]), of(0), -2, 0, 2);
        // "abz" is none of the three; a wrong sort has no text at all.
        for (int sort : new int[] {Integer.MIN_VALUE, -2, -1, 0, 1, 2, 3, 4, Integer.MAX_VALUE}) {
            refused("text ", Refusals::some, (x, a) -> x.text(a[0]), of(sort), NONE);
            refused("text ", Refusals::withoutCountry, (x, a) -> x.text(a[0]), of(sort), NONE);
            refused("text of an empty tape ", Refusals::newOne, (x, a) -> x.text(a[0]), of(sort), NONE);
        }
        refused("text, four tastes ", () -> withTape("y:1"), (x, a) -> x.text(1), of(), NONE);
        refused("text, six rows ", () -> withTape("abc"), (x, a) -> x.text(2), of(), NONE);
        refused("text, a country with a fault ", () -> withTape("p:a;v;"), (x, a) -> x.text(0), of(), NONE);
        refused("text, a country with an eye of none ", () -> withTape("p:a;e"), (x, a) -> x.text(0), of(), NONE);
        for (int k = 0; k < 5; k++) {
            int[] words = new int[5];
            words[k] = 0x61;
            refused("feed beyond 240 ", Refusals::full, (x, a) -> x.feed(a[0], a[1], a[2], a[3], a[4]), words, NONE);
            words[k] = Integer.MIN_VALUE;
            refused("feed beyond 240 ", Refusals::full, (x, a) -> x.feed(a[0], a[1], a[2], a[3], a[4]), words, NONE);
        }
        Supplier<SwornDays> nearlyFull = () -> {
            SwornDays x = full();
            x.end(221);
            return x;
        };
        refused("feed of 20 on 221 ", nearlyFull, (x, a) -> x.feed(-1, -1, -1, -1, -1), of(), NONE);
        allowed("feed of 19 on 221 ", nearlyFull, (x, a) -> x.feed(-1, -1, 0x00ffffff, -1, -1), of(), NONE);
    }

    /** As many tastes and rows as there can be, a country, and a tape. */
    private static SwornDays withTape(String tape) {
        SwornDays x = full();
        Check.tape(x, tape);
        return x;
    }

    private static void noCountry(Supplier<SwornDays> maker) {
        refused("person ", maker, (x, a) -> person(x, a[0], a[1]), of(0, 0), THROWN);
        refused("deed ", maker, (x, a) -> x.deed(a[0], a[1]), of(0, 0), NONE);
        refused("vow ", maker, (x, a) -> x.vow(a[0], a[1]), of(0, 0), NONE);
        refused("eye ", maker, (x, a) -> x.eye(a[0], a[1]), of(0, 0), NONE);
        refused("broken ", maker, (x, a) -> x.broken(a[0], a[1]), of(0, 0), HIDDEN);
        refused("fares ", maker, (x, a) -> x.fares(a[0]), of(0), NONE);
        refused("lives ", maker, (x, a) -> x.lives(a[0], a[1]), of(0, 0), NONE);
        refused("change ", maker, (x, a) -> x.change(a[0], a[1], a[2]), of(0, 0, 1), NONE);
        refused("swear ", maker, (x, a) -> x.swear(a[0], a[1], a[2]), of(0, 0, 1), NONE);
        refused("pardon ", maker, (x, a) -> bit(x.pardon(a[0])), of(0), 0);
        refused("amnesty ", maker, (x, a) -> x.amnesty(), of(), NONE);
        refused("days ", maker, (x, a) -> x.days(a[0]), of(1), NONE);
        refused("decades ", maker, (x, a) -> x.decades(a[0], 1), of(1), NONE);
        refused("undo ", maker, (x, a) -> x.undo(), of(), NONE);
        refused("log ", maker, (x, a) -> x.log(a[0], a[1]), of(0, 0), NONE);
        refused("can ", maker, (x, a) -> x.can(a[0], a[1], a[2]), of(0, 1, -1), NONE);
        refused("strike ", maker, (x, a) -> x.strike(a[0], a[1]), of(0, 1), NONE);
        refused("together ", maker, (x, a) -> x.together(a[0], a[1], a[2]), of(0, 0, 1), NONE);
        refused("joy ", maker, (x, a) -> x.joy(a[0], a[1]), of(0, 0), HIDDEN);
        refused("best ", maker, (x, a) -> x.best(a[0], a[1], a[2]), of(0, 1, 0), HIDDEN);
        refused("cost ", maker, (x, a) -> x.cost(a[0], a[1]), of(0, 1), HIDDEN);
        refused("sentence ", maker, (x, a) -> x.sentence(a[0], a[1], a[2], a[3]), of(0, 0, 1, 0), HIDDEN);
        refused("loopholes ", maker, (x, a) -> x.loopholes(a[0], a[1], a[2], a[3]), of(0, 1, 0, -1), NONE);
        refused("harm ", maker, (x, a) -> x.harm(a[0]), of(0), NONE);
        refused("safe ", maker, (x, a) -> x.safe(a[0]), of(0), NONE);
        refused("cover ", maker, (x, a) -> x.cover(a[0]), of(0), NONE);
        refused("bold ", maker, (x, a) -> x.bold(a[0], a[1], a[2]), of(0, 0, 0), HIDDEN);
        refused("fails ", maker, (x, a) -> x.fails(a[0], a[1]), of(0, 0), NONE);
        refused("length ", maker, (x, a) -> x.length(a[0]), of(0), NONE);
        refused("see ", maker, (x, a) -> x.see(a[0], a[1]), of(0, 0), NONE);
        refused("promised ", maker, (x, a) -> x.promised(a[0], a[1]), of(0, -1), NONE);
        refused("tells ", maker, (x, a) -> x.tells(a[0], a[1]), of(0, 0), NONE);
        refused("tempting ", maker, (x, a) -> x.tempting(a[0]), of(0), NONE);
        refused("huts ", maker, (x, a) -> x.huts(a[0]), of(-1), NONE);
        refused("easy ", maker, (x, a) -> x.easy(), of(), NONE);
        refused("left ", maker, (x, a) -> x.left(a[0]), of(0), NONE);
        refused("image ", maker, (x, a) -> x.image(), of(), NONE);
        refused("back ", maker, (x, a) -> x.back(), of(), NONE);
    }

    public static void main(String[] args) {
        whatIsTold();
        acts();
        notInForce();
        rowsOfL();
        eyesAndDays();
        texts();
        noCountry(Refusals::newOne);
        noCountry(Refusals::withoutCountry);
        Check.end("Refusals");
    }
}
