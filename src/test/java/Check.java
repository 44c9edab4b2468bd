import java.util.NoSuchElementException;
import java.util.function.Consumer;
import java.util.function.Function;
import java.util.function.Supplier;

/** What the tests share: fields made from short texts, and checks that print what is not as due. */
final class Check {
    private static int done = 0;
    private static int wrong = 0;

    private Check() {
    }

    /** Makes a field: one text a column, its bottom and then its layers, as in "f s100 l200". */
    static LysimeterField field(String... texts) {
        LysimeterField field = new LysimeterField();
        for (String text : texts) {
            addColumn(field, text);
        }
        return field;
    }

    static void addColumn(LysimeterField field, String text) {
        String[] parts = text.split(" ");
        int column = field.column(parts[0].charAt(0));
        for (int i = 1; i < parts.length; i++) {
            field.layer(column, parts[i].charAt(0), Integer.parseInt(parts[i].substring(1)));
        }
    }

    static void is(String what, Object got, Object due) {
        done++;
        if (!got.equals(due)) {
            wrong++;
            System.out.println(what + ": answered " + got + ", due is " + due);
        }
    }

    static void is(String what, long got, long due) {
        is(what, (Object) got, (Object) due);
    }

    /** The water of all layers of a column, from the uppermost one on. */
    static void waters(String what, LysimeterField field, int column, int... due) {
        for (int i = 0; i < due.length; i++) {
            is(what + ", water of layer " + i, field.water(column, i), due[i]);
        }
    }

    static void throwsIt(String what, Class<? extends RuntimeException> due, Runnable call) {
        is(what, answer(() -> {
            call.run();
            return "nothing thrown";
        }), due.getSimpleName());
    }

    /** The call throws what is due, and a field that knew the call goes on like one that did not. */
    static void refuses(String what, Class<? extends RuntimeException> due, Supplier<LysimeterField> maker,
            Consumer<LysimeterField> call) {
        LysimeterField tried = maker.get();
        LysimeterField spared = maker.get();
        throwsIt(what, due, () -> call.accept(tried));
        is(what + ", changed", everything(tried), everything(spared));
        tried.hours(3);
        spared.hours(3);
        is(what + ", changed after hours", everything(tried), everything(spared));
        is(what + ", changed settings", settings(tried), settings(spared));
    }

    /** All that can be read without changing anything. */
    static String everything(LysimeterField f) {
        StringBuilder all = new StringBuilder();
        note(all, f.checksum(), f.missing(), f.isTrue(), answer(f::frozenShare), answer(f::meanWater));
        for (int c = 0; c < 6; c++) {
            noteColumn(all, f, c);
        }
        return all.toString();
    }

    private static void noteColumn(StringBuilder all, LysimeterField f, int c) {
        note(all, "\ncolumn", answer(() -> f.standing(c)), answer(() -> f.recharge(c)), answer(() -> f.runoff(c)));
        note(all, answer(() -> f.vapour(c)), answer(() -> f.fines(c)), answer(() -> f.eaten(c)));
        note(all, answer(() -> f.heave(c)), answer(() -> f.crack(c)), answer(() -> f.weigh(c)));
        note(all, answer(() -> f.stress(c, 0)), answer(() -> f.stress(c, 1)), answer(() -> f.forecast(c, 24, 100)));
        note(all, answer(() -> f.out(c, 'n')), answer(() -> f.out(c, 's')), answer(() -> f.out(c, 't')));
        for (int i = 0; i < 8; i++) {
            int l = i;
            note(all, "layer", answer(() -> f.water(c, l)), answer(() -> f.capacity(c, l)));
            note(all, answer(() -> f.isFrozen(c, l)), answer(() -> f.frost(c, l)), answer(() -> f.tension(c, l)));
            note(all, answer(() -> f.reflection(c, l)), answer(() -> f.solute(c, l, 'n')));
            note(all, answer(() -> f.solute(c, l, 's')), answer(() -> f.solute(c, l, 't')));
        }
    }

    /** What can be read only by setting it anew. */
    private static String settings(LysimeterField f) {
        StringBuilder all = new StringBuilder();
        note(all, f.weather(0, 0, 0), f.law(0, 0), f.hours(1));
        for (int i = 0; i < 6; i++) {
            int c = i;
            note(all, answer(() -> f.link(c, -1)), answer(() -> f.scale(c, 100)), answer(() -> f.mulch(c, false)));
            note(all, answer(() -> f.rule(c, 0, 0)), answer(() -> f.manure(c, 1)), answer(() -> f.harvest(c)));
            note(all, answer(() -> f.setRight(c)));
        }
        note(all, answer(() -> f.column('f')));
        return all.toString();
    }

    private static void note(StringBuilder all, Object... answers) {
        for (Object answer : answers) {
            all.append(answer).append(' ');
        }
    }

    /** The answer of a call, or the name of what it throws. */
    static String answer(Supplier<Object> call) {
        try {
            return String.valueOf(call.get());
        } catch (IndexOutOfBoundsException | IllegalArgumentException | IllegalStateException
                | UnsupportedOperationException | NoSuchElementException | ArithmeticException e) {
            return nameOf(e);
        }
    }

    /** Only what the class itself throws counts: the machine may never throw in it. */
    private static String nameOf(RuntimeException e) {
        StackTraceElement[] trace = e.getStackTrace();
        boolean own = trace.length > 0 && trace[0].getClassName().startsWith("LysimeterField");
        return own ? e.getClass().getSimpleName() : "the machine's " + e;
    }

    /** A question changes nothing that can be read. */
    static <T> void stays(String what, LysimeterField f, Function<LysimeterField, T> question) {
        String before = everything(f);
        question.apply(f);
        is(what + " changes nothing", everything(f), before);
    }

    static void end(String name) {
        System.out.println(name + ": " + done + " checks, " + wrong + " not as due");
        if (wrong > 0) {
            System.exit(1);
        }
    }
}
