import java.lang.reflect.InvocationTargetException;
import java.lang.reflect.Method;
import java.lang.reflect.Modifier;
import java.util.ArrayList;
import java.util.Arrays;
import java.util.Collections;
import java.util.List;
import java.util.Map;
import java.util.TreeMap;

/**
 * Runs of 512 calls, picked by a fixed sequence of numbers, each answered by Recertify and by the model. Prints the
 * run up to the first call on which the two differ.
 */
final class ModelTest {
    private static final int RUNS = 3000;
    private static final int CALLS = 512;

    /** The changes, some named more often than others to be picked more often; any other method is a query. */
    private static final String[] SETUP = {
        "addPerson", "addPerson", "addGroup", "addMember", "addMember", "nest", "nest", "addRight", "grantPerson",
        "grantPerson", "grantGroup", "grantGroup", "setSubstitute", "setAbsent", "pass"};
    private static final String[] LATER = {
        "openCampaign", "openCampaign", "answer", "answer", "answer", "answer", "pass", "pass", "use", "grantPerson",
        "grantGroup", "removeMember", "addMember", "nest", "setAbsent", "setAbsent", "setSubstitute", "setLimit",
        "setGrace", "addPerson", "addRight"};

    private static final String[] FILLING = filling();

    private final Map<String, Method> real = publicMethods(Recertify.class);
    private final Map<String, Method> modelled = publicMethods(Model.class);
    private final List<String> queries = new ArrayList<>(real.keySet());
    /** How often each method gave an answer, and threw each exception. */
    private final Map<String, Integer> outcomes = new TreeMap<>();
    private long numbers = 20261119;

    private Recertify desk;
    private Model model;
    private int groups;
    private int rights;

    private ModelTest() {
        queries.removeAll(Arrays.asList(SETUP));
        queries.removeAll(Arrays.asList(LATER));
    }

    private static String[] filling() {
        List<String> calls = new ArrayList<>();
        calls.addAll(Collections.nCopies(11, "addPerson"));
        calls.addAll(Collections.nCopies(9, "addGroup"));
        calls.addAll(Collections.nCopies(11, "addRight"));
        calls.addAll(Collections.nCopies(12, "addMember"));
        calls.addAll(Collections.nCopies(16, "nest"));
        calls.addAll(Collections.nCopies(12, "grantPerson"));
        calls.addAll(Collections.nCopies(14, "grantGroup"));
        return calls.toArray(new String[0]);
    }

    private static Map<String, Method> publicMethods(Class<?> type) {
        Map<String, Method> found = new TreeMap<>();
        for (Method method : type.getDeclaredMethods()) {
            if (Modifier.isPublic(method.getModifiers())) {
                found.put(method.getName(), method);
            }
        }
        return found;
    }

    private int below(int end) {
        numbers = numbers * 6364136223846793005L + 1442695040888963407L;
        return (int) ((numbers >>> 33) % end);
    }

    /** Mostly a number from low to high; now and then one outside, mostly just outside. */
    private int number(int low, int high) {
        int kind = below(60);
        if (kind == 0) {
            return low - 1;
        }
        if (kind == 1) {
            return high + 1;
        }
        if (kind == 2) {
            return below(2) == 0 ? Integer.MIN_VALUE + below(9) : Integer.MAX_VALUE - below(9);
        }
        return high < low ? low : low + below(high - low + 1);
    }

    private int person() {
        return number(0, model.people() - 1);
    }

    private int personOrNone() {
        return below(4) == 0 ? -1 : person();
    }

    private int group() {
        return number(0, groups - 1);
    }

    private int right() {
        return number(0, rights - 1);
    }

    private static Object[] list(Object... arguments) {
        return arguments;
    }

    private Object[] arguments(String name) {
        switch (name) {
            case "addPerson": return list(number(0, 3), personOrNone());
            case "setAbsent": return list(person(), below(5) < 2);
            case "setSubstitute": return list(person(), personOrNone());
            case "addMember": case "removeMember": case "isMember": return list(group(), person());
            case "nest": return list(group(), group());
            case "addRight": return list(number(1, 9), person(), below(2) == 0);
            case "grantPerson": return list(right(), person());
            case "grantGroup": return list(right(), group());
            case "pass": case "openCampaign": return list(below(3) == 0 ? number(1, 30) : number(1, 5));
            case "setLimit": return list(number(0, 999));
            case "setGrace": return list(number(0, 10));
            case "answer": return answerArguments();
            case "apart": return list(person(), person());
            case "pathAt": return list(person(), right(), number(0, 3));
            case "members": return list(group());
            case "holdersOf": return list(right());
            case "addGroup": case "standIn": case "rightsOf": case "rightBits": case "nextItem": return list(person());
            case "riskOf": case "reviewerOf": case "stateOf": case "dueDay": case "lastUse": case "isBlocked":
                return list(number(0, model.grants() - 1));
            case "grantOf": case "verdict": case "decider": return list(number(0, model.items() - 1));
            case "signAt": case "sealAt": case "sealByReplay": return list(number(0, model.entries() - 1));
            default: return real.get(name).getParameterCount() == 2 ? list(person(), right()) : list();
        }
    }

    /** Mostly the person who may answer, so that campaigns go on. */
    private Object[] answerArguments() {
        int item = number(0, model.items() - 1);
        boolean exists = item >= 0 && item < model.items();
        int person = exists && below(6) > 0 ? model.reviewerOf(model.grantOf(item)) : person();
        int kind = below(30);
        return list(person, item, kind == 0 ? 'u' : kind == 1 ? (char) below(65536) : below(2) == 0 ? 'k' : 'r');
    }

    /** Every third run begins with a desk on which all rows are full or nearly so. */
    private String pick(int run, int call) {
        if (run % 3 == 0 && call < FILLING.length) {
            return FILLING[call];
        }
        if (call < 70) {
            return call < 6 ? "addPerson" : SETUP[below(SETUP.length)];
        }
        if (call > 420 || below(5) < 2) {
            return queries.get(below(queries.size()));
        }
        return LATER[below(LATER.length)];
    }

    private static Object call(Method method, Object object, Object[] arguments) {
        try {
            return method.invoke(object, arguments);
        } catch (InvocationTargetException e) {
            return "throws " + e.getCause().getClass().getName();
        } catch (IllegalAccessException e) {
            throw new AssertionError(e);
        }
    }

    private void run(int run, Check check) {
        desk = new Recertify();
        model = new Model();
        groups = 0;
        rights = 0;
        StringBuilder told = new StringBuilder();
        for (int call = 0; call < CALLS; call++) {
            String name = pick(run, call);
            Object[] arguments = arguments(name);
            Object due = call(modelled.get(name), model, arguments);
            Object got = call(real.get(name), desk, arguments);
            told.append("  ").append(name).append(Arrays.toString(arguments)).append(" -> ").append(due).append('\n');
            outcomes.merge(name + (due instanceof String ? " " + due : ""), 1, Integer::sum);
            if (!due.equals(got)) {
                System.out.print(told);
                check.is("run " + run + ", call " + call + ": " + name, got, due);
                return;
            }
            groups += name.equals("addGroup") && due instanceof Integer ? 1 : 0;
            rights += name.equals("addRight") && due instanceof Integer ? 1 : 0;
        }
    }

    /** Runs that never give some method an answer, or never make it throw what it can, would prove little. */
    private void checkOutcomes(Check check) {
        for (Method method : real.values()) {
            List<String> kinds = new ArrayList<>();
            kinds.add(method.getName());
            for (Class<?> type : method.getExceptionTypes()) {
                kinds.add(method.getName() + " throws " + type.getName());
            }
            for (String kind : kinds) {
                check.is("some run has " + kind, outcomes.containsKey(kind), true);
            }
        }
    }

    public static void main(String[] args) {
        Check check = new Check();
        ModelTest test = new ModelTest();
        for (int run = 0; run < RUNS; run++) {
            test.run(run, check);
        }
        test.checkOutcomes(check);
        if (args.length > 0) {
            test.outcomes.forEach((kind, times) -> System.out.println(times + " " + kind));
        }
        check.end();
    }
}
