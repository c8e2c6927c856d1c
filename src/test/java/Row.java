import java.util.ArrayList;
import java.util.Collections;
import java.util.List;
import java.util.regex.Matcher;
import java.util.regex.Pattern;

/** One call of a run, with the answer that is due; a flag among the arguments is 0 or 1. */
record Row(String name, int[] arguments, String due) {
    private static final Pattern CALL = Pattern.compile("(\\w+)\\((.*)\\) -> (.+)");
    private static final Pattern REPEATED = Pattern.compile("(.*) x (\\d+)");
    private static final Pattern NUMBER = Pattern.compile("(-?\\d+)|(MIN|MAX)([+-]\\d+)?");
    private static final String BETWEEN = " .. ";

    boolean throwsAny() {
        return due.startsWith("throws.");
    }

    @Override
    public String toString() {
        StringBuilder text = new StringBuilder(name).append('(');
        for (int i = 0; i < arguments.length; i++) {
            text.append(i == 0 ? "" : ", ").append(arguments[i]);
        }
        return text.append(')').toString();
    }

    /** The rows of one line: calls with ';' between them, and at its end how often all of them are made. */
    static List<Row> ofLine(String line) {
        Matcher repeated = REPEATED.matcher(line);
        String calls = repeated.matches() ? repeated.group(1) : line;
        int times = repeated.matches() ? Integer.parseInt(repeated.group(2)) : 1;
        List<Row> once = new ArrayList<>();
        for (String call : calls.split(";")) {
            once.addAll(ofCall(call.trim()));
        }
        List<Row> all = new ArrayList<>();
        for (List<Row> each : Collections.nCopies(times, once)) {
            all.addAll(each);
        }
        return all;
    }

    /** 'a .. b' in a call or its answer stands for all ints from one to the other, one row for each. */
    private static List<Row> ofCall(String text) {
        Matcher call = CALL.matcher(text);
        if (!call.matches() || !Calls.hasName(call.group(1))) {
            throw new IllegalArgumentException("no call: " + text);
        }
        List<List<String>> columns = new ArrayList<>();
        for (String argument : call.group(2).split(",")) {
            columns.add(argumentColumn(argument.trim()));
        }
        columns.removeIf(List::isEmpty);
        if (columns.size() != Calls.parameters(call.group(1)).length) {
            throw new IllegalArgumentException("another number of arguments: " + text);
        }
        List<String> answers = answerColumn(call.group(3));
        int length = answers.size();
        for (List<String> column : columns) {
            length = Math.max(length, column.size());
        }
        List<Row> rows = new ArrayList<>();
        for (int i = 0; i < length; i++) {
            int[] arguments = new int[columns.size()];
            for (int k = 0; k < arguments.length; k++) {
                arguments[k] = Integer.parseInt(entry(columns.get(k), i));
            }
            rows.add(new Row(call.group(1), arguments, entry(answers, i)));
        }
        return rows;
    }

    private static String entry(List<String> column, int i) {
        return column.size() == 1 ? column.get(0) : column.get(i);
    }

    private static List<String> argumentColumn(String text) {
        switch (text) {
            case "": return List.of();
            case "true": return List.of("1");
            case "false": return List.of("0");
            default: return numbers(text);
        }
    }

    private static List<String> answerColumn(String text) {
        if (text.equals("true") || text.equals("false")) {
            return List.of(text);
        }
        return text.matches("[A-Z][a-z].*") ? List.of("throws." + text + "Exception") : numbers(text);
    }

    private static List<String> numbers(String text) {
        int middle = text.indexOf(BETWEEN);
        if (middle < 0) {
            return List.of(Long.toString(number(text)));
        }
        long from = number(text.substring(0, middle));
        long to = number(text.substring(middle + BETWEEN.length()));
        List<String> all = new ArrayList<>();
        for (long i = from; from <= to ? i <= to : i >= to; i += from <= to ? 1 : -1) {
            all.add(Long.toString(i));
        }
        return all;
    }

    private static long number(String text) {
        Matcher parts = NUMBER.matcher(text);
        if (!parts.matches()) {
            throw new IllegalArgumentException("no number: " + text);
        }
        if (parts.group(1) != null) {
            return Long.parseLong(parts.group(1));
        }
        long edge = parts.group(2).equals("MIN") ? Integer.MIN_VALUE : Integer.MAX_VALUE;
        return parts.group(3) == null ? edge : edge + Long.parseLong(parts.group(3));
    }
}
