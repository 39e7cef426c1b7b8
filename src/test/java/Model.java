import java.util.ArrayList;
import java.util.Comparator;
import java.util.List;

/**
 * The document once more, told in another way, to hold the program's answers against: cuts are kept as
 * a list of times, all that is asked is counted from these, and a choice sorts all sets.
 * Answers are texts, as Calls makes them of the program's.
 */
final class Model {
    private static final String ARGUMENT = "throws.IllegalArgumentException";
    private static final String STATE = "throws.IllegalStateException";
    private static final String INDEX = "throws.IndexOutOfBoundsException";
    private static final String ELEMENT = "throws.NoSuchElementException";

    private static final class Line {
        int load;
        boolean critical;
        int stage;
        final List<Integer> cutAt = new ArrayList<>();
        final List<Integer> restoredAt = new ArrayList<>();

        boolean isOff() {
            return cutAt.size() > restoredAt.size();
        }
    }

    private record Option(int set, int taken, int hours) {
    }

    private final List<Line> lines = new ArrayList<>();
    private int hour = 0;
    private int slack = 0;

    String answer(Calls call, int a, int b, boolean flag) {
        switch (call) {
            case FEEDER: return tell(a, flag, b);
            case SET_LOAD: return setLoad(a, b);
            case SET_CRITICAL: return setCritical(a, flag);
            case SET_SLACK: return setSlack(a);
            case PASS: return a < 1 || a > 100 ? ARGUMENT : "" + (hour += a);
            case RELIEVE: return relieve(a);
            case ROTATE: return rotate();
            case TRIP: return trip(a);
            case RESTORE: return restore(a);
            case CUT: return cut(a);
            case CHOICE: return a < 1 || a > 20000 ? ARGUMENT : "" + choose(a);
            case CHOICE_BY_LISTING: return choiceByListing(a);
            default: return asked(call, a);
        }
    }

    private String asked(Calls call, int a) {
        switch (call) {
            case HOUR: return "" + hour;
            case FEEDERS: return "" + lines.size();
            case LOAD: return "" + lines.stream().mapToInt(this::takes).sum();
            case SPREAD: return "" + spread();
            case MOST_CUT: return "" + mostCut();
            case LOAD_RESTORED: return "" + lines.stream().mapToInt(this::takesRestored).sum();
            default: break;
        }
        if (noSuch(a)) {
            return INDEX;
        }
        Line line = lines.get(a);
        switch (call) {
            case IS_CUT: return "" + line.isOff();
            case TAKES: return "" + takes(line);
            case COLD: return "" + cold(line);
            default: return "" + hours(line);
        }
    }

    private boolean noSuch(int number) {
        return number < 0 || number >= lines.size();
    }

    private int hours(Line line) {
        int sum = 0;
        for (int i = 0; i < line.cutAt.size(); i++) {
            sum += (i < line.restoredAt.size() ? line.restoredAt.get(i) : hour) - line.cutAt.get(i);
        }
        return sum;
    }

    private static int coldAfter(int hoursCut) {
        return hoursCut >= 10 ? 100 : hoursCut * 10;
    }

    private int cold(Line line) {
        int last = line.cutAt.size() - 1;
        if (last < 0 || line.isOff()) {
            return 0;
        }
        int since = hour - line.restoredAt.get(last);
        int part = coldAfter(line.restoredAt.get(last) - line.cutAt.get(last));
        return since >= 5 || part < 20 * since ? 0 : part - 20 * since;
    }

    private int takes(Line line) {
        return line.isOff() ? 0 : (int) Math.floor(line.load * (100 + cold(line)) / 100.0);
    }

    /** The load, and what it would take more than its load if it was restored now. */
    private int takesRestored(Line line) {
        if (!line.isOff()) {
            return takes(line);
        }
        int part = coldAfter(hour - line.cutAt.get(line.cutAt.size() - 1));
        int more = line.load * part / 100;
        return line.load + more;
    }

    private int spread() {
        List<Integer> all = new ArrayList<>();
        lines.stream().filter(line -> !line.critical).forEach(line -> all.add(hours(line)));
        all.sort(Comparator.naturalOrder());
        return all.isEmpty() ? 0 : all.get(all.size() - 1) - all.get(0);
    }

    private boolean isOpen(Line line) {
        return !line.isOff() && !line.critical;
    }

    private int mostCut() {
        int best = -1;
        for (int k = lines.size() - 1; k >= 0; k--) {
            if (isOpen(lines.get(k)) && (best < 0 || hours(lines.get(k)) >= hours(lines.get(best)))) {
                best = k;
            }
        }
        return best;
    }

    private int choose(int shortfall) {
        List<Option> enough = new ArrayList<>();
        int[] takes = lines.stream().mapToInt(this::takes).toArray();
        int[] hours = lines.stream().mapToInt(this::hours).toArray();
        int open = 0;
        for (int k = 0; k < lines.size(); k++) {
            open |= isOpen(lines.get(k)) ? 1 << k : 0;
        }
        for (int set = open; set > 0; set = set - 1 & open) {
            int taken = 0;
            int spent = 0;
            for (int k = 0; k < lines.size(); k++) {
                taken += (set >> k & 1) * takes[k];
                spent += (set >> k & 1) * hours[k];
            }
            if (taken >= shortfall) {
                enough.add(new Option(set, taken, spent));
            }
        }
        List<Option> near = enough.stream().filter(o -> o.taken <= shortfall + slack).toList();
        Comparator<Option> byTaken = Comparator.comparingInt(Option::taken);
        Comparator<Option> byHours = Comparator.comparingInt(Option::hours);
        Comparator<Option> bySet = Comparator.comparingInt(Option::set);
        return near.isEmpty()
                ? enough.stream().min(byTaken.thenComparing(byHours).thenComparing(bySet)).map(Option::set).orElse(0)
                : near.stream().min(byHours.thenComparing(byTaken).thenComparing(bySet)).map(Option::set).orElse(0);
    }

    private String choiceByListing(int shortfall) {
        if (shortfall < 1 || shortfall > 20000) {
            return ARGUMENT;
        }
        return lines.stream().filter(this::isOpen).count() > 8 ? STATE : "" + choose(shortfall);
    }

    private String tell(int load, boolean critical, int stage) {
        if (load < 1 || load > 999 || stage < 0 || stage > 3) {
            return ARGUMENT;
        }
        if (lines.size() == 12) {
            return STATE;
        }
        Line line = new Line();
        line.load = load;
        line.critical = critical;
        line.stage = stage;
        lines.add(line);
        return "" + (lines.size() - 1);
    }

    private String setLoad(int number, int load) {
        if (noSuch(number)) {
            return INDEX;
        }
        if (load < 1 || load > 999) {
            return ARGUMENT;
        }
        int before = lines.get(number).load;
        lines.get(number).load = load;
        return "" + before;
    }

    private String setCritical(int number, boolean critical) {
        if (noSuch(number)) {
            return INDEX;
        }
        boolean before = lines.get(number).critical;
        lines.get(number).critical = critical;
        return "" + before;
    }

    private String setSlack(int slack) {
        if (slack < 0 || slack > 999) {
            return ARGUMENT;
        }
        int before = this.slack;
        this.slack = slack;
        return "" + before;
    }

    private int cutAll(List<Line> chosen) {
        int taken = chosen.stream().mapToInt(this::takes).sum();
        chosen.forEach(line -> line.cutAt.add(hour));
        return taken;
    }

    private List<Line> linesOf(int set) {
        List<Line> chosen = new ArrayList<>();
        for (int k = 0; k < lines.size(); k++) {
            if ((set >> k & 1) == 1) {
                chosen.add(lines.get(k));
            }
        }
        return chosen;
    }

    private String relieve(int shortfall) {
        if (shortfall < 1 || shortfall > 20000) {
            return ARGUMENT;
        }
        int set = choose(shortfall);
        return set == 0 ? ELEMENT : "" + cutAll(linesOf(set));
    }

    private String rotate() {
        List<Line> returning = lines.stream().filter(line -> line.isOff() && !line.critical).toList();
        if (returning.isEmpty()) {
            return STATE;
        }
        int set = choose(returning.stream().mapToInt(this::takesRestored).sum());
        if (set == 0) {
            return ELEMENT;
        }
        cutAll(linesOf(set));
        returning.forEach(line -> line.restoredAt.add(hour));
        return "" + returning.size();
    }

    private String trip(int stage) {
        if (stage < 1 || stage > 3) {
            return ARGUMENT;
        }
        return "" + cutAll(lines.stream()
                .filter(line -> isOpen(line) && line.stage != 0 && line.stage <= stage).toList());
    }

    private String restore(int number) {
        if (noSuch(number)) {
            return INDEX;
        }
        if (!lines.get(number).isOff()) {
            return STATE;
        }
        lines.get(number).restoredAt.add(hour);
        return "" + takes(lines.get(number));
    }

    private String cut(int number) {
        if (noSuch(number)) {
            return INDEX;
        }
        return lines.get(number).isOff() ? STATE : "" + cutAll(List.of(lines.get(number)));
    }
}
