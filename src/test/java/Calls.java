/** The calls of the face, each to be made with two numbers and a flag, of which it takes those it needs. */
enum Calls {
    FEEDER, SET_LOAD, SET_CRITICAL, SET_SLACK, PASS, RELIEVE, ROTATE, TRIP, RESTORE, CUT,
    HOUR, FEEDERS, IS_CUT, TAKES, COLD, HOURS, LOAD, SPREAD, CHOICE, CHOICE_BY_LISTING, MOST_CUT, LOAD_RESTORED;

    String answer(Shedwheel office, int a, int b, boolean flag) {
        return Due.answer(() -> make(office, a, b, flag));
    }

    private Object make(Shedwheel office, int a, int b, boolean flag) {
        switch (this) {
            case FEEDER: return office.feeder(a, flag, b);
            case SET_LOAD: return office.setLoad(a, b);
            case SET_CRITICAL: return office.setCritical(a, flag);
            case SET_SLACK: return office.setSlack(a);
            case PASS: return office.pass(a);
            case RELIEVE: return office.relieve(a);
            case ROTATE: return office.rotate();
            case TRIP: return office.trip(a);
            case RESTORE: return office.restore(a);
            case CUT: return office.cut(a);
            case HOUR: return office.hour();
            case FEEDERS: return office.feeders();
            case IS_CUT: return office.isCut(a);
            case TAKES: return office.takes(a);
            case COLD: return office.cold(a);
            case HOURS: return office.hours(a);
            case LOAD: return office.load();
            case SPREAD: return office.spread();
            case CHOICE: return office.choice(a);
            case CHOICE_BY_LISTING: return office.choiceByListing(a);
            case MOST_CUT: return office.mostCut();
            default: return office.loadRestored();
        }
    }
}
