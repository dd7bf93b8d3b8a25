import java.lang.reflect.Field;

/**
 * Day 400. No run of calls comes so far (16 works of 200 steps are 3,200 hours), so the day is put into the object
 * from here; its fields' names are known to this test alone.
 */
public final class LastDayTest {
    private static final Due due = new Due();

    private LastDayTest() {
    }

    public static void main(String[] args) throws ReflectiveOperationException {
        refusedFromDay400On();
        askedBeyondDay400();
        due.close("LastDayTest");
    }

    private static void put(UnreadyLead x, int day, int hour) throws ReflectiveOperationException {
        Field now = UnreadyLead.class.getDeclaredField("now");
        now.setAccessible(true);
        Object state = now.get(x);
        Field days = state.getClass().getDeclaredField("day");
        days.setAccessible(true);
        days.setInt(state, day);
        Field hours = state.getClass().getDeclaredField("hour");
        hours.setAccessible(true);
        hours.setInt(state, hour);
    }

    private static UnreadyLead at(int day, int hour) throws ReflectiveOperationException {
        UnreadyLead x = Due.of("person 0 0;person 0 0;task 200;");
        Due.law(x, "person * 9");
        put(x, day, hour);
        return x;
    }

    private static void refusedFromDay400On() throws ReflectiveOperationException {
        due.about(0, "hour (REFUSED from DAY 400 on)");
        UnreadyLead x = at(399, 22);
        due.same("two hours to day 400, a third one not", Due.work(x, "come 0;hour;hour;hour;boot 1;"), 4);
        due.same("refused", x.told(10), 1);
        due.same("day and hour", x.told(2) * 100 + x.told(3), 40000);
        due.same("done", x.task(0, 1), 20);
        due.same("the step behind it", x.person(1, 3), 1);
        due.same("again", Due.work(x, "again 60[hour;];"), 0);
        due.same("refused again", x.told(10), 60);
        due.same("day and hour then", x.told(2) * 100 + x.told(3), 40000);
        UnreadyLead y = at(401, 5);
        due.same("on day 401", Due.work(y, "hour;"), 0);
        due.same("it stays", y.told(2) * 100 + y.told(3), 40105);
        UnreadyLead z = at(399, 0);
        due.same("on day 399", Due.work(z, "again 60[hour;];"), 24);
        due.same("then", z.told(2) * 100 + z.told(3), 40000);
    }

    private static void askedBeyondDay400() throws ReflectiveOperationException {
        due.about(0, "HOURS go by as by hour (beyond DAY 400, too)");
        UnreadyLead x = at(400, 0);
        Due.work(x, "come 0;");
        due.same("ends(0)", x.ends(0), 20);
        due.same("busy(0)", x.busy(0), 20);
        due.same("ahead(3, 1)", x.ahead(3, 1), 30);
        due.same("ahead(500, 0)", x.ahead(500, 0), 1);
        UnreadyLead y = at(399, 0);
        // person 1 is less ready from day 401 on
        Due.law(y, "day / 401 * 99 * (1 - person) + person * 9");
        due.same("waits(1)", y.waits(1), 48);
        Due.law(y, "day / 400 * 99 * (1 - person) + person * 9");
        due.same("waits(1) of day 400", y.waits(1), 24);
        due.about(0, "then hour (beyond DAY 400, too)");
        UnreadyLead z = at(400, 23);
        due.same("decade", z.decade(1, 5, 0, 0), 50);
        due.same("span", z.span(1, 3, 5, 0, 0, 0), 50);
        due.same("its day stays", z.told(2) * 100 + z.told(3), 40023);
    }
}
