import java.util.ArrayList;
import java.util.List;
import java.util.function.Supplier;

/** What later calls show of a bureau: the answers of all calls of the face, as texts, one behind the other. */
final class Later {
    /** An object is used for 512 calls; making it takes up to 70, and one is the call that is looked at. */
    private static final int MOST_CALLS = 512 - 70 - 1;

    private final EchoBureau bureau;
    private final List<String> answers = new ArrayList<>();

    private Later(EchoBureau bureau) {
        this.bureau = bureau;
    }

    /** What is: the calls that only ask. */
    static List<String> asked(EchoBureau bureau) {
        Later later = new Later(bureau);
        later.askAll();
        return later.answers();
    }

    /** What comes: the calls that change, with what is changed behind each of them. */
    static List<String> changed(EchoBureau bureau) {
        Later later = new Later(bureau);
        later.changeAll();
        return later.answers();
    }

    private List<String> answers() {
        if (answers.size() > MOST_CALLS) {
            Check.report(answers.size() + " calls are more than an object is used for");
        }
        return answers;
    }

    private void note(String call, Supplier<Object> answer) {
        String text;
        try {
            text = String.valueOf(answer.get());
        } catch (RuntimeException e) {
            text = e.getClass().getName();
        }
        answers.add(call + " " + text);
    }

    private void askAll() {
        note("halls", bureau::halls);
        note("standards", bureau::standards);
        note("day", bureau::day);
        note("inspections", bureau::inspections);
        note("certifiedHalls", bureau::certifiedHalls);
        note("meanDamping", bureau::meanDamping);
        note("digest", bureau::digest);
        for (int hall = 0; hall < 8; hall++) {
            askHall(hall);
        }
        for (int standard = 0; standard < 5; standard++) {
            int s = standard;
            note("hallsMeeting " + s, () -> bureau.hallsMeeting(s));
            note("easiestHall " + s, () -> bureau.easiestHall(s));
        }
    }

    private void askHall(int h) {
        note("surfacesOf " + h, () -> bureau.surfacesOf(h));
        note("dampingOf " + h, () -> bureau.dampingOf(h));
        note("dustOf " + h, () -> bureau.dustOf(h));
        note("isCertified " + h, () -> bureau.isCertified(h));
        note("certifiedBy " + h, () -> bureau.certifiedBy(h));
        note("daysLeft " + h, () -> bureau.daysLeft(h));
        note("echoes " + h, () -> bureau.echoes(h, 700));
        note("loudEchoes " + h, () -> bureau.loudEchoes(h, 700, 30));
        note("firstEcho " + h, () -> bureau.firstEcho(h, 700));
        note("lastEcho " + h, () -> bureau.lastEcho(h, 700));
        note("loudnessAt " + h, () -> bureau.loudnessAt(h, 700, 360));
        note("loudestMoment " + h, () -> bureau.loudestMoment(h, 700));
        for (int surface = 0; surface < 6; surface++) {
            int f = surface;
            note("distanceOf " + h + " " + f, () -> bureau.distanceOf(h, f));
            note("hardnessOf " + h + " " + f, () -> bureau.hardnessOf(h, f));
        }
        for (int standard = 0; standard < 5; standard++) {
            int s = standard;
            note("meets " + h + " " + s, () -> bureau.meets(h, s));
            note("leastDamping " + h + " " + s, () -> bureau.leastDamping(h, s));
            note("daysUntilMet " + h + " " + s, () -> bureau.daysUntilMet(h, s));
            note("meetsWithDamping " + h + " " + s, () -> bureau.meetsWithDamping(h, s, 45));
        }
    }

    private void change(String call, Supplier<Object> answer) {
        note(call, answer);
        note("digest behind it", bureau::digest);
    }

    private void changeAll() {
        change("passDays", () -> bureau.passDays(1));
        for (int hall = 0; hall < 8; hall++) {
            int h = hall;
            change("clean " + h, () -> bureau.clean(h));
            for (int standard = 0; standard < 5; standard++) {
                int s = standard;
                change("inspect " + h + " " + s, () -> bureau.inspect(h, s));
            }
            change("revoke " + h, () -> bureau.revoke(h));
            change("addSurface " + h, () -> bureau.addSurface(h, 60, 99));
            change("moveSurface " + h, () -> bureau.moveSurface(h, 0, 59));
            change("setDamping " + h, () -> bureau.setDamping(h, 1));
            change("passDays", () -> bureau.passDays(1));
        }
        change("addHall", () -> bureau.addHall(2));
        change("addStandard", () -> bureau.addStandard(1, 2, 3, 4, 5));
        change("passDays", () -> bureau.passDays(100));
    }
}
