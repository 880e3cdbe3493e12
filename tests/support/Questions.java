import java.util.ArrayList;
import java.util.List;

/** What can be asked after a run of calls without changing anything. */
public final class Questions {
    private static final int[] PLACES = {0, 15, 21, 68, 102, 176, 191};
    private final List<String> all = new ArrayList<>();

    private Questions() {
    }

    /** All kinds of questions, with all numbers of pictures, parts, holes, outlines and frames. */
    public static List<String> after(String script) {
        Questions questions = new Questions();
        Asked plain = Asked.plain().run(script);
        int pictures = (Integer) plain.call("house 0");
        int frames = (Integer) plain.call("ofFilm 0");
        questions.add("house #", 0, 4);
        questions.add("ofFilm #", 0, 4);
        questions.all.add("isSound");
        questions.all.add("digest");
        for (int pic = 0; pic < pictures; pic++) {
            questions.addOf(pic);
            questions.addBoth(pic, pictures);
            questions.addRegions(pic, plain);
        }
        for (int k = 0; k < frames; k++) {
            questions.all.add("labels " + k);
            for (int place : PLACES) {
                questions.all.add("label " + k + " " + place / 16 + " " + place % 16);
            }
        }
        return questions.all;
    }

    private void add(String question, int least, int most) {
        for (int n = least; n <= most; n++) {
            all.add(question.replace("#", Integer.toString(n)));
        }
    }

    private void addOf(int pic) {
        add("text " + pic + " #", 0, 11);
        add("runs " + pic + " #", 0, 11);
        add("ofPicture " + pic + " #", 0, 13);
        add("farthest " + pic + " #", 0, 2);
        add("packed " + pic + " #", 0, 2);
        all.add("leastPacked " + pic);
        add("sum " + pic + " 0 # 11 #", 0, 15);
        add("densest " + pic + " # #", 1, 12);
        for (int place : PLACES) {
            String cell = " " + place / 16 + " " + place % 16;
            add("nearest " + pic + " #" + cell, 0, 2);
            add("nearestCell " + pic + " #" + cell, 0, 2);
            all.add("partOf " + pic + " false" + cell);
            all.add("partOf " + pic + " true" + cell);
        }
    }

    /** A pattern may have no black cells: that is thrown ahead of a refused call and behind it. */
    private void addBoth(int pic, int pictures) {
        for (int other = 0; other < pictures; other++) {
            add("compare " + pic + " " + other + " #", 0, 3);
            all.add("places " + pic + " " + other + " 3");
            all.add("placeAt " + pic + " " + other + " 3 1");
        }
    }

    private void addRegions(int pic, Asked plain) {
        for (int way = 0; way < 2; way++) {
            String of = " " + pic + (way == 1 ? " true" : " false");
            all.add("largest" + of);
            all.add("tree" + of);
            all.add("outlines" + of);
            int parts = (Integer) plain.call("ofPicture " + pic + " " + (3 + way));
            int holes = (Integer) plain.call("ofPicture " + pic + " " + (5 + way));
            for (int k = 0; k < parts; k++) {
                add("ofPart" + of + " " + k + " #", 0, 6);
            }
            for (int k = 0; k < holes; k++) {
                add("ofHole" + of + " " + k + " #", 0, 3);
            }
            for (int k = 0; k < parts + holes; k++) {
                all.add("outline" + of + " " + k);
                add("ofOutline" + of + " " + k + " #", 0, 3);
            }
        }
    }
}
