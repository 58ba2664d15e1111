/** Texts that several tests use. */
final class Worlds {
    static final String HEAD = "world hour 5;";
    static final String WALKER = "walker z plain broad 1 deep 1 high 1 from 1 to 1";
    /** As little as a world can tell. */
    static final String SMALL = HEAD + "place a;" + WALKER;

    /** All rooms are full. */
    static final String FULL = HEAD
        + "rain drops 2 down 3 wind east 4 chance 50;rain drops 1 down 2 wind north 3 chance 75;"
        + "rain drops 5 down 1 wind south 0 chance 0;rain drops 0 down 9 wind west 9 chance 100;"
        + "rain drops 9 down 9 wind west 9 chance 100;rain drops 3 down 1 wind east 1 chance 1;"
        + "place a inn;place b tree 2;place c;place d;place e;place f;place g;place h tree 9;"
        + "road a east 12 b awning 4;road b north 10 c;road c east 1 d;road d east 1 e;road e east 1 f;road f east 1 g;"
        + "road a north 1 c awning 1;road a west 2 d;road b south 3 e;road c west 4 f;road d south 5 h awning 5;road g east 60 h;"
        + "walker p plain broad 2 deep 1 high 5 from 2 to 6;walker s shield 6 broad 3 deep 2 high 4 from 1 to 3;"
        + "walker k coat 40 broad 9 deep 9 high 9 from 1 to 1;walker n bent 8 broad 9 deep 9 high 9 from 1 to 9;"
        + "seen p 48,0,160,0,0;seen k 1,1,1,1,1;seen s 0,0,0,0,0;seen n 9,0,0,0,0";

    private Worlds() {
    }

    /** A text of just so many bytes: blanks stand ahead of its last token. */
    static String padded(String text, int length) {
        int last = text.lastIndexOf(' ') + 1;
        return text.substring(0, last) + " ".repeat(length - text.length()) + text.substring(last);
    }
}
