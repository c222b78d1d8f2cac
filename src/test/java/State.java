import java.util.List;
import java.util.function.Supplier;

/**
 * All that can be asked of the object that some calls have made, as one text. The object is made again for each part,
 * so that none is used for more than 512 calls, and so that questions that change it can be asked, too.
 */
final class State {
    private static final int FRAMES_ASKED = 40;

    private final List<String> calls;
    private final int callsLeft;
    private final Supplier<?> maker;
    private final StringBuilder text = new StringBuilder();
    private Caller asked;
    private int questions;

    private State(List<String> calls, int callsLeft, Supplier<?> maker) {
        this.calls = calls;
        this.callsLeft = callsLeft;
        this.maker = maker;
        makeAgain();
    }

    /** The state behind these calls, of which there are so many at most: two states of equal number can be compared. */
    static String behind(List<String> calls, int mostCalls, Supplier<?> maker) {
        if (calls.size() > mostCalls || mostCalls >= Caller.MOST_CALLS) {
            throw new AssertionError("no call is left to ask with");
        }
        State state = new State(calls, Caller.MOST_CALLS - mostCalls, maker);
        state.films();
        state.shots();
        state.reels();
        state.versionsAndFigures();
        state.roomLeft();
        state.loans();
        state.runsLeft();
        state.framesLeftOut();
        state.grades();
        return state.text.toString();
    }

    private void makeAgain() {
        asked = new Caller(maker.get());
        for (String call : calls) {
            asked.answer(call);
        }
        questions = 0;
    }

    private String ask(String call) {
        if (questions == callsLeft) {
            makeAgain();
        }
        questions++;
        String answer = asked.answer(call);
        text.append(call).append(": ").append(answer).append('\n');
        return answer;
    }

    private boolean isAnswered(String call) {
        return !Caller.isThrown(ask(call));
    }

    private void films() {
        for (int film = 0; isAnswered("shots " + film); film++) {
            for (int place = 0; isAnswered("shotOf " + film + " " + place);) {
                place++;
            }
        }
    }

    private void shots() {
        for (int shot = 0; isAnswered("lengthOf " + shot); shot++) {
            for (String name : new String[] {"frameOf", "reelOf", "scanned", "missed", "gradeOf", "gradeFrom"}) {
                ask(name + " " + shot);
            }
        }
    }

    private void reels() {
        for (int reel = 0; reel < 24; reel++) {
            for (int index = 0; isAnswered("wear " + reel + " " + index);) {
                index++;
            }
        }
    }

    private void versionsAndFigures() {
        for (int version = 0; isAnswered("frames " + version);) {
            version++;
        }
        for (String name : new String[] {"shown", "keptShare", "meanWear", "isSound"}) {
            ask(name);
        }
        // The greatest limit is always taken, and tells the one before.
        ask("setLimit 50");
    }

    private void roomLeft() {
        makeAgain();
        for (int film = 0; film < 6; film++) {
            ask("addShot " + film + " 1 0");
            ask("addReel " + film);
            ask("found " + film + " 0 1 0");
            ask("addVersion " + film + " 0");
            ask("addVersion " + film + " 7");
        }
        ask("addFilm");
    }

    private void loans() {
        makeAgain();
        for (int loan = 0; isAnswered("giveBack " + loan);) {
            loan++;
        }
        makeAgain();
        ask("advance 99");
        for (int loan = 0; loan < 20; loan++) {
            ask("giveBack " + loan);
        }
        for (int version = 0; version < 10; version++) {
            ask("lend " + version + " 1 0 1");
        }
    }

    private void runsLeft() {
        makeAgain();
        for (int reel = 0; reel < 24; reel++) {
            ask("run " + reel);
        }
        makeAgain();
        for (int loan = 0; loan < 20; loan++) {
            for (int shown = 0; shown < 10 && isAnswered("show " + loan);) {
                shown++;
            }
        }
        ask("shown");
        ask("isSound");
        reels();
    }

    private void framesLeftOut() {
        makeAgain();
        for (int version = 0; version < 10 && isAnswered("frames " + version); version++) {
            for (int frame = 0; frame < FRAMES_ASKED; frame++) {
                String call = "leaveOut " + version + " " + frame + " " + (frame + 1) + " true";
                if (!isAnswered(call)) {
                    break;
                }
            }
        }
    }

    private void grades() {
        makeAgain();
        for (int shot = 0; !ask("passOn " + shot).equals(Check.INDEX);) {
            shot++;
        }
        makeAgain();
        for (int shot = 0; !ask("grade " + shot + " -1").equals(Check.INDEX);) {
            ask("gradeOf " + shot);
            shot++;
        }
    }
}
