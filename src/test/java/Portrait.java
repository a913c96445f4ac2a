import java.util.ArrayList;
import java.util.List;
import java.util.function.BiConsumer;
import java.util.function.IntSupplier;
import java.util.function.Supplier;

/**
 * What an object answers from here on: two objects with the same portrait are in the same state, as
 * far as calls can tell. Each part is asked of an object of its own, since some parts change it and
 * nothing is promised of an object after its 512th call.
 */
final class Portrait {
    // The other half of the 512 is for coming to the state.
    private static final int MOST_CALLS = 256;
    private static final List<BiConsumer<SmokeWatch, Portrait>> PARTS = List.of(
        (x, p) -> p.log(x, 0, 30), (x, p) -> p.log(x, 30, 60), (x, p) -> p.squares(x), (x, p) -> p.fires(x),
        (x, p) -> p.patches(x), (x, p) -> p.crews(x), (x, p) -> p.towers(x), (x, p) -> p.sending(x),
        (x, p) -> p.claims(x), (x, p) -> p.whatIsMadeNext(x), (x, p) -> p.undoing(x));

    private final StringBuilder told = new StringBuilder();
    private int calls = 0;

    private Portrait() {
    }

    static List<String> of(Supplier<SmokeWatch> state) {
        List<String> parts = new ArrayList<>();
        for (BiConsumer<SmokeWatch, Portrait> part : PARTS) {
            Portrait portrait = new Portrait();
            part.accept(state.get(), portrait);
            parts.add(portrait.told.toString());
        }
        return parts;
    }

    private void tell(IntSupplier call) {
        calls++;
        if (calls > MOST_CALLS) {
            throw new IllegalStateException("too many calls for one part");
        }
        told.append(call.getAsInt()).append(' ');
    }

    private void counts(SmokeWatch x) {
        for (int what = 0; what < 6; what++) {
            int w = what;
            tell(() -> x.count(w));
        }
    }

    private void log(SmokeWatch x, int from, int to) {
        counts(x);
        for (int i = from; i < to; i++) {
            for (int what = 0; what < 7; what++) {
                int place = i;
                int w = what;
                tell(() -> x.log(place, w));
            }
        }
    }

    private void squares(SmokeWatch x) {
        for (int i = 0; i < 10; i++) {
            for (int k = 0; k < 24; k++) {
                int place = i;
                int kth = k;
                tell(() -> x.squares(place, kth));
            }
        }
    }

    private void fires(SmokeWatch x) {
        for (int f = 0; f < 20; f++) {
            for (int what = 0; what < 5; what++) {
                int fire = f;
                int w = what;
                tell(() -> x.fire(fire, w));
            }
            int fire = f;
            tell(() -> x.sent(fire));
            tell(() -> x.next(fire));
        }
        for (int minute = 0; minute < 10; minute++) {
            int m = minute;
            tell(() -> x.fewest(m, m));
        }
    }

    private void patches(SmokeWatch x) {
        for (int f = 0; f < 20; f++) {
            for (int k = 0; k < 8; k++) {
                int fire = f;
                int kth = k;
                tell(() -> x.patch(fire, kth));
            }
        }
        tell(x::office);
        counts(x);
    }

    private void crews(SmokeWatch x) {
        for (int k = 0; k < 8; k++) {
            int crew = k;
            tell(() -> x.place(crew));
            for (int n = 0; n < 9; n++) {
                int r = n / 3 * 2;
                int c = n % 3 * 2;
                tell(() -> x.minutes(crew, r, c));
            }
            for (int i = 0; i < 8; i++) {
                int step = i;
                tell(() -> x.way(crew, 4, 4, step));
                tell(() -> x.way(crew, 0, 0, step));
            }
        }
    }

    private void towers(SmokeWatch x) {
        for (int t = 0; t < 8; t++) {
            for (int n = 0; n < 12; n++) {
                int tower = t;
                int r = n % 5;
                int c = n * 3 % 5;
                tell(() -> x.see(tower, r, c));
                tell(() -> x.hidden(tower, r, c));
            }
        }
        tell(x::best);
        tell(x::blinds);
        for (int k = 0; k < 26; k++) {
            int kth = k;
            tell(() -> x.blind(kth));
        }
    }

    private void sending(SmokeWatch x) {
        tell(x::send);
        for (int f = 0; f < 20; f++) {
            int fire = f;
            tell(() -> x.sent(fire));
        }
    }

    /** Claims are seen through check() alone: what is wrong now, and as places are said to be alone. */
    private void claims(SmokeWatch x) {
        tell(x::check);
        for (int i = 0; i < 60; i++) {
            int place = i;
            tell(() -> Woods.num(x.claim(place, SmokeWatch.NONE)));
            tell(x::check);
        }
    }

    private void whatIsMadeNext(SmokeWatch x) {
        for (int n = 0; n < 20; n++) {
            int at = n;
            tell(() -> x.tower(at % 5, 0, at));
            tell(() -> x.crew(at % 5, 1));
            tell(() -> x.remark(at));
            tell(() -> x.sight(0, 0, at, 1, 1, 90, 0, 0));
            tell(() -> x.begin(at));
            tell(() -> Woods.num(x.clear(at)));
            tell(() -> Woods.num(x.square(at % 5, 0, at, 1)));
        }
        counts(x);
    }

    private void undoing(SmokeWatch x) {
        for (int i = 0; i < 51; i++) {
            tell(() -> Woods.num(x.undo()));
            tell(() -> x.count(1));
            tell(() -> x.count(2));
            tell(() -> x.place(0));
        }
        counts(x);
        for (int i = 0; i < 8; i++) {
            int place = i;
            tell(() -> x.log(place, 0));
            tell(() -> x.log(place, 4));
            tell(() -> x.fire(place, 2));
        }
    }
}
