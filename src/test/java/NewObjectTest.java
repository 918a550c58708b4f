import java.lang.reflect.Constructor;
import java.lang.reflect.Field;
import java.lang.reflect.Method;
import java.lang.reflect.Modifier;
import java.util.TreeSet;

/** Promise 1, and the public face. */
public final class NewObjectTest {
    private static final Check CHECK = new Check();

    public static void main(String[] args) {
        newObjectIsEmpty();
        everythingIsAsWithoutLaws();
        objectsAreApart();
        faceIsAsTold();
        CHECK.finish();
    }

    private static void newObjectIsEmpty() {
        GrainDole dole = new GrainDole();
        for (int what = 0; what <= 6; what++) {
            CHECK.due("count " + what, 0, dole.count(what));
        }
        for (int place = 0; place < 30; place++) {
            CHECK.due("holder " + place, -1, dole.holder(place, 0, 0));
            CHECK.due("rank " + place, -1, dole.rank(place, 0, 0));
        }
        CHECK.due("lot", -1, dole.lot(0, 0));
        CHECK.due("premium", -1, dole.premium(0));
        CHECK.due("isVoid", -1, dole.isVoid(0, 0));
        CHECK.due("month", -1, dole.month(0, 0));
        CHECK.due("given", -1, dole.given(0, 0));
        CHECK.due("back", 0, dole.back(0));
        for (int gate = 0; gate < 4; gate++) {
            CHECK.due("frauds " + gate, 0, dole.frauds(gate));
            CHECK.due("room " + gate, 1000, dole.room(gate, 1000));
        }
    }

    private static void everythingIsAsWithoutLaws() {
        GrainDole dole = new GrainDole();
        int[] want = {5, 12, 6, 0, 100, 0, -1, -1, -1, -1, 100, 100, 100, 100, -1};
        for (int what = 0; what < want.length; what++) {
            CHECK.due("holds " + what, want[what], dole.holds(0, 0, what));
            CHECK.due("holds late " + what, want[what], dole.holds(119, 119, what));
        }
    }

    private static void objectsAreApart() {
        GrainDole one = new GrainDole();
        GrainDole other = new GrainDole();
        one.enter(0, 0, 3, 4, 1);
        one.ship(10, 0);
        one.land(0, 0, 10, false);
        CHECK.due("other's entries", 0, other.count(2));
        CHECK.due("other's ships", 0, other.count(3));
        CHECK.due("other's corn", 0, other.count(6));
        CHECK.due("other's holder", -1, other.holder(3, 0, 0));
    }

    private static void faceIsAsTold() {
        TreeSet<String> names = new TreeSet<>();
        for (Method method : GrainDole.class.getDeclaredMethods()) {
            if (!Modifier.isPrivate(method.getModifiers())) {
                CHECK.due(method + " is public", true, Modifier.isPublic(method.getModifiers()));
                names.add(method.getName());
            }
        }
        CHECK.due("public methods", 22, names.size());
        int visible = 0;
        for (Field field : GrainDole.class.getDeclaredFields()) {
            visible += Modifier.isPrivate(field.getModifiers()) ? 0 : 1;
        }
        CHECK.due("fields to be seen", 1, visible);
        Constructor<?>[] constructors = GrainDole.class.getDeclaredConstructors();
        CHECK.due("constructors", 1, constructors.length);
        CHECK.due("final", true, Modifier.isFinal(GrainDole.class.getModifiers()));
        CHECK.due("NONE", -1, GrainDole.NONE);
    }
}
