import java.lang.reflect.Constructor;
import java.lang.reflect.Field;
import java.lang.reflect.Method;
import java.lang.reflect.Modifier;
import java.util.Arrays;
import java.util.Set;
import java.util.TreeSet;

/** The public face, and promise 1: a new object. */
public final class FaceTest {
    private static final String[] FACE = {
        "int title(int)", "boolean bargain(int,int,int,int,int)", "int buy(int,int)", "boolean sell(int,int)",
        "int reader(int,int,int)", "boolean renew(int,int)", "int wish(int,int)", "boolean unwish(int)",
        "int go(int)", "int back(int)", "int lose(int)", "int pay(int,int)", "int copy(int,int)",
        "int told(int,int)", "int wished(int,int)", "int waiting(int,int)", "int sets(int)",
        "boolean demand(int,int,int)", "int best(int,int)", "int gain(int,int)", "int kept(int,int,int)",
        "int count(int)"
    };

    public static void main(String[] args) {
        Due due = new Due("FaceTest");
        face(due);
        newObject(due);
        objectsAreApart(due);
        due.end();
    }

    private static void face(Due due) {
        Set<String> visible = new TreeSet<>();
        Set<String> hidden = new TreeSet<>();
        for (Method m : VolumeHouse.class.getDeclaredMethods()) {
            if (Modifier.isPrivate(m.getModifiers())) {
                hidden.add(m.getName());
                continue;
            }
            StringBuilder text = new StringBuilder();
            text.append(m.getReturnType()).append(' ').append(m.getName()).append('(');
            for (int i = 0; i < m.getParameterCount(); i++) {
                text.append(i > 0 ? "," : "").append(m.getParameterTypes()[i]);
            }
            visible.add(text.append(')').toString());
            due.yes(m.getName() + " is public", Modifier.isPublic(m.getModifiers()));
        }
        due.yes("the methods are those of the document", visible.equals(new TreeSet<>(Arrays.asList(FACE))));
        for (String method : FACE) {
            String name = method.substring(method.indexOf(' ') + 1, method.indexOf('('));
            due.no("a private method is named " + name, hidden.contains(name));
        }
        for (Field f : VolumeHouse.class.getDeclaredFields()) {
            due.yes(f.getName() + " is hidden, or NONE", Modifier.isPrivate(f.getModifiers()) || f.getName().equals("NONE"));
        }
        Constructor<?>[] made = VolumeHouse.class.getDeclaredConstructors();
        due.is("constructors", made.length, 1);
        due.yes("the constructor is public", Modifier.isPublic(made[0].getModifiers()));
        due.is("its parameters", made[0].getParameterCount(), 0);
        int modifiers = VolumeHouse.class.getModifiers();
        due.yes("the class is public and final", Modifier.isPublic(modifiers) && Modifier.isFinal(modifiers));
        due.is("NONE", VolumeHouse.NONE, -1);
    }

    private static void newObject(Due due) {
        VolumeHouse x = new VolumeHouse();
        for (int what = 0; what <= 8; what++) {
            due.is("new: count " + what, x.count(what), 0);
        }
        due.is("new: no title", x.sets(0), -1);
        due.is("new: no reader", x.told(0, 0), -1);
        due.is("new: no copy", x.copy(0, 0), -1);
        due.is("new: no wish", x.wished(0, 0), -1);
        due.is("new: nothing is wanted", x.best(1000, 0), 0);
        due.is("new: nothing is gained", x.gain(1000, 0), 0);
        due.is("new: day 0 is now", x.go(0), 0);
    }

    private static void objectsAreApart(Due due) {
        VolumeHouse a = new VolumeHouse();
        VolumeHouse b = new VolumeHouse();
        a.title(2);
        a.go(3);
        a.demand(0, 1, 1);
        due.is("apart: titles", b.count(1), 0);
        due.is("apart: now", b.count(0), 0);
        due.is("apart: demand", b.best(5, 0), 0);
    }
}
