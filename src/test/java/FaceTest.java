import java.lang.reflect.Constructor;
import java.lang.reflect.Field;
import java.lang.reflect.Method;
import java.lang.reflect.Modifier;
import java.util.Set;
import java.util.TreeSet;

/** The public face is the document's: no member is missing, and no other can be seen (LANGUAGE.md, rule 1). */
public final class FaceTest {
    private static final String[] METHODS = {
        "int type(long,int)", "int clear()", "int dam()", "int cell(int,int,int)", "int zone(int,int,int)",
        "int load(int,int,int)", "int lake(int)", "int sweep(int)", "int seep()", "int dry()", "int least(int)",
        "int ways(int)", "int filter(int)", "int day()", "int breach()", "int highest()", "int pool(int,int)",
        "int flood(int,int)", "int ebb(int)", "int route(int,int,int)", "int best(int)", "int gauge(int,int,int)",
        "int cause(int,int)", "int slack(int)", "int fits()", "int next(int)", "int work(int,int,int,int,int)",
        "int cheapest(int,int)", "int keep(int)", "int back(int)", "int count(int)", "long trace()",
    };
    private static final String[] CONSTANTS = {"BAD", "STATE", "FULL", "NONE"};

    public static void main(String[] args) {
        Check.due("BAD", EarthBanks.BAD, -1);
        Check.due("STATE", EarthBanks.STATE, -2);
        Check.due("FULL", EarthBanks.FULL, -3);
        Check.due("NONE", EarthBanks.NONE, -9);
        int modifiers = EarthBanks.class.getModifiers();
        Check.due("the class is public and final", Modifier.isPublic(modifiers) && Modifier.isFinal(modifiers) ? 1 : 0, 1);
        methodsAreTheFace();
        constantsAreTheFace();
        Constructor<?>[] constructors = EarthBanks.class.getDeclaredConstructors();
        Check.due("constructors", constructors.length, 1);
        Check.due("constructor's parameters", constructors[0].getParameterCount(), 0);
        Check.due("constructor is public", Modifier.isPublic(constructors[0].getModifiers()) ? 1 : 0, 1);
        Check.end();
    }

    private static void methodsAreTheFace() {
        Set<String> expected = new TreeSet<>(Set.of(METHODS));
        Set<String> names = new TreeSet<>();
        for (String method : METHODS) names.add(method.substring(method.indexOf(' ') + 1, method.indexOf('(')));
        for (Method method : EarthBanks.class.getDeclaredMethods()) {
            if (method.isSynthetic()) continue;
            if (Modifier.isPrivate(method.getModifiers())) {
                Check.due("private " + method.getName() + " bears a public name", names.contains(method.getName()) ? 1 : 0, 0);
                continue;
            }
            Check.due(told(method) + " is of the face", expected.remove(told(method)) ? 1 : 0, 1);
            Check.due(told(method) + " is public", Modifier.isPublic(method.getModifiers()) ? 1 : 0, 1);
            Check.due(told(method) + " is of objects", Modifier.isStatic(method.getModifiers()) ? 1 : 0, 0);
        }
        Check.due("missing " + expected, expected.size(), 0);
        for (Class<?> nested : EarthBanks.class.getDeclaredClasses()) nestedNamesAreTheirOwn(nested, names);
    }

    private static void nestedNamesAreTheirOwn(Class<?> nested, Set<String> names) {
        Check.holds(nested.getName() + " is static", Modifier.isStatic(nested.getModifiers()));
        Check.holds(nested.getName() + " is not seen from outside", !Modifier.isPublic(nested.getModifiers()));
        for (Method method : nested.getDeclaredMethods()) {
            boolean bears = Modifier.isPrivate(method.getModifiers()) && names.contains(method.getName());
            Check.holds(nested.getName() + "." + method.getName() + " bears no public name", !bears);
        }
    }

    private static String told(Method method) {
        StringBuilder text = new StringBuilder(method.getReturnType().getName()).append(' ').append(method.getName()).append('(');
        for (Class<?> type : method.getParameterTypes()) {
            if (text.charAt(text.length() - 1) != '(') text.append(',');
            text.append(type.getName());
        }
        return text.append(')').toString();
    }

    private static void constantsAreTheFace() {
        Set<String> expected = new TreeSet<>(Set.of(CONSTANTS));
        for (Field field : EarthBanks.class.getDeclaredFields()) {
            int modifiers = field.getModifiers();
            if (field.isSynthetic() || Modifier.isPrivate(modifiers)) continue;
            Check.due(field.getName() + " is of the face", expected.remove(field.getName()) ? 1 : 0, 1);
            boolean constant = Modifier.isPublic(modifiers) && Modifier.isStatic(modifiers) && Modifier.isFinal(modifiers);
            Check.due(field.getName() + " is a public int constant", constant && field.getType() == int.class ? 1 : 0, 1);
        }
        Check.due("missing " + expected, expected.size(), 0);
    }
}
