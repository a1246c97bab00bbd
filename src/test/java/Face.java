import java.lang.reflect.Constructor;
import java.lang.reflect.Field;
import java.lang.reflect.Method;
import java.lang.reflect.Modifier;
import java.util.Set;
import java.util.TreeSet;

/** The public face of the document, and the rules of LANGUAGE.md that can be seen from outside. */
public final class Face {
    private static final String[] DUE = {
        "int person(int)", "int of(int,int)", "int heart(int)", "int set(int,int,int)", "int turn(int,int)",
        "int as(int,int)", "int news(int,int,int)", "int load(int)", "int at(int)", "int hang(int)",
        "int take(int)", "int bag(int)", "int minutes(int)", "int now(int)", "int on(int,int,int)",
        "int tilt(int)", "int level()", "int mixed(int)", "int match(int)", "int seats()", "int weights()",
        "int sorrow(int)", "int kind(int)", "int delay(int,int,int)", "int fewest(int)",
        "int helps(int,int,int)", "int feed(int,int)", "int wipe()", "int park()", "int sheet(int,int,int)",
        "long write(int,int,long)", "int copy(int,int,int,int,int)", "int lays(int)", "int book(int)",
        "int read(int,int)", "int image()", "int undo()", "int tear()", "int count(int)", "int status(int)"};

    private static int wrong = 0;

    private static void must(boolean holds, String what) {
        if (!holds) {
            wrong++;
            System.out.println("not so: " + what);
        }
    }

    private static String told(Method m) {
        StringBuilder all = new StringBuilder(m.getReturnType().getName() + " " + m.getName() + "(");
        for (Class<?> type : m.getParameterTypes()) {
            all.append(all.charAt(all.length() - 1) == '(' ? "" : ",").append(type.getName());
        }
        return all.append(")").toString();
    }

    private static void face() {
        Set<String> due = new TreeSet<>(Set.of(DUE));
        Set<String> there = new TreeSet<>();
        for (Method m : SeeSawHearts.class.getDeclaredMethods()) {
            if (!Modifier.isPrivate(m.getModifiers())) {
                must(Modifier.isPublic(m.getModifiers()) && !Modifier.isStatic(m.getModifiers()), m + " is public");
                there.add(told(m));
            }
        }
        must(there.equals(due), "the methods are those of the document: " + there);
        Constructor<?>[] makers = SeeSawHearts.class.getDeclaredConstructors();
        must(makers.length == 1 && makers[0].getParameterCount() == 0, "one constructor");
        must(Modifier.isFinal(SeeSawHearts.class.getModifiers()), "the class is final");
    }

    private static void fields(Class<?> type) {
        int own = 0;
        for (Field f : type.getDeclaredFields()) {
            if (Modifier.isStatic(f.getModifiers())) {
                must(Modifier.isFinal(f.getModifiers()), f + " is final");
            } else {
                own++;
            }
            must(type != SeeSawHearts.class || Modifier.isPrivate(f.getModifiers()), f + " is private");
        }
        must(own <= 20, type + " has few fields");
    }

    private static void methods(Class<?> type, Set<String> names) {
        for (Method m : type.getDeclaredMethods()) {
            boolean isFace = type == SeeSawHearts.class && Modifier.isPublic(m.getModifiers());
            must(isFace || !names.contains(m.getName()), m + " has a name of its own");
            must(m.getParameterCount() <= 7, m + " has few parameters");
        }
    }

    public static void main(String[] args) {
        face();
        Set<String> names = new TreeSet<>();
        for (Method m : SeeSawHearts.class.getMethods()) {
            if (m.getDeclaringClass() == SeeSawHearts.class) {
                names.add(m.getName());
            }
        }
        fields(SeeSawHearts.class);
        methods(SeeSawHearts.class, names);
        Class<?>[] inside = SeeSawHearts.class.getDeclaredClasses();
        must(inside.length < 12, "few classes");
        for (Class<?> type : inside) {
            must(Modifier.isStatic(type.getModifiers()), type + " is static");
            fields(type);
            methods(type, names);
        }
        System.out.println(wrong == 0 ? "the face is as told" : wrong + " things are not so");
        if (wrong != 0) {
            System.exit(1);
        }
    }
}
