import java.lang.reflect.Constructor;
import java.lang.reflect.Field;
import java.lang.reflect.Method;
import java.lang.reflect.Modifier;
import java.util.Arrays;
import java.util.TreeSet;

/** The public face: every constant, constructor and method of the document, and no other member. */
public final class FaceTest {
    private static final String[] FACE = {
        "int setPatience(int,int) IndexOutOfBoundsException IllegalArgumentException",
        "int setQuota(int) IllegalArgumentException",
        "int setGrace(int) IllegalArgumentException",
        "int send(int,int,int) IllegalArgumentException IllegalStateException",
        "int sendBribed(int,int,int,int) IllegalArgumentException IllegalStateException",
        "int sendJoint(int,int,int,int) IllegalArgumentException IllegalStateException",
        "int withdraw(int) IndexOutOfBoundsException",
        "int serve() NoSuchElementException",
        "int pass(int) IllegalArgumentException IllegalStateException",
        "int petition(int,int) IndexOutOfBoundsException IllegalArgumentException",
        "int peek(int) IndexOutOfBoundsException",
        "int sentBy(int) IllegalArgumentException",
        "int returned(int) IllegalArgumentException",
        "int entry(int,int) IndexOutOfBoundsException IllegalArgumentException",
        "int value(int) IllegalArgumentException",
        "int ofRank(int) IllegalArgumentException",
        "int rankIn(int,int) IndexOutOfBoundsException IllegalArgumentException",
        "int firstToExpire()",
        "int servedIn(int) IndexOutOfBoundsException",
        "int bribeToLead(int) IllegalArgumentException",
        "double meanWait()",
        "int append(int) IllegalArgumentException IllegalStateException",
        "int clearText()",
        "int carryOut()",
        "int undo() IllegalStateException",
        "long digest()",
    };

    public static void main(String[] args) {
        Checks c = new Checks();
        Class<PetitionBox> box = PetitionBox.class;
        c.same("the class is public and final", box.getModifiers(), Modifier.PUBLIC | Modifier.FINAL);
        TreeSet<String> due = new TreeSet<>(Arrays.asList(FACE));
        TreeSet<String> publicNames = new TreeSet<>();
        TreeSet<String> privateNames = new TreeSet<>();
        for (Method method : box.getDeclaredMethods()) {
            if (method.isSynthetic()) {
                continue;
            }
            if (method.getModifiers() == Modifier.PUBLIC) {
                publicNames.add(method.getName());
                if (!due.remove(signature(method))) {
                    c.fail("not in the document: " + signature(method));
                }
            } else if (Modifier.isPrivate(method.getModifiers())) {
                privateNames.add(method.getName());
            } else {
                c.fail("neither of the face nor private: " + method);
            }
        }
        c.same("missing methods " + due, due.size(), 0);
        privateNames.retainAll(publicNames);
        c.same("private methods with a public name " + privateNames, privateNames.size(), 0);
        constructors(c, box);
        fields(c, box);
        c.finish();
    }

    private static String signature(Method method) {
        StringBuilder text = new StringBuilder();
        text.append(method.getReturnType().getSimpleName()).append(' ').append(method.getName());
        text.append('(');
        for (int i = 0; i < method.getParameterCount(); i++) {
            text.append(i > 0 ? "," : "").append(method.getParameterTypes()[i].getSimpleName());
        }
        text.append(')');
        for (Class<?> thrown : method.getExceptionTypes()) {
            text.append(' ').append(thrown.getSimpleName());
        }
        return text.toString();
    }

    private static void constructors(Checks c, Class<?> box) {
        Constructor<?>[] all = box.getDeclaredConstructors();
        c.same("constructors", all.length, 1);
        c.same("public", all[0].getModifiers(), Modifier.PUBLIC);
        c.same("without arguments", all[0].getParameterCount(), 0);
    }

    private static void fields(Checks c, Class<?> box) {
        for (Field field : box.getDeclaredFields()) {
            if (field.isSynthetic() || Modifier.isPrivate(field.getModifiers())) {
                continue;
            }
            if (!field.getName().equals("NONE") || field.getType() != int.class) {
                c.fail("not in the document: " + field);
            }
            c.same("NONE", field.getModifiers(), Modifier.PUBLIC | Modifier.STATIC | Modifier.FINAL);
        }
    }
}
