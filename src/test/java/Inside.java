import java.lang.reflect.Constructor;
import java.lang.reflect.Field;
import java.lang.reflect.Method;

/**
 * An object of one of PaintEditor's inner classes, for sentences of the document that no run of calls
 * reaches: a drawing makes the place right ahead of each cluster, so that no character is ever sent at
 * the margin, and the layout gives each wide cluster its two cells.
 */
final class Inside {
    private final Object object;

    private Inside(Object object) {
        this.object = object;
    }

    static Inside make(String name, int columns, int rows) {
        try {
            Constructor<?> maker = Class.forName("PaintEditor$" + name).getDeclaredConstructor(int.class, int.class);
            maker.setAccessible(true);
            return new Inside(maker.newInstance(columns, rows));
        } catch (ReflectiveOperationException e) {
            throw new IllegalStateException(e);
        }
    }

    static Inside of(Object object) {
        return new Inside(object);
    }

    Inside part(String field) {
        return new Inside(read(field));
    }

    int number(String field) {
        return (Integer) read(field);
    }

    boolean flag(String field) {
        return (Boolean) read(field);
    }

    private Object read(String field) {
        try {
            Field found = object.getClass().getDeclaredField(field);
            found.setAccessible(true);
            return found.get(object);
        } catch (ReflectiveOperationException e) {
            throw new IllegalStateException(e);
        }
    }

    void set(String field, int value) {
        try {
            Field found = object.getClass().getDeclaredField(field);
            found.setAccessible(true);
            found.setInt(object, value);
        } catch (ReflectiveOperationException e) {
            throw new IllegalStateException(e);
        }
    }

    /** Calls the method of this name; an argument that is an Inside stands for its object. */
    Object call(String name, Object... arguments) {
        try {
            for (Method method : object.getClass().getDeclaredMethods()) {
                if (method.getName().equals(name)) {
                    method.setAccessible(true);
                    return method.invoke(object, opened(arguments));
                }
            }
        } catch (ReflectiveOperationException e) {
            throw new IllegalStateException(e);
        }
        throw new IllegalStateException("no method " + name);
    }

    private static Object[] opened(Object[] arguments) {
        Object[] made = arguments.clone();
        for (int i = 0; i < made.length; i++) {
            if (made[i] instanceof Inside inside) {
                made[i] = inside.object;
            }
        }
        return made;
    }
}
