import java.lang.reflect.Array;
import java.lang.reflect.Field;
import java.lang.reflect.Modifier;
import java.util.ArrayList;
import java.util.IdentityHashMap;
import java.util.List;

/** All that an object holds, its private fields and those of all objects behind them, as one text to compare. */
final class Picture {
    private final IdentityHashMap<Object, Integer> numbers = new IdentityHashMap<>();
    private final List<Object> found = new ArrayList<>();
    private final StringBuilder text = new StringBuilder();

    private Picture() {
    }

    static String of(Object root) {
        Picture picture = new Picture();
        picture.numberOf(root);
        for (int i = 0; i < picture.found.size(); i++) {
            picture.draw(picture.found.get(i));
        }
        return picture.text.toString();
    }

    private int numberOf(Object object) {
        Integer number = numbers.get(object);
        if (number == null) {
            number = found.size();
            numbers.put(object, number);
            found.add(object);
        }
        return number;
    }

    private void draw(Object object) {
        text.append('\n').append(numbers.get(object)).append(':');
        if (object.getClass().isArray()) {
            Class<?> part = object.getClass().getComponentType();
            for (int i = 0; i < Array.getLength(object); i++) {
                drawValue(part, Array.get(object, i));
            }
            return;
        }
        for (Field field : object.getClass().getDeclaredFields()) {
            if (!Modifier.isStatic(field.getModifiers())) {
                text.append(field.getName());
                drawValue(field.getType(), valueOf(field, object));
            }
        }
    }

    private static Object valueOf(Field field, Object object) {
        try {
            field.setAccessible(true);
            return field.get(object);
        } catch (IllegalAccessException e) {
            throw new IllegalStateException(e);
        }
    }

    private void drawValue(Class<?> type, Object value) {
        boolean plain = value == null || type.isPrimitive() || value.getClass().getName().startsWith("java.");
        text.append(plain ? "=" + value : ">" + numberOf(value)).append(' ');
    }
}
