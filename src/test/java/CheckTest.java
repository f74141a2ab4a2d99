import java.lang.reflect.Field;

/** Promise 16: no run of calls can spoil the value, so this test does it from outside. */
public final class CheckTest {
    public static void main(String[] args) throws ReflectiveOperationException {
        for (int i = 0; i < 32; i++) {
            SeedMill mill = new SeedMill();
            mill.feed(1, 8);
            mill.seed();
            mill.draw(40);
            int[] value = bytesOf(mill, "value");
            value[i] ^= 1;
            Due.is("check() with byte " + i + " of the value spoilt", 0, mill.check());
            value[i] ^= 1;
            Due.is("check() with byte " + i + " mended", 1, mill.check());
            value[i] ^= 1;
            mill.feed(1, 1);
            mill.reseed();
            Due.is("check() after the next stirring", 1, mill.check());
            bytesOf(mill, "value")[i] ^= 1;
            mill.forget();
            Due.is("check() when not seeded", 1, mill.check());
        }
        Due.finish();
    }

    private static int[] bytesOf(SeedMill mill, String name) throws ReflectiveOperationException {
        Field field = SeedMill.class.getDeclaredField(name);
        field.setAccessible(true);
        Object row = field.get(mill);
        Field bytes = row.getClass().getDeclaredField("bytes");
        bytes.setAccessible(true);
        return (int[]) bytes.get(row);
    }
}
