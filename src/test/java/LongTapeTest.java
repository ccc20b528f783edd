import java.lang.reflect.Constructor;
import java.lang.reflect.Field;
import java.lang.reflect.Method;

/**
 * FAULT 3: "more than 2500 in all". No tape of 2000 bytes leads there, so that no call of the face can show it:
 * this test alone looks inside, and gives the decoder a longer row than a tape can be.
 */
public final class LongTapeTest {
    private static final Due DUE = new Due("LongTapeTest");

    public static void main(String[] args) throws ReflectiveOperationException {
        // 49 NODES with all 51 EDGES, then one with one more.
        due("2500 EDGES", Bytes.full(51, 2500), 0, 0);
        // The NODE that tells the first EDGE too many, at how many it tells.
        int place = 1 + 49 * 52;
        due("2501 EDGES", Bytes.full(51, 2501), 3, place);
        due("2550 EDGES", Bytes.full(51, 2550), 3, place);
        int[] two = Bytes.full(51, 2500);
        two[two.length - 1] = 1;
        due("2501 EDGES, the last of another NODE", Bytes.joined(two, 0), 3, place + 2);
        due("2501 EDGES, none told behind it", two, 3, place + 2);
        DUE.end();
    }

    private static void due(String bytes, int[] told, int kind, int place) throws ReflectiveOperationException {
        Object row = row(told);
        Class<?> decoderClass = Class.forName("RankHouse$Decoder");
        Object decoder = maker(decoderClass).newInstance();
        Method decode = decoderClass.getDeclaredMethod("decode", row.getClass(), Class.forName("RankHouse$Graph"));
        decode.setAccessible(true);
        boolean sound = (Boolean) decode.invoke(decoder, row, null);
        DUE.is("decoding " + bytes, sound ? 1 : 0, kind == 0 ? 1 : 0);
        DUE.is("kind of " + bytes, field(decoder, "kind"), kind);
        DUE.is("place of " + bytes, field(decoder, "place"), place);
    }

    private static Object row(int[] told) throws ReflectiveOperationException {
        Class<?> rowClass = Class.forName("RankHouse$ByteRow");
        Object row = maker(rowClass, int.class).newInstance(told.length);
        Method put = rowClass.getDeclaredMethod("put", int.class);
        put.setAccessible(true);
        for (int octet : told) {
            put.invoke(row, octet);
        }
        return row;
    }

    private static Constructor<?> maker(Class<?> of, Class<?>... parameters) throws ReflectiveOperationException {
        Constructor<?> maker = of.getDeclaredConstructor(parameters);
        maker.setAccessible(true);
        return maker;
    }

    private static int field(Object of, String name) throws ReflectiveOperationException {
        Field field = of.getClass().getDeclaredField(name);
        field.setAccessible(true);
        return field.getInt(of);
    }
}
