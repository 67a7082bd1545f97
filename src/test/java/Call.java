/** A call of an object that a test looks at. */
interface Call {
    long on(PlateSlabs x);
}
