/** One call on an object, with its answer. */
interface Call {
    long on(BarrierDispatch x);
}
