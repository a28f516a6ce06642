/** One call of the face, to be made on any object. */
interface Call {
    int on(PlanesBack x);
}
