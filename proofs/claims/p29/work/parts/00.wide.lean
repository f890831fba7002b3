/-- a name of the library's part that va_mna's printed text rests on: the round is read over the whole of it from the first part on -/
def ww_fill := @Jvm.Free.Multi.fill
