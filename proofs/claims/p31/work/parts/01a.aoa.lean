/-- the class of the arrays of arrays is known to the tables (the printed block on new T[n][m] names this word, and doesn't print it) -/
def va_AOA (ty : FieldType) (U : State) : Prop := (Cond.arrayOver (.array ty)).before #[] U = true
theorem va_AOA.use {ty : FieldType} {args : Array Value} {U : State} (h : va_AOA ty U) : (Cond.arrayOver (.array ty)).before args U = true := h
