/-! ===== the printed names speak of va_AOA and don't define it: the word of the tables on arrays of arrays, kept ===== -/
def va_AOA (ty : FieldType) (U : State) : Prop := (Cond.arrayOver (.array ty)).before #[] U = true
theorem va_AOA.use {ty : FieldType} {args : Array Value} {U : State} (h : va_AOA ty U) : (Cond.arrayOver (.array ty)).before args U = true := over_moved (Vm.Alike.refl U.vm) h
theorem va_AOA.of {ty : FieldType} {args : Array Value} {U : State} (h : (Cond.arrayOver (.array ty)).before args U = true) : va_AOA ty U := over_moved (Vm.Alike.refl U.vm) h
theorem va_AOA.moved {ty : FieldType} {u U : State} (hvm : u.vm.Alike U.vm) (h : va_AOA ty u) : va_AOA ty U := over_moved hvm h
