/-- a name of the rest of the library: a round reads over the whole of it from here on -/
theorem wd_multi (c : ClassId) (N h0 : Nat) : Jvm.Free.Multi.outerC c N h0 0 = Jvm.Free.Multi.outerC c N h0 0 := rfl
