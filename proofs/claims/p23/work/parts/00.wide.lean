theorem wd_0 (c : ClassId) (N h0 : Nat) : Jvm.Free.Multi.outerC c N h0 0 = Jvm.Free.Multi.outerC c N h0 0 := rfl
