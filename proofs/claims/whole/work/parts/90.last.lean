theorem probe_1 : 1 = 1 := rfl
