theorem fl_X6_23_6 : FL RX6 23 6 2 := ⟨RX6, TX6, 3, "IcicleRings$Row", rfl, in_X6, by decide, wd_182, Or.inl rfl⟩
theorem fl_X6_19_6 : FL RX6 19 6 1 := ⟨RX6, TX6, 3, "IcicleRings$Row", rfl, in_X6, by decide, wd_177, Or.inl rfl⟩
theorem fl_X6_13_6 : FL RX6 13 6 0 := ⟨RX6, TX6, 3, "IcicleRings$Row", rfl, in_X6, by decide, wd_175, Or.inl rfl⟩
theorem fp_X6_19_6 : FP RX6 19 6 1 .int false := ⟨RX6, TX6, 3, "IcicleRings$Row", tyX6, rfl, in_X6, by decide, wd_177, Or.inl rfl, tyX6_ok, nmX6, rfl, (fun q => by cases q), rfl⟩
