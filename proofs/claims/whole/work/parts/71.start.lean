theorem KK_start {s : State} {b : Nat} (hts : ∀ w ∈ lw_tbl, w.before #[Value.ref b] s = true) (hgv : (Jvm.Cond.and given_1 narrow_1).before #[Value.ref b] s = true) : ∃ κ : Wc, wB κ = s.heap.size ∧ KK κ s s.heap := by
  have htg : ∀ w ∈ gtbl, w.before #[Value.ref b] s = true := fun w hw => hts w (List.mem_filter.mp hw).1
  have hs := flat_of_before _ hgv
  obtain ⟨c0, i0, k0⟩ := u_known htg in_X0 (htg _ wd_403)
  obtain ⟨c1, i1, k1⟩ := u_known htg in_X1 (htg _ wd_393)
  obtain ⟨c2, i2, k2⟩ := u_known htg in_X2 (htg _ wd_89)
  obtain ⟨c3, i3, k3⟩ := u_known htg in_X3 (htg _ wd_83)
  obtain ⟨c4, i4, k4⟩ := u_known htg in_X4 (htg _ wd_383)
  obtain ⟨c5, i5, k5⟩ := u_known htg in_X5 (htg _ wd_363)
  obtain ⟨c6, i6, k6⟩ := u_known htg in_X6 (htg _ wd_167)
  obtain ⟨c7, i7, k7⟩ := u_known htg in_X7 (htg _ wd_373)
  obtain ⟨c8, i8, k8⟩ := u_known htg in_X8 (htg _ wd_353)
  obtain ⟨c9, i9, k9⟩ := u_known htg in_X9 (htg _ wd_454)
  obtain ⟨c10, i10, k10⟩ := u_known htg in_X10 (htg _ wd_322)
  obtain ⟨c11, i11, k11⟩ := u_known htg in_X11 (htg _ wd_75)
  obtain ⟨c12, i12, k12⟩ := u_known htg in_X12 (htg _ wd_930)
  obtain ⟨cA0, kA0, cm0, hA1, hA2, hA3⟩ := Cond.arrayClass_spec (htg _ wd_165)
  have hao1 : (Cond.arrayOver (.object "IcicleRings$Cause")).before #[Value.ref b] s = true := hts _ (by decide +kernel)
  obtain ⟨cm1, cA1, kA1, g11, g12, g13, g14, g15⟩ := Cond.arrayOver_spec hao1
  have hao2 : (Cond.arrayOver (.object "IcicleRings$Text")).before #[Value.ref b] s = true := hts _ (by decide +kernel)
  obtain ⟨cm2, cA2, kA2, g21, g22, g23, g24, g25⟩ := Cond.arrayOver_spec hao2
  have hao3 : (Cond.arrayOver (.object "IcicleRings$Row")).before #[Value.ref b] s = true := hts _ (by decide +kernel)
  obtain ⟨cm3, cA3, kA3, g31, g32, g33, g34, g35⟩ := Cond.arrayOver_spec hao3
  obtain ⟨t0, e0, T0⟩ := va_Tof (args := #[Value.ref b]) (s := s) (tm := .static "IcicleRings" "SETTING_LEAST" "[I") (ty := .int) (N := 6) (f := iv [0, 0, -50, 0, 1, 0]) (A := fun a => s.heap.size ≤ a) (by decide) (hs _ (by decide +kernel)) (va_eqt (hs _ (by decide +kernel))) (fun j hj => by rcases (show j = 0 ∨ j = 1 ∨ j = 2 ∨ j = 3 ∨ j = 4 ∨ j = 5 by omega) with rfl | rfl | rfl | rfl | rfl | rfl <;> exact va_eqt (hs _ (by decide +kernel))) (fun a h => by omega)
  obtain ⟨t1, e1, T1⟩ := va_Tof (args := #[Value.ref b]) (s := s) (tm := .static "IcicleRings" "SETTING_MOST" "[I") (ty := .int) (N := 6) (f := iv [9999, 99, 99, 99, 999, 9999999]) (A := fun a => s.heap.size ≤ a) (by decide) (hs _ (by decide +kernel)) (va_eqt (hs _ (by decide +kernel))) (fun j hj => by rcases (show j = 0 ∨ j = 1 ∨ j = 2 ∨ j = 3 ∨ j = 4 ∨ j = 5 by omega) with rfl | rfl | rfl | rfl | rfl | rfl <;> exact va_eqt (hs _ (by decide +kernel))) (fun a h => by omega)
  obtain ⟨t2, e2, T2⟩ := va_Tof (args := #[Value.ref b]) (s := s) (tm := .static "IcicleRings" "SETTING_FIRST" "[I") (ty := .int) (N := 6) (f := iv [200, 0, 20, 0, 50, 100000]) (A := fun a => s.heap.size ≤ a) (by decide) (hs _ (by decide +kernel)) (va_eqt (hs _ (by decide +kernel))) (fun j hj => by rcases (show j = 0 ∨ j = 1 ∨ j = 2 ∨ j = 3 ∨ j = 4 ∨ j = 5 by omega) with rfl | rfl | rfl | rfl | rfl | rfl <;> exact va_eqt (hs _ (by decide +kernel))) (fun a h => by omega)
  obtain ⟨t3, e3, T3⟩ := va_Tof (args := #[Value.ref b]) (s := s) (tm := .static "IcicleRings" "USE_SETTING" "[I") (ty := .int) (N := 2) (f := iv [0, 2]) (A := fun a => s.heap.size ≤ a) (by decide) (hs _ (by decide +kernel)) (va_eqt (hs _ (by decide +kernel))) (fun j hj => by rcases (show j = 0 ∨ j = 1 by omega) with rfl | rfl <;> exact va_eqt (hs _ (by decide +kernel))) (fun a h => by omega)
  obtain ⟨t4, e4, T4⟩ := va_Tof (args := #[Value.ref b]) (s := s) (tm := .static "IcicleRings" "BOX_SETTING" "[I") (ty := .int) (N := 3) (f := iv [2, 3, 1]) (A := fun a => s.heap.size ≤ a) (by decide) (hs _ (by decide +kernel)) (va_eqt (hs _ (by decide +kernel))) (fun j hj => by rcases (show j = 0 ∨ j = 1 ∨ j = 2 by omega) with rfl | rfl | rfl <;> exact va_eqt (hs _ (by decide +kernel))) (fun a h => by omega)
  have Z0 : va_Z "IcicleRings" "SETTING_LEAST" "[I" (.ref t0) (fun a => s.heap.size ≤ a) s s.heap := va_Zof (hts (.laysStatic "IcicleRings" "SETTING_LEAST" "[I") (by decide +kernel)) (htg _ wd_58) e0 (fun a h => by omega)
  have Z1 : va_Z "IcicleRings" "SETTING_MOST" "[I" (.ref t1) (fun a => s.heap.size ≤ a) s s.heap := va_Zof (hts (.laysStatic "IcicleRings" "SETTING_MOST" "[I") (by decide +kernel)) (htg _ wd_58) e1 (fun a h => by omega)
  have Z2 : va_Z "IcicleRings" "SETTING_FIRST" "[I" (.ref t2) (fun a => s.heap.size ≤ a) s s.heap := va_Zof (hts (.laysStatic "IcicleRings" "SETTING_FIRST" "[I") (by decide +kernel)) (htg _ wd_58) e2 (fun a h => by omega)
  have Z3 : va_Z "IcicleRings" "USE_SETTING" "[I" (.ref t3) (fun a => s.heap.size ≤ a) s s.heap := va_Zof (hts (.laysStatic "IcicleRings" "USE_SETTING" "[I") (by decide +kernel)) (htg _ wd_58) e3 (fun a h => by omega)
  have Z4 : va_Z "IcicleRings" "BOX_SETTING" "[I" (.ref t4) (fun a => s.heap.size ≤ a) s s.heap := va_Zof (hts (.laysStatic "IcicleRings" "BOX_SETTING" "[I") (by decide +kernel)) (htg _ wd_58) e4 (fun a h => by omega)
  refine ⟨(((fun z => match z with | 0 => c0 | 1 => c1 | 2 => c2 | 3 => c3 | 4 => c4 | 5 => c5 | 6 => c6 | 7 => c7 | 8 => c8 | 9 => c9 | 10 => c10 | 11 => c11 | _ => c12), (fun z => match z with | 0 => i0 | 1 => i1 | 2 => i2 | 3 => i3 | 4 => i4 | 5 => i5 | 6 => i6 | 7 => i7 | 8 => i8 | 9 => i9 | 10 => i10 | 11 => i11 | _ => i12)), (fun z => match z with | 0 => cA0 | 1 => cA1 | 2 => cA2 | _ => cA3), s.heap.size, (fun z => match z with | 0 => t0 | 1 => t1 | 2 => t2 | 3 => t3 | _ => t4)), rfl, ⟨?_, ?_⟩, ?_, ?_, ?_, ?_⟩
  · intro c q hq
    match c, hq with
    | 0, hq => cases hq; exact k0
    | 1, hq => cases hq; exact k1
    | 2, hq => cases hq; exact k2
    | 3, hq => cases hq; exact k3
    | 4, hq => cases hq; exact k4
    | 5, hq => cases hq; exact k5
    | 6, hq => cases hq; exact k6
    | 7, hq => cases hq; exact k7
    | 8, hq => cases hq; exact k8
    | 9, hq => cases hq; exact k9
    | 10, hq => cases hq; exact k10
    | 11, hq => cases hq; exact k11
    | 12, hq => cases hq; exact k12
    | c + 13, hq => exact absurd hq (by simp [vwCl])
  · intro k q hq
    match k, hq with
    | 0, hq => cases hq; exact ⟨fun n z => ⟨fun k h => (by cases h), kA0, hA2, cm0, hA3⟩, hA1⟩
    | 1, hq => cases hq; exact ⟨fun n z => ⟨fun k h => (by cases h), kA1, g13, cm1, g14⟩, ⟨kA1, cm1, g13, g14, g11, g15⟩⟩
    | 2, hq => cases hq; exact ⟨fun n z => ⟨fun k h => (by cases h), kA2, g23, cm2, g24⟩, ⟨kA2, cm2, g23, g24, g21, g25⟩⟩
    | 3, hq => cases hq; exact ⟨fun n z => ⟨fun k h => (by cases h), kA3, g33, cm3, g34⟩, ⟨kA3, cm3, g33, g34, g31, g35⟩⟩
    | k + 4, hq => exact absurd hq (by simp [wT])
  · intro C hC
    rcases List.mem_cons.mp hC with rfl | hC
    · exact va_AO.of hao1
    rcases List.mem_cons.mp hC with rfl | hC
    · exact va_AO.of hao2
    rcases List.mem_cons.mp hC with rfl | hC
    · exact va_AO.of hao3
    · exact absurd hC List.not_mem_nil
  · intro w hw
    exact va_Nw.of (nw_tab w hw) (hts w ((show ∀ w ∈ nwL, w ∈ lw_tbl by decide +kernel) w hw))
  · intro q hq
    refine va_Nc.of (hs _ ?_)
    revert q
    decide +kernel
  · intro q hq
    rcases List.mem_cons.mp hq with rfl | hq
    · exact ⟨Z0, T0⟩
    rcases List.mem_cons.mp hq with rfl | hq
    · exact ⟨Z1, T1⟩
    rcases List.mem_cons.mp hq with rfl | hq
    · exact ⟨Z2, T2⟩
    rcases List.mem_cons.mp hq with rfl | hq
    · exact ⟨Z3, T3⟩
    rcases List.mem_cons.mp hq with rfl | hq
    · exact ⟨Z4, T4⟩
    · exact absurd hq List.not_mem_nil
