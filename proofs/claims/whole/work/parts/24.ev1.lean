/-! the reference's reading of a text: bytes b, their number n, a place p, a fault f, how many are opened k -/
def sh (d : Nat → Int32) (base : Nat) : Nat → Int32 := fun i => d (base + i)
def faI (f : Option Nat) : Int32 := match f with
  | none => -1
  | some q => nI q
def flOk (f : Option Nat) : Prop := ∀ q, f = some q → q ≤ 50
theorem faI_lt {f : Option Nat} (h : flOk f) : faI f < 0 ↔ f = none := by
  cases f with
  | none => exact ⟨fun _ => rfl, fun _ => (by decide : (-1 : Int32) < 0)⟩
  | some q => exact ⟨fun k => absurd k (nI_pos (by have := h q rfl; omega)), fun k => by cases k⟩
theorem faI_ge {f : Option Nat} (h : flOk f) : 0 ≤ faI f ↔ ¬ f = none := by
  rw [← faI_lt h, Int32.not_lt]
def flW (f : Option Nat) (p : Nat) : Option Nat := match f with
  | none => some p
  | some q => some q
theorem flW_n {f : Option Nat} {p : Nat} (h : f = none) : flW f p = some p := by subst h; rfl
theorem flW_s {f : Option Nat} {p : Nat} (h : ¬ f = none) : flW f p = f := by
  cases f with
  | none => exact absurd rfl h
  | some q => rfl
theorem flW_ok {f : Option Nat} {p : Nat} (h : flOk f) (hp : p ≤ 50) : flOk (flW f p) := by
  intro q hq
  cases f with
  | none => cases hq; exact hp
  | some r => cases hq; exact h _ rfl
theorem flW_ne (f : Option Nat) (p : Nat) : ¬ flW f p = none := by
  cases f <;> (intro h; cases h)
def tk (b : Nat → Int32) (n p : Nat) (f : Option Nat) : Int32 := if p < n ∧ f = none then b p else -1
theorem tk_in {b : Nat → Int32} {n p : Nat} {f : Option Nat} (h : ¬ tk b n p f = -1) : p < n ∧ f = none := by
  unfold tk at h
  split at h
  · assumption
  · exact absurd rfl h
set_option maxHeartbeats 4000000 in
set_option maxRecDepth 100000 in
theorem r_here {κ : Wc} {l : Launch} {h : Mm} {n : Nat} {o : Nat} {base : Nat} {sz : Nat} {p : Nat} {k : Nat} {f : Option Nat} {d : Nat → Int32} {im : Int32} {rm : Int32} {ti : Int32} {tm : Int32} {wh : Int32} (K0 : h o = some (.inr (12, [.ref (o + 1), .ref (o + 2), .ref (o + 3), .int im, .ref (o + 4), .int (nI base), .int (nI p), .int (nI sz), .int (faI f), .int (nI k), .ref (o + 5), .ref (o + 6), .int rm, .ref (o + 7), .ref (o + 8), .int ti, .ref (o + 9), .int tm, .int wh, .ref (o + 10), .ref (o + 11), .ref (o + 12), .ref (o + 13)]))) (K1 : h (o + 1) = arI κ 340 d) (e1 : base + sz ≤ 340) (e2 : sz ≤ 50) (e3 : p ≤ sz) (e4 : flOk f) : Con κ l yX12_here cX12_here 1 (some .int) 1 0 0 [.ref o] h n (fun q h' n' => q = some (.int (tk (sh d base) sz p f)) ∧ h' = h ∧ n' = n) := by
  refine Con.of mk_X12_here (Nat.le_of_ble_eq_true rfl) (fun G hG X E => ?_)
  subst hG
  refine z_ls (ls' := [(0, .ref o)]) rfl ?_
  refine z_aload_n X 0 dX12_here_0 rfl ?_
  refine z_get X fl_X12_106_12 dX12_here_1 K0 rfl ?_
  refine z_aload_n X 0 dX12_here_4 rfl ?_
  refine z_get X fl_X12_110_12 dX12_here_5 K0 rfl ?_
  refine z_icmp_ge X 35 dX12_here_8 (by decide) (fun zc1 => ?_) (fun zc1 => ?_)
  · try replace zc1 := (nI_leI (a := sz) (b := p) (by omega) (by omega)).mp zc1
    refine z_iconst (v := -1) X dX12_here_35 (by decide) ?_
    refine z_iret X E dX12_here_36 (by omega) (by omega) ⟨?_, ?_, ?_⟩
    · unfold tk sh; first | rw [if_pos ⟨by omega, by assumption⟩] | rw [if_neg (fun q => absurd q.1 (by omega))] | rw [if_neg (fun q => absurd q.2 (by assumption))]
    · first | rfl | (funext zz; simp only [va_up]; (repeat' split) <;> first | rfl | (exfalso; omega) | simp_all)
    · rfl
  · try replace zc1 := mt (nI_leI (a := sz) (b := p) (by omega) (by omega)).mpr zc1
    refine z_aload_n X 0 dX12_here_11 rfl ?_
    refine z_get X fl_X12_113_12 dX12_here_12 K0 rfl ?_
    refine z_if_ge X 35 dX12_here_15 (by decide) (fun zc2 => ?_) (fun zc2 => ?_)
    · replace zc2 := (faI_ge e4).mp zc2
      refine z_iconst (v := -1) X dX12_here_35 (by decide) ?_
      refine z_iret X E dX12_here_36 (by omega) (by omega) ⟨?_, ?_, ?_⟩
      · unfold tk sh; first | rw [if_pos ⟨by omega, by assumption⟩] | rw [if_neg (fun q => absurd q.1 (by omega))] | rw [if_neg (fun q => absurd q.2 (by assumption))]
      · first | rfl | (funext zz; simp only [va_up]; (repeat' split) <;> first | rfl | (exfalso; omega) | simp_all)
      · rfl
    · replace zc2 := Decidable.not_not.mp (mt (faI_ge e4).mpr zc2)
      refine z_aload_n X 0 dX12_here_18 rfl ?_
      refine z_get X fl_X12_7_12 dX12_here_19 K0 rfl ?_
      refine z_aload_n X 0 dX12_here_22 rfl ?_
      refine z_get X fl_X12_116_12 dX12_here_23 K0 rfl ?_
      refine z_aload_n X 0 dX12_here_26 rfl ?_
      refine z_get X fl_X12_106_12 dX12_here_27 K0 rfl ?_
      refine z_iadd X dX12_here_30 ?_
      refine z_toe (y := nI (base + p)) (nI_add (base) (p)) ?_
      refine z_iald2 (v := d (base + p)) X dX12_here_31 K1 (vp_in_nI (n := base + p) (by omega) (by omega)) (congrArg d (nI_clamp (n := base + p) (by omega))) ?_
      refine z_goto X 36 dX12_here_32 (by decide) ?_
      refine z_iret X E dX12_here_36 (by omega) (by omega) ⟨?_, ?_, ?_⟩
      · unfold tk sh; first | rw [if_pos ⟨by omega, by assumption⟩] | rw [if_neg (fun q => absurd q.1 (by omega))] | rw [if_neg (fun q => absurd q.2 (by assumption))]
      · first | rfl | (funext zz; simp only [va_up]; (repeat' split) <;> first | rfl | (exfalso; omega) | simp_all)
      · rfl
set_option maxHeartbeats 4000000 in
set_option maxRecDepth 100000 in
theorem r_wrong {κ : Wc} {l : Launch} {h : Mm} {n : Nat} {o : Nat} {base : Nat} {sz : Nat} {p : Nat} {k : Nat} {f : Option Nat} {d : Nat → Int32} {im : Int32} {rm : Int32} {ti : Int32} {tm : Int32} {wh : Int32} (K0 : h o = some (.inr (12, [.ref (o + 1), .ref (o + 2), .ref (o + 3), .int im, .ref (o + 4), .int (nI base), .int (nI p), .int (nI sz), .int (faI f), .int (nI k), .ref (o + 5), .ref (o + 6), .int rm, .ref (o + 7), .ref (o + 8), .int ti, .ref (o + 9), .int tm, .int wh, .ref (o + 10), .ref (o + 11), .ref (o + 12), .ref (o + 13)]))) (e4 : flOk f) : Con κ l yX12_wrong cX12_wrong 1 (some .int) 1 0 0 [.ref o] h n (fun q h' n' => q = some (.int 0) ∧ h' = va_up h o (some (.inr (12, [.ref (o + 1), .ref (o + 2), .ref (o + 3), .int im, .ref (o + 4), .int (nI base), .int (nI p), .int (nI sz), .int (faI (flW f p)), .int (nI k), .ref (o + 5), .ref (o + 6), .int rm, .ref (o + 7), .ref (o + 8), .int ti, .ref (o + 9), .int tm, .int wh, .ref (o + 10), .ref (o + 11), .ref (o + 12), .ref (o + 13)]))) ∧ n' = n) := by
  refine Con.of mk_X12_wrong (Nat.le_of_ble_eq_true rfl) (fun G hG X E => ?_)
  subst hG
  refine z_ls (ls' := [(0, .ref o)]) rfl ?_
  refine z_aload_n X 0 dX12_wrong_0 rfl ?_
  refine z_aload_n X 0 dX12_wrong_1 rfl ?_
  refine z_get X fl_X12_113_12 dX12_wrong_2 K0 rfl ?_
  refine z_if_ge X 15 dX12_wrong_5 (by decide) (fun zc1 => ?_) (fun zc1 => ?_)
  · replace zc1 := (faI_ge e4).mp zc1
    refine z_aload_n X 0 dX12_wrong_15 rfl ?_
    refine z_get X fl_X12_113_12 dX12_wrong_16 K0 rfl ?_
    refine z_put X fp_X12_113_12 dX12_wrong_19 K0 (by first | rfl | decide) (by first | rfl | decide) (Nat.le_of_ble_eq_true rfl) rfl ?_
    obtain ⟨zh2, ze3⟩ : ∃ z : Mm, z = va_up h o (some (.inr (12, [.ref (o + 1), .ref (o + 2), .ref (o + 3), .int im, .ref (o + 4), .int (nI base), .int (nI p), .int (nI sz), .int (faI f), .int (nI k), .ref (o + 5), .ref (o + 6), .int rm, .ref (o + 7), .ref (o + 8), .int ti, .ref (o + 9), .int tm, .int wh, .ref (o + 10), .ref (o + 11), .ref (o + 12), .ref (o + 13)]))) := ⟨_, rfl⟩
    refine z_heap (h' := zh2) ze3.symm ?_
    have zK4 := up_at ze3
    refine z_iconst (v := 0) X dX12_wrong_22 (by decide) ?_
    refine z_iret X E dX12_wrong_23 (by omega) (by omega) ⟨?_, ?_, ?_⟩
    · rfl
    · rw [ze3]; first | rw [flW_n (by assumption)]; rfl | rw [flW_s (by assumption)]
    · rfl
  · replace zc1 := Decidable.not_not.mp (mt (faI_ge e4).mpr zc1)
    refine z_aload_n X 0 dX12_wrong_8 rfl ?_
    refine z_get X fl_X12_106_12 dX12_wrong_9 K0 rfl ?_
    refine z_goto X 19 dX12_wrong_12 (by decide) ?_
    refine z_put X fp_X12_113_12 dX12_wrong_19 K0 (by first | rfl | decide) (by first | rfl | decide) (Nat.le_of_ble_eq_true rfl) rfl ?_
    obtain ⟨zh5, ze6⟩ : ∃ z : Mm, z = va_up h o (some (.inr (12, [.ref (o + 1), .ref (o + 2), .ref (o + 3), .int im, .ref (o + 4), .int (nI base), .int (nI p), .int (nI sz), .int (nI p), .int (nI k), .ref (o + 5), .ref (o + 6), .int rm, .ref (o + 7), .ref (o + 8), .int ti, .ref (o + 9), .int tm, .int wh, .ref (o + 10), .ref (o + 11), .ref (o + 12), .ref (o + 13)]))) := ⟨_, rfl⟩
    refine z_heap (h' := zh5) ze6.symm ?_
    have zK7 := up_at ze6
    refine z_iconst (v := 0) X dX12_wrong_22 (by decide) ?_
    refine z_iret X E dX12_wrong_23 (by omega) (by omega) ⟨?_, ?_, ?_⟩
    · rfl
    · rw [ze6]; first | rw [flW_n (by assumption)]; rfl | rw [flW_s (by assumption)]
    · rfl
set_option maxHeartbeats 4000000 in
set_option maxRecDepth 100000 in
theorem r_takes {κ : Wc} {l : Launch} {h : Mm} {n : Nat} {o : Nat} {base : Nat} {sz : Nat} {p : Nat} {k : Nat} {f : Option Nat} {d : Nat → Int32} {im : Int32} {rm : Int32} {ti : Int32} {tm : Int32} {wh : Int32} {c : Int32} (K0 : h o = some (.inr (12, [.ref (o + 1), .ref (o + 2), .ref (o + 3), .int im, .ref (o + 4), .int (nI base), .int (nI p), .int (nI sz), .int (faI f), .int (nI k), .ref (o + 5), .ref (o + 6), .int rm, .ref (o + 7), .ref (o + 8), .int ti, .ref (o + 9), .int tm, .int wh, .ref (o + 10), .ref (o + 11), .ref (o + 12), .ref (o + 13)]))) (K1 : h (o + 1) = arI κ 340 d) (e1 : base + sz ≤ 340) (e2 : sz ≤ 50) (e3 : p ≤ sz) (e4 : flOk f) (e5 : ¬ c = -1) : Con κ l yX12_takes cX12_takes 2 (some .boolean) 2 0 0 [.ref o, .int c] h n (fun q h' n' => ∃ p' : Nat, q = some (.int (b2i (tk (sh d base) sz p f = c))) ∧ h' = va_up h o (some (.inr (12, [.ref (o + 1), .ref (o + 2), .ref (o + 3), .int im, .ref (o + 4), .int (nI base), .int (nI p'), .int (nI sz), .int (faI f), .int (nI k), .ref (o + 5), .ref (o + 6), .int rm, .ref (o + 7), .ref (o + 8), .int ti, .ref (o + 9), .int tm, .int wh, .ref (o + 10), .ref (o + 11), .ref (o + 12), .ref (o + 13)]))) ∧ n' = n ∧ p' = if tk (sh d base) sz p f = c then p + 1 else p) := by
  refine Con.of mk_X12_takes (Nat.le_of_ble_eq_true rfl) (fun G hG X E => ?_)
  subst hG
  refine z_ls (ls' := [(0, .ref o), (1, .int c)]) rfl ?_
  refine z_aload_n X 0 dX12_takes_0 rfl ?_
  refine z_callV X (r_here (κ := κ) (n := n) (o := (o)) (base := (base)) (sz := (sz)) (p := (p)) (k := (k)) (f := (f)) (d := (d)) (im := (im)) (rm := (rm)) (ti := (ti)) (tm := (tm)) (wh := (wh)) K0 K1 (by first | assumption | omega) (by first | assumption | omega) (by first | assumption | omega) (by first | assumption | omega)) mk_X12_here dX12_takes_1 wd_1116 wd_1118 wd_35 rfl K0 rfl rfl rfl (Nat.le_of_ble_eq_true rfl) (Nat.le_of_ble_eq_true rfl) (Nat.le_of_ble_eq_true rfl) (by omega) (by omega) (fun q zh1 zm3 zp4 => ?_)
  obtain ⟨rfl, ze2, zn5⟩ := zp4
  subst zm3
  subst zh1
  refine z_st (st' := [.int (tk (sh d base) sz p f)]) rfl ?_
  refine z_iload_n X 1 dX12_takes_4 rfl ?_
  refine z_icmp_eq X 10 dX12_takes_5 (by decide) (fun zc6 => ?_) (fun zc6 => ?_)
  · refine z_aload_n X 0 dX12_takes_10 rfl ?_
    refine z_dup X dX12_takes_11 rfl ?_
    refine z_get X fl_X12_106_12 dX12_takes_12 K0 rfl ?_
    refine z_iconst (v := 1) X dX12_takes_15 (by decide) ?_
    refine z_iadd X dX12_takes_16 ?_
    refine z_toe (y := nI (p + 1)) (nI_add (p) (1)) ?_
    refine z_put X fp_X12_106_12 dX12_takes_17 K0 (by first | rfl | decide) (by first | rfl | decide) (Nat.le_of_ble_eq_true rfl) rfl ?_
    obtain ⟨zh7, ze8⟩ : ∃ z : Mm, z = va_up h o (some (.inr (12, [.ref (o + 1), .ref (o + 2), .ref (o + 3), .int im, .ref (o + 4), .int (nI base), .int (nI (p + 1)), .int (nI sz), .int (faI f), .int (nI k), .ref (o + 5), .ref (o + 6), .int rm, .ref (o + 7), .ref (o + 8), .int ti, .ref (o + 9), .int tm, .int wh, .ref (o + 10), .ref (o + 11), .ref (o + 12), .ref (o + 13)]))) := ⟨_, rfl⟩
    refine z_heap (h' := zh7) ze8.symm ?_
    have zK9 := up_at ze8
    have zK10 := up_off ze8 (show o + 1 ≠ o by omega) K1
    refine z_iconst (v := 1) X dX12_takes_20 (by decide) ?_
    refine z_zret X E dX12_takes_21 (by first | rfl | exact b2i_nar _) (by omega) (by omega) ⟨p + 1, ?_, ?_, ?_, ?_⟩
    · rw [b2i_1 (by assumption)]
    · first | (rw [ze8]; done) | (rw [ze8]; simp only [up_up]; done) | (rw [ze8]; funext zz; simp only [va_up]; (repeat' split) <;> first | rfl | (exfalso; omega) | simp_all)
    · rfl
    · rw [if_pos (by assumption)]
  · refine z_iconst (v := 0) X dX12_takes_8 (by decide) ?_
    refine z_zret X E dX12_takes_9 (by first | rfl | exact b2i_nar _) (by omega) (by omega) ⟨p, ?_, ?_, ?_, ?_⟩
    · rw [b2i_0 (by assumption)]
    · exact (up_same _ _ K0).symm
    · rfl
    · rw [if_neg (by assumption)]
def nmI (c : Int32) : Int32 := if c = 116 then 0 else if c = 119 then 1 else if c = 99 then 2 else -1
set_option maxHeartbeats 4000000 in
set_option maxRecDepth 100000 in
theorem r_nameOf {κ : Wc} {l : Launch} {h : Mm} {n : Nat} {o : Nat} {c : Int32}   : Con κ l yX12_nameOf cX12_nameOf 2 (some .int) 1 0 0 [.ref o, .int c] h n (fun q h' n' => q = some (.int (nmI c)) ∧ h' = h ∧ n' = n) := by
  refine Con.of mk_X12_nameOf (Nat.le_of_ble_eq_true rfl) (fun G hG X E => ?_)
  subst hG
  refine z_ls (ls' := [(0, .ref o), (1, .int c)]) rfl ?_
  refine z_iload_n X 1 dX12_nameOf_0 rfl ?_
  refine z_bipush (v := 116) X dX12_nameOf_1 (by decide) ?_
  refine z_icmp_ne X 10 dX12_nameOf_3 (by decide) (fun zc1 => ?_) (fun zc1 => ?_)
  · refine z_iload_n X 1 dX12_nameOf_10 rfl ?_
    refine z_bipush (v := 119) X dX12_nameOf_11 (by decide) ?_
    refine z_icmp_ne X 20 dX12_nameOf_13 (by decide) (fun zc2 => ?_) (fun zc2 => ?_)
    · refine z_iload_n X 1 dX12_nameOf_20 rfl ?_
      refine z_bipush (v := 99) X dX12_nameOf_21 (by decide) ?_
      refine z_icmp_ne X 30 dX12_nameOf_23 (by decide) (fun zc3 => ?_) (fun zc3 => ?_)
      · refine z_iconst (v := -1) X dX12_nameOf_30 (by decide) ?_
        refine z_iret X E dX12_nameOf_31 (by omega) (by omega) ⟨?_, ?_, ?_⟩
        · unfold nmI; (repeat first | rw [if_pos (by assumption)] | rw [if_neg (by assumption)])
        · first | rfl | (funext zz; simp only [va_up]; (repeat' split) <;> first | rfl | (exfalso; omega) | simp_all)
        · rfl
      · refine z_iconst (v := 2) X dX12_nameOf_26 (by decide) ?_
        refine z_goto X 31 dX12_nameOf_27 (by decide) ?_
        refine z_iret X E dX12_nameOf_31 (by omega) (by omega) ⟨?_, ?_, ?_⟩
        · unfold nmI; (repeat first | rw [if_pos (by assumption)] | rw [if_neg (by assumption)])
        · first | rfl | (funext zz; simp only [va_up]; (repeat' split) <;> first | rfl | (exfalso; omega) | simp_all)
        · rfl
    · refine z_iconst (v := 1) X dX12_nameOf_16 (by decide) ?_
      refine z_goto X 31 dX12_nameOf_17 (by decide) ?_
      refine z_iret X E dX12_nameOf_31 (by omega) (by omega) ⟨?_, ?_, ?_⟩
      · unfold nmI; (repeat first | rw [if_pos (by assumption)] | rw [if_neg (by assumption)])
      · first | rfl | (funext zz; simp only [va_up]; (repeat' split) <;> first | rfl | (exfalso; omega) | simp_all)
      · rfl
  · refine z_iconst (v := 0) X dX12_nameOf_6 (by decide) ?_
    refine z_goto X 31 dX12_nameOf_7 (by decide) ?_
    refine z_iret X E dX12_nameOf_31 (by omega) (by omega) ⟨?_, ?_, ?_⟩
    · unfold nmI; (repeat first | rw [if_pos (by assumption)] | rw [if_neg (by assumption)])
    · first | rfl | (funext zz; simp only [va_up]; (repeat' split) <;> first | rfl | (exfalso; omega) | simp_all)
    · rfl
