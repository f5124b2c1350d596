set_option maxHeartbeats 4000000 in
set_option maxRecDepth 100000 in
theorem c_within {κ : Wc} {l : Launch} {h : Mm} {n : Nat} {v : Int32} {lo : Int32} {hi : Int32}   : Con κ l yX11_within cX11_within 3 (some .boolean) 1 0 0 [.int v, .int lo, .int hi] h n (fun q h' n' => (q = some (.int (b2i (lo ≤ v ∧ v ≤ hi)))) ∧ h' = h ∧ n' = n) := by
  refine Con.of mk_X11_within (Nat.le_of_ble_eq_true rfl) (fun G hG X E => ?_)
  subst hG
  refine z_ls (ls' := [(0, .int v), (1, .int lo), (2, .int hi)]) rfl ?_
  refine z_iload_n X 1 dX11_within_0 rfl ?_
  refine z_iload_n X 0 dX11_within_1 rfl ?_
  refine z_icmp_gt X 14 dX11_within_2 (by decide) (fun c1 => ?_) (fun c1 => ?_)
  · refine z_iconst (v := 0) X dX11_within_14 (by decide) ?_
    refine z_zret X E dX11_within_15 (by first | rfl | exact b2i_nar _) (by decide) (by decide) ⟨?_, ?_, ?_⟩
    · first | rw [b2i_1 (by first | exact ⟨by assumption, by assumption⟩ | (simp only [i_lt, i_le] at *; omega))] | rw [b2i_0 (by simp only [i_lt, i_le] at *; omega)]
    · rfl
    · rfl
  · refine z_iload_n X 0 dX11_within_5 rfl ?_
    refine z_iload_n X 2 dX11_within_6 rfl ?_
    refine z_icmp_gt X 14 dX11_within_7 (by decide) (fun c2 => ?_) (fun c2 => ?_)
    · refine z_iconst (v := 0) X dX11_within_14 (by decide) ?_
      refine z_zret X E dX11_within_15 (by first | rfl | exact b2i_nar _) (by decide) (by decide) ⟨?_, ?_, ?_⟩
      · first | rw [b2i_1 (by first | exact ⟨by assumption, by assumption⟩ | (simp only [i_lt, i_le] at *; omega))] | rw [b2i_0 (by simp only [i_lt, i_le] at *; omega)]
      · rfl
      · rfl
    · refine z_iconst (v := 1) X dX11_within_10 (by decide) ?_
      refine z_goto X 15 dX11_within_11 (by decide) ?_
      refine z_zret X E dX11_within_15 (by first | rfl | exact b2i_nar _) (by decide) (by decide) ⟨?_, ?_, ?_⟩
      · first | rw [b2i_1 (by first | exact ⟨by assumption, by assumption⟩ | (simp only [i_lt, i_le] at *; omega))] | rw [b2i_0 (by simp only [i_lt, i_le] at *; omega)]
      · rfl
      · rfl
set_option maxHeartbeats 4000000 in
set_option maxRecDepth 100000 in
theorem c_Row_isMissing {κ : Wc} {l : Launch} {h : Mm} {n : Nat} {r : Nat} {sz : Int32} {bt : Int32} (k0 : h r = some (.inr (6, [.ref (r + 1), .int sz, .int bt])))  : Con κ l yX6_isMissing cX6_isMissing 1 (some .boolean) 1 0 0 [.ref r] h n (fun q h' n' => q = some (.int (b2i (bt = 0))) ∧ h' = h ∧ n' = n) := by
  refine Con.of mk_X6_isMissing (Nat.le_of_ble_eq_true rfl) (fun G hG X E => ?_)
  subst hG
  refine z_ls (ls' := [(0, .ref r)]) rfl ?_
  refine z_aload_n X 0 dX6_isMissing_0 rfl ?_
  refine z_get X fl_X6_23_6 dX6_isMissing_1 k0 rfl ?_
  refine z_if_ne X 11 dX6_isMissing_4 (by decide) (fun c1 => ?_) (fun c1 => ?_)
  · refine z_iconst (v := 0) X dX6_isMissing_11 (by decide) ?_
    refine z_zret X E dX6_isMissing_12 (by first | rfl | exact b2i_nar _) (by decide) (by decide) ⟨?_, ?_, ?_⟩
    · first | rw [b2i_1 (by assumption)] | rw [b2i_0 (by assumption)]
    · rfl
    · rfl
  · refine z_iconst (v := 1) X dX6_isMissing_7 (by decide) ?_
    refine z_goto X 12 dX6_isMissing_8 (by decide) ?_
    refine z_zret X E dX6_isMissing_12 (by first | rfl | exact b2i_nar _) (by decide) (by decide) ⟨?_, ?_, ?_⟩
    · first | rw [b2i_1 (by assumption)] | rw [b2i_0 (by assumption)]
    · rfl
    · rfl
def rowAt (k : Nat) (f : Nat → Int32) (i : Int32) : Int32 := if 0 ≤ i.toInt ∧ i.toInt < k then f i.toNatClampNeg else 0
theorem row_in {k : Nat} {i : Int32} (h : k ≤ 1000) : (0 ≤ i ∧ i ≤ nI k - 1) ↔ (0 ≤ i.toInt ∧ i.toInt < k) := by
  have e1 : (nI k - 1).toInt = (k : Int) - 1 := by rw [i_sub] <;> rw [i_nI (by omega), show (1 : Int32).toInt = 1 by decide] <;> omega
  rw [i_le, i_le, e1, show (0 : Int32).toInt = 0 by decide]
  omega
set_option maxHeartbeats 4000000 in
set_option maxRecDepth 100000 in
theorem c_Row_at {κ : Wc} {l : Launch} {h : Mm} {n : Nat} {r : Nat} {k : Nat} {bt : Int32} {i : Int32} {N : Nat} {f : Nat → Int32} (k0 : h r = some (.inr (6, [.ref (r + 1), .int (nI k), .int bt]))) (k1 : h (r + 1) = arI κ N f) (p1 : k ≤ N) (p2 : N ≤ 1000) : Con κ l yX6_at cX6_at 2 (some .int) 2 0 0 [.ref r, .int i] h n (fun q h' n' => q = some (.int (rowAt k f i)) ∧ h' = h ∧ n' = n) := by
  refine Con.of mk_X6_at (Nat.le_of_ble_eq_true rfl) (fun G hG X E => ?_)
  subst hG
  refine z_ls (ls' := [(0, .ref r), (1, .int i)]) rfl ?_
  refine z_iload_n X 1 dX6_at_0 rfl ?_
  refine z_iconst (v := 0) X dX6_at_1 (by decide) ?_
  refine z_aload_n X 0 dX6_at_2 rfl ?_
  refine z_get X fl_X6_19_6 dX6_at_3 k0 rfl ?_
  refine z_iconst (v := 1) X dX6_at_6 (by decide) ?_
  refine z_isub X dX6_at_7 ?_
  refine z_callSN (host := "IcicleRings") X (c_within (κ := κ) (n := n) (v := i) (lo := 0) (hi := (nI k) - 1)  ) mk_X11_within dX6_at_8 (by decide +kernel) wd_257 rfl rfl (Nat.le_of_ble_eq_true rfl) (Nat.le_of_ble_eq_true rfl) (Nat.le_of_ble_eq_true rfl) (Nat.le_of_ble_eq_true rfl) (Nat.le_of_ble_eq_true rfl) (fun q h1 n3 hp4 => ?_)
  obtain ⟨rfl, rfl, rfl⟩ := hp4
  refine z_st (st' := [.int (b2i (0 ≤ i ∧ i ≤ ((nI k) - 1)))]) rfl ?_
  refine z_if_eq X 23 dX6_at_11 (by decide) (fun c5 => ?_) (fun c5 => ?_)
  · replace c5 := b2i_f c5
    replace c5 := mt (row_in (by omega)).mpr c5
    refine z_iconst (v := 0) X dX6_at_23 (by decide) ?_
    refine z_iret X E dX6_at_24 (by decide) (by decide) ⟨?_, ?_, ?_⟩
    · first | rw [rowAt, if_pos (by assumption)] | rw [rowAt, if_neg (by assumption)]
    · rfl
    · rfl
  · replace c5 := b2i_t c5
    replace c5 := (row_in (by omega)).mp c5
    refine z_aload_n X 0 dX6_at_14 rfl ?_
    refine z_get X fl_X6_13_6 dX6_at_15 k0 rfl ?_
    refine z_iload_n X 1 dX6_at_18 rfl ?_
    refine z_iald2 (v := f i.toNatClampNeg) X dX6_at_19 k1 (vin_of (by omega) (by omega)) (rfl) ?_
    refine z_goto X 24 dX6_at_20 (by decide) ?_
    refine z_iret X E dX6_at_24 (by decide) (by decide) ⟨?_, ?_, ?_⟩
    · first | rw [rowAt, if_pos (by assumption)] | rw [rowAt, if_neg (by assumption)]
    · rfl
    · rfl
set_option maxHeartbeats 4000000 in
set_option maxRecDepth 100000 in
theorem c_Row_clear {κ : Wc} {l : Launch} {h : Mm} {n : Nat} {r : Nat} {sz : Int32} {bt : Int32} (k0 : h r = some (.inr (6, [.ref (r + 1), .int sz, .int bt])))  : Con κ l yX6_clear cX6_clear 1 none 1 0 0 [.ref r] h n (fun q h' n' => q = none ∧ h' = va_up h r (some (.inr (6, [.ref (r + 1), .int 0, .int bt]))) ∧ n' = n) := by
  refine Con.of mk_X6_clear (Nat.le_of_ble_eq_true rfl) (fun G hG X E => ?_)
  subst hG
  refine z_ls (ls' := [(0, .ref r)]) rfl ?_
  refine z_aload_n X 0 dX6_clear_0 rfl ?_
  refine z_iconst (v := 0) X dX6_clear_1 (by decide) ?_
  refine z_put X fp_X6_19_6 dX6_clear_2 k0 (by first | rfl | decide) (by first | rfl | decide) (Nat.le_of_ble_eq_true rfl) rfl ?_
  obtain ⟨h1, e2⟩ : ∃ z : Mm, z = va_up h r (some (.inr (6, [.ref (r + 1), .int 0, .int bt]))) := ⟨_, rfl⟩
  refine z_heap (h' := h1) e2.symm ?_
  have k3 := up_at e2
  refine z_vret X E dX6_clear_5 (by decide) (by decide) ⟨?_, ?_, ?_⟩
  · rfl
  · first | (rw [e2]; done) | (rw [e2]; simp only [up_up]; done) | (rw [e2]; funext zz; simp only [va_up]; (repeat' split) <;> first | rfl | (exfalso; omega) | simp_all)
  · rfl
set_option maxHeartbeats 4000000 in
set_option maxRecDepth 100000 in
theorem c_Row_add {κ : Wc} {l : Launch} {h : Mm} {n : Nat} {r : Nat} {k : Nat} {bt : Int32} {v : Int32} {N : Nat} {f : Nat → Int32} (k0 : h r = some (.inr (6, [.ref (r + 1), .int (nI k), .int bt]))) (k1 : h (r + 1) = arI κ N f) (p1 : k < N) (p2 : N ≤ 1000) : Con κ l yX6_add cX6_add 2 none 1 0 0 [.ref r, .int v] h n (fun q h' n' => q = none ∧ h' = va_up (va_up h r (some (.inr (6, [.ref (r + 1), .int (nI (k + 1)), .int bt])))) (r + 1) (arI κ N (upd f k v)) ∧ n' = n) := by
  refine Con.of mk_X6_add (Nat.le_of_ble_eq_true rfl) (fun G hG X E => ?_)
  subst hG
  refine z_ls (ls' := [(0, .ref r), (1, .int v)]) rfl ?_
  refine z_aload_n X 0 dX6_add_0 rfl ?_
  refine z_get X fl_X6_19_6 dX6_add_1 k0 rfl ?_
  refine z_aload_n X 0 dX6_add_4 rfl ?_
  refine z_get X fl_X6_13_6 dX6_add_5 k0 rfl ?_
  refine z_alen (t := 0) X dX6_add_8 k1 rfl rfl ?_
  refine z_icmp_ge X 32 dX6_add_9 (by decide) (fun c1 => ?_) (fun c1 => ?_)
  · try replace c1 := (nI_leI (a := N) (b := k) (by omega) (by omega)).mp c1
    omega
  · try replace c1 := mt (nI_leI (a := N) (b := k) (by omega) (by omega)).mpr c1
    refine z_aload_n X 0 dX6_add_12 rfl ?_
    refine z_get X fl_X6_13_6 dX6_add_13 k0 rfl ?_
    refine z_aload_n X 0 dX6_add_16 rfl ?_
    refine z_get X fl_X6_19_6 dX6_add_17 k0 rfl ?_
    refine z_iload_n X 1 dX6_add_20 rfl ?_
    refine z_iast X dX6_add_21 k1 (vp_in_nI (n := k) (by omega) (by omega)) (congrArg (fun z => va_up h (r + 1) (arI κ N (upd f z v))) (nI_clamp (n := k) (by omega))) ?_
    obtain ⟨h2, e3⟩ : ∃ z : Mm, z = va_up h (r + 1) (arI κ N (upd f k v)) := ⟨_, rfl⟩
    refine z_heap (h' := h2) e3.symm ?_
    have k4 := up_off e3 (show r ≠ r + 1 by omega) k0
    have k5 := up_at e3
    refine z_aload_n X 0 dX6_add_22 rfl ?_
    refine z_dup X dX6_add_23 rfl ?_
    refine z_get X fl_X6_19_6 dX6_add_24 k4 rfl ?_
    refine z_iconst (v := 1) X dX6_add_27 (by decide) ?_
    refine z_iadd X dX6_add_28 ?_
    refine z_toe (y := nI (k + 1)) (nI_add (k) (1)) ?_
    refine z_put X fp_X6_19_6 dX6_add_29 k4 (by first | rfl | decide) (by first | rfl | decide) (Nat.le_of_ble_eq_true rfl) rfl ?_
    obtain ⟨h6, e7⟩ : ∃ z : Mm, z = va_up h2 r (some (.inr (6, [.ref (r + 1), .int (nI (k + 1)), .int bt]))) := ⟨_, rfl⟩
    refine z_heap (h' := h6) e7.symm ?_
    have k8 := up_at e7
    have k9 := up_off e7 (show r + 1 ≠ r by omega) k5
    refine z_vret X E dX6_add_32 (by decide) (by decide) ⟨?_, ?_, ?_⟩
    · rfl
    · first | (rw [e7, e3]; done) | (rw [e7, e3]; simp only [up_up]; done) | (rw [e7, e3]; funext zz; simp only [va_up]; (repeat' split) <;> first | rfl | (exfalso; omega) | simp_all)
    · rfl
