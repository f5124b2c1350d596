theorem ix_of {c : Int32} {len : Nat} (h0 : 0 ≤ c.toInt) (h1 : c.toInt ≤ ((len : Nat) : Int) - 1) : ∃ k : Nat, k < len ∧ c = nI k := ⟨c.toNatClampNeg, by have := i_clamp h0; omega, i_of h0⟩
def lowE (k : Nat) : Int32 := -1000000000 - nI k
def bmp (fo : Nat → Int32) (k : Nat) : Nat → Int32 := upd fo k (fo k + 1)
def ansOf (q : Nat × Int32) : Int32 := if q.1 = 0 then q.2 else lowE q.1
def bump (q : Nat × Int32) (fo : Nat → Int32) : Nat → Int32 := if q.1 = 0 then fo else bmp fo q.1
set_option maxHeartbeats 4000000 in
set_option maxRecDepth 100000 in
theorem r_finds {κ : Wc} {l : Launch} {h : Mm} {n : Nat} {o : Nat} {k : Nat} {fo : Nat → Int32} {im : Int32} {ba : Int32} {at_ : Int32} {sz : Int32} {fa : Int32} {op : Int32} {rm : Int32} {ti : Int32} {tm : Int32} {wh : Int32} (K0 : h o = some (.inr (12, [.ref (o + 1), .ref (o + 2), .ref (o + 3), .int im, .ref (o + 4), .int ba, .int at_, .int sz, .int fa, .int op, .ref (o + 5), .ref (o + 6), .int rm, .ref (o + 7), .ref (o + 8), .int ti, .ref (o + 9), .int tm, .int wh, .ref (o + 10), .ref (o + 11), .ref (o + 12), .ref (o + 13)]))) (K1 : h (o + 4) = arI κ 6 fo) (p1 : 1 ≤ k) (p2 : k ≤ 5) : Con κ l yX12_finds cX12_finds 2 (some .int) 1 0 0 [.ref o, .int (nI k)] h n (fun q h' n' => q = some (.int (lowE k)) ∧ h' = va_up h (o + 4) (arI κ 6 (bmp fo k)) ∧ n' = n) := by
  refine Con.of mk_X12_finds (Nat.le_of_ble_eq_true rfl) (fun G hG X E => ?_)
  subst hG
  refine z_ls (ls' := [(0, .ref o), (1, .int (nI k))]) rfl ?_
  refine z_aload_n X 0 dX12_finds_0 rfl ?_
  refine z_get X fl_X12_19_12 dX12_finds_1 K0 rfl ?_
  refine z_iload_n X 1 dX12_finds_4 rfl ?_
  refine z_dup2 X dX12_finds_5 rfl rfl ?_
  refine z_iald2 (v := fo k) X dX12_finds_6 K1 (vp_in_nI (n := k) (by omega) (by omega)) (congrArg fo (nI_clamp (n := k) (by omega))) ?_
  refine z_iconst (v := 1) X dX12_finds_7 (by decide) ?_
  refine z_iadd X dX12_finds_8 ?_
  refine z_iast X dX12_finds_9 K1 (vp_in_nI (n := k) (by omega) (by omega)) (congrArg (fun z => va_up h (o + 4) (arI κ 6 (upd fo z ((fo k) + 1)))) (nI_clamp (n := k) (by omega))) ?_
  obtain ⟨zh1, ze2⟩ : ∃ z : Mm, z = va_up h (o + 4) (arI κ 6 (upd fo k ((fo k) + 1))) := ⟨_, rfl⟩
  refine z_heap (h' := zh1) ze2.symm ?_
  have zK3 := up_off ze2 (show o ≠ o + 4 by omega) K0
  have zK4 := up_at ze2
  refine z_ldc X dX12_finds_10 wd_1022 ?_
  refine z_iload_n X 1 dX12_finds_12 rfl ?_
  refine z_isub X dX12_finds_13 ?_
  refine z_iret X E dX12_finds_14 (by omega) (by omega) ⟨?_, ?_, ?_⟩
  · rfl
  · first | (rw [ze2]; done) | (rw [ze2]; simp only [up_up]; done) | (rw [ze2]; funext zz; simp only [va_up]; (repeat' split) <;> first | rfl | (exfalso; omega) | simp_all)
  · rfl
set_option maxHeartbeats 4000000 in
set_option maxRecDepth 100000 in
theorem r_isAhead {κ : Wc} {l : Launch} {h : Mm} {n : Nat} {v : Int32}   : Con κ l yX12_isAhead cX12_isAhead 1 (some .boolean) 2 0 0 [.int v] h n (fun q h' n' => (q = some (.int (b2i (0 ≤ v.toInt ∧ v.toInt ≤ 60)))) ∧ h' = h ∧ n' = n) := by
  refine Con.of mk_X12_isAhead (Nat.le_of_ble_eq_true rfl) (fun G hG X E => ?_)
  subst hG
  refine z_ls (ls' := [(0, .int v)]) rfl ?_
  refine z_iload_n X 0 dX12_isAhead_0 rfl ?_
  refine z_i2l X dX12_isAhead_1 rfl ?_
  refine z_lconst (v := 0) X dX12_isAhead_2 (by decide) ?_
  refine z_ldc2 X dX12_isAhead_3 wd_1203 ?_
  refine z_callS X (r_in (κ := κ) (n := n) (v := (v.toInt64)) (lo := (0 : Int64)) (hi := (60 : Int64))  ) mk_X12_in dX12_isAhead_6 wd_1014 wd_1015 rfl rfl (Nat.le_of_ble_eq_true rfl) (Nat.le_of_ble_eq_true rfl) (Nat.le_of_ble_eq_true rfl) (by omega) (by omega) (fun q zh1 zm3 zp4 => ?_)
  obtain ⟨rfl, ze2, zn5⟩ := zp4
  subst zm3
  subst zh1
  refine z_st (st' := [.int (b2i ((0 : Int64).toInt ≤ (v.toInt64 : Int64).toInt ∧ (v.toInt64 : Int64).toInt ≤ (60 : Int64).toInt))]) rfl ?_
  refine z_toe (y := b2i (0 ≤ v.toInt ∧ v.toInt ≤ 60)) (by simp only [Int32.toInt_toInt64, show (0 : Int64).toInt = 0 by decide, show (60 : Int64).toInt = 60 by decide]) ?_
  refine z_zret X E dX12_isAhead_9 (by first | rfl | exact b2i_nar _) (by omega) (by omega) ⟨?_, ?_, ?_⟩
  · rfl
  · first | rfl | (funext zz; simp only [va_up]; (repeat' split) <;> first | rfl | (exfalso; omega) | simp_all)
  · rfl
set_option maxHeartbeats 4000000 in
set_option maxRecDepth 100000 in
theorem r_isSheet {κ : Wc} {l : Launch} {h : Mm} {n : Nat} {v : Int32}   : Con κ l yX12_isSheet cX12_isSheet 1 (some .boolean) 2 0 0 [.int v] h n (fun q h' n' => (q = some (.int (b2i (0 ≤ v.toInt ∧ v.toInt ≤ 3)))) ∧ h' = h ∧ n' = n) := by
  refine Con.of mk_X12_isSheet (Nat.le_of_ble_eq_true rfl) (fun G hG X E => ?_)
  subst hG
  refine z_ls (ls' := [(0, .int v)]) rfl ?_
  refine z_iload_n X 0 dX12_isSheet_0 rfl ?_
  refine z_i2l X dX12_isSheet_1 rfl ?_
  refine z_lconst (v := 0) X dX12_isSheet_2 (by decide) ?_
  refine z_ldc2 X dX12_isSheet_3 wd_1039 ?_
  refine z_callS X (r_in (κ := κ) (n := n) (v := (v.toInt64)) (lo := (0 : Int64)) (hi := (3 : Int64))  ) mk_X12_in dX12_isSheet_6 wd_1014 wd_1015 rfl rfl (Nat.le_of_ble_eq_true rfl) (Nat.le_of_ble_eq_true rfl) (Nat.le_of_ble_eq_true rfl) (by omega) (by omega) (fun q zh1 zm3 zp4 => ?_)
  obtain ⟨rfl, ze2, zn5⟩ := zp4
  subst zm3
  subst zh1
  refine z_st (st' := [.int (b2i ((0 : Int64).toInt ≤ (v.toInt64 : Int64).toInt ∧ (v.toInt64 : Int64).toInt ≤ (3 : Int64).toInt))]) rfl ?_
  refine z_toe (y := b2i (0 ≤ v.toInt ∧ v.toInt ≤ 3)) (by simp only [Int32.toInt_toInt64, show (0 : Int64).toInt = 0 by decide, show (3 : Int64).toInt = 3 by decide]) ?_
  refine z_zret X E dX12_isSheet_9 (by first | rfl | exact b2i_nar _) (by omega) (by omega) ⟨?_, ?_, ?_⟩
  · rfl
  · first | rfl | (funext zz; simp only [va_up]; (repeat' split) <;> first | rfl | (exfalso; omega) | simp_all)
  · rfl
set_option maxHeartbeats 4000000 in
set_option maxRecDepth 100000 in
theorem r_isCell {κ : Wc} {l : Launch} {h : Mm} {n : Nat} {o : Nat} {v : Int32} {d : Nat → Int32} {len : Nat} {im : Int32} {ba : Int32} {at_ : Int32} {sz : Int32} {fa : Int32} {op : Int32} {rm : Int32} {ti : Int32} {tm : Int32} {wh : Int32} (K0 : h o = some (.inr (12, [.ref (o + 1), .ref (o + 2), .ref (o + 3), .int im, .ref (o + 4), .int ba, .int at_, .int sz, .int fa, .int op, .ref (o + 5), .ref (o + 6), .int rm, .ref (o + 7), .ref (o + 8), .int ti, .ref (o + 9), .int tm, .int wh, .ref (o + 10), .ref (o + 11), .ref (o + 12), .ref (o + 13)]))) (K1 : h (o + 1) = arI κ 340 d) (q1 : d 1 = nI len) (q2 : 1 ≤ len) (q3 : len ≤ 40) : Con κ l yX12_isCell cX12_isCell 2 (some .boolean) 2 0 0 [.ref o, .int v] h n (fun q h' n' => (q = some (.int (b2i (0 ≤ v.toInt ∧ v.toInt ≤ ((len : Nat) : Int) - 1)))) ∧ h' = h ∧ n' = n) := by
  refine Con.of mk_X12_isCell (Nat.le_of_ble_eq_true rfl) (fun G hG X E => ?_)
  subst hG
  refine z_ls (ls' := [(0, .ref o), (1, .int v)]) rfl ?_
  refine z_iload_n X 1 dX12_isCell_0 rfl ?_
  refine z_i2l X dX12_isCell_1 rfl ?_
  refine z_lconst (v := 0) X dX12_isCell_2 (by decide) ?_
  refine z_aload_n X 0 dX12_isCell_3 rfl ?_
  refine z_get X fl_X12_7_12 dX12_isCell_4 K0 rfl ?_
  refine z_iconst (v := 1) X dX12_isCell_7 (by decide) ?_
  refine z_iald2 (v := d 1) X dX12_isCell_8 K1 (vp_in_nI (n := 1) (by omega) (by omega)) (congrArg d (nI_clamp (n := 1) (by omega))) ?_
  refine z_toe (y := nI len) (q1) ?_
  refine z_iconst (v := 1) X dX12_isCell_9 (by decide) ?_
  refine z_isub X dX12_isCell_10 ?_
  refine z_i2l X dX12_isCell_11 rfl ?_
  refine z_callS X (r_in (κ := κ) (n := n) (v := (v.toInt64)) (lo := (0 : Int64)) (hi := (((nI len) - 1).toInt64))  ) mk_X12_in dX12_isCell_12 wd_1014 wd_1015 rfl rfl (Nat.le_of_ble_eq_true rfl) (Nat.le_of_ble_eq_true rfl) (Nat.le_of_ble_eq_true rfl) (by omega) (by omega) (fun q zh1 zm3 zp4 => ?_)
  obtain ⟨rfl, ze2, zn5⟩ := zp4
  subst zm3
  subst zh1
  refine z_st (st' := [.int (b2i ((0 : Int64).toInt ≤ (v.toInt64 : Int64).toInt ∧ (v.toInt64 : Int64).toInt ≤ (((nI len) - 1).toInt64 : Int64).toInt))]) rfl ?_
  refine z_toe (y := b2i (0 ≤ v.toInt ∧ v.toInt ≤ ((len : Nat) : Int) - 1)) (by simp only [Int32.toInt_toInt64, i_m1 (n := len) (by omega), show (0 : Int64).toInt = 0 by decide]) ?_
  refine z_zret X E dX12_isCell_15 (by first | rfl | exact b2i_nar _) (by omega) (by omega) ⟨?_, ?_, ?_⟩
  · rfl
  · first | rfl | (funext zz; simp only [va_up]; (repeat' split) <;> first | rfl | (exfalso; omega) | simp_all)
  · rfl
set_option maxHeartbeats 4000000 in
set_option maxRecDepth 100000 in
theorem r_isCause {κ : Wc} {l : Launch} {h : Mm} {n : Nat} {o : Nat} {v : Int32} {d : Nat → Int32} {nc : Nat} {im : Int32} {ba : Int32} {at_ : Int32} {sz : Int32} {fa : Int32} {op : Int32} {rm : Int32} {ti : Int32} {tm : Int32} {wh : Int32} (K0 : h o = some (.inr (12, [.ref (o + 1), .ref (o + 2), .ref (o + 3), .int im, .ref (o + 4), .int ba, .int at_, .int sz, .int fa, .int op, .ref (o + 5), .ref (o + 6), .int rm, .ref (o + 7), .ref (o + 8), .int ti, .ref (o + 9), .int tm, .int wh, .ref (o + 10), .ref (o + 11), .ref (o + 12), .ref (o + 13)]))) (K1 : h (o + 1) = arI κ 340 d) (q4 : d 11 = nI nc) (q5 : nc ≤ 6) : Con κ l yX12_isCause cX12_isCause 2 (some .boolean) 2 0 0 [.ref o, .int v] h n (fun q h' n' => (q = some (.int (b2i (0 ≤ v.toInt ∧ v.toInt ≤ ((nc : Nat) : Int) - 1)))) ∧ h' = h ∧ n' = n) := by
  refine Con.of mk_X12_isCause (Nat.le_of_ble_eq_true rfl) (fun G hG X E => ?_)
  subst hG
  refine z_ls (ls' := [(0, .ref o), (1, .int v)]) rfl ?_
  refine z_iload_n X 1 dX12_isCause_0 rfl ?_
  refine z_i2l X dX12_isCause_1 rfl ?_
  refine z_lconst (v := 0) X dX12_isCause_2 (by decide) ?_
  refine z_aload_n X 0 dX12_isCause_3 rfl ?_
  refine z_get X fl_X12_7_12 dX12_isCause_4 K0 rfl ?_
  refine z_bipush (v := 11) X dX12_isCause_7 (by decide) ?_
  refine z_iald2 (v := d 11) X dX12_isCause_9 K1 (vp_in_nI (n := 11) (by omega) (by omega)) (congrArg d (nI_clamp (n := 11) (by omega))) ?_
  refine z_toe (y := nI nc) (q4) ?_
  refine z_iconst (v := 1) X dX12_isCause_10 (by decide) ?_
  refine z_isub X dX12_isCause_11 ?_
  refine z_i2l X dX12_isCause_12 rfl ?_
  refine z_callS X (r_in (κ := κ) (n := n) (v := (v.toInt64)) (lo := (0 : Int64)) (hi := (((nI nc) - 1).toInt64))  ) mk_X12_in dX12_isCause_13 wd_1014 wd_1015 rfl rfl (Nat.le_of_ble_eq_true rfl) (Nat.le_of_ble_eq_true rfl) (Nat.le_of_ble_eq_true rfl) (by omega) (by omega) (fun q zh1 zm3 zp4 => ?_)
  obtain ⟨rfl, ze2, zn5⟩ := zp4
  subst zm3
  subst zh1
  refine z_st (st' := [.int (b2i ((0 : Int64).toInt ≤ (v.toInt64 : Int64).toInt ∧ (v.toInt64 : Int64).toInt ≤ (((nI nc) - 1).toInt64 : Int64).toInt))]) rfl ?_
  refine z_toe (y := b2i (0 ≤ v.toInt ∧ v.toInt ≤ ((nc : Nat) : Int) - 1)) (by simp only [Int32.toInt_toInt64, i_m1 (n := nc) (by omega), show (0 : Int64).toInt = 0 by decide]) ?_
  refine z_zret X E dX12_isCause_16 (by first | rfl | exact b2i_nar _) (by omega) (by omega) ⟨?_, ?_, ?_⟩
  · rfl
  · first | rfl | (funext zz; simp only [va_up]; (repeat' split) <;> first | rfl | (exfalso; omega) | simp_all)
  · rfl
def opCell (d : Nat → Int32) (len : Nat) (c w : Int32) : Nat × Int32 := if ¬ (0 ≤ c.toInt ∧ c.toInt ≤ ((len : Nat) : Int) - 1 ∧ 0 ≤ w.toInt ∧ w.toInt ≤ 2) then (1, 0) else if w.toInt = 0 then (0, d (100 + c.toNatClampNeg)) else if w.toInt = 1 then (0, d (140 + c.toNatClampNeg)) else (0, soR d len c.toNatClampNeg)
set_option maxHeartbeats 4000000 in
set_option maxRecDepth 100000 in
theorem r_cell {κ : Wc} {l : Launch} {h : Mm} {n : Nat} {o : Nat} {c : Int32} {w : Int32} {fo : Nat → Int32} {d : Nat → Int32} {len : Nat} {im : Int32} {ba : Int32} {at_ : Int32} {sz : Int32} {fa : Int32} {op : Int32} {rm : Int32} {ti : Int32} {tm : Int32} {wh : Int32} (K0 : h o = some (.inr (12, [.ref (o + 1), .ref (o + 2), .ref (o + 3), .int im, .ref (o + 4), .int ba, .int at_, .int sz, .int fa, .int op, .ref (o + 5), .ref (o + 6), .int rm, .ref (o + 7), .ref (o + 8), .int ti, .ref (o + 9), .int tm, .int wh, .ref (o + 10), .ref (o + 11), .ref (o + 12), .ref (o + 13)]))) (K1 : h (o + 1) = arI κ 340 d) (K2 : h (o + 4) = arI κ 6 fo) (q1 : d 1 = nI len) (q2 : 1 ≤ len) (q3 : len ≤ 40) : Con κ l yX12_cell cX12_cell 3 (some .int) 3 0 0 [.ref o, .int c, .int w] h n (fun q h' n' => q = some (.int (ansOf (opCell d len c w))) ∧ h' = va_up h (o + 4) (arI κ 6 (bump (opCell d len c w) fo)) ∧ n' = n) := by
  refine Con.of mk_X12_cell (Nat.le_of_ble_eq_true rfl) (fun G hG X E => ?_)
  subst hG
  refine z_ls (ls' := [(0, .ref o), (1, .int c), (2, .int w)]) rfl ?_
  refine z_aload_n X 0 dX12_cell_0 rfl ?_
  refine z_iload_n X 1 dX12_cell_1 rfl ?_
  refine z_callV X (r_isCell (κ := κ) (n := n) (o := (o)) (v := (c)) (d := (d)) (im := (im)) (ba := (ba)) (at_ := (at_)) (sz := (sz)) (fa := (fa)) (op := (op)) (rm := (rm)) (ti := (ti)) (tm := (tm)) (wh := (wh)) K0 K1 (by first | assumption | omega) (by first | assumption | omega) (by first | assumption | omega)) mk_X12_isCell dX12_cell_2 wd_1010 wd_1012 wd_23 rfl K0 rfl rfl rfl (Nat.le_of_ble_eq_true rfl) (Nat.le_of_ble_eq_true rfl) (Nat.le_of_ble_eq_true rfl) (by omega) (by omega) (fun q zh1 zm3 zp4 => ?_)
  obtain ⟨rfl, ze2, zn5⟩ := zp4
  subst zm3
  subst zh1
  refine z_st (st' := [.int (b2i (0 ≤ (c : Int32).toInt ∧ (c : Int32).toInt ≤ ((len : Nat) : Int) - 1))]) rfl ?_
  refine z_if_eq X 20 dX12_cell_5 (by decide) (fun zc6 => ?_) (fun zc6 => ?_)
  · replace zc6 := b2i_f zc6
    refine z_aload_n X 0 dX12_cell_20 rfl ?_
    refine z_iconst (v := 1) X dX12_cell_21 (by decide) ?_
    refine z_callV X (r_finds (κ := κ) (n := n) (o := (o)) (k := (1)) (fo := (fo)) (im := (im)) (ba := (ba)) (at_ := (at_)) (sz := (sz)) (fa := (fa)) (op := (op)) (rm := (rm)) (ti := (ti)) (tm := (tm)) (wh := (wh)) K0 K2 (by first | assumption | omega) (by first | assumption | omega)) mk_X12_finds dX12_cell_22 wd_1018 wd_1020 wd_24 rfl K0 rfl rfl rfl (Nat.le_of_ble_eq_true rfl) (Nat.le_of_ble_eq_true rfl) (Nat.le_of_ble_eq_true rfl) (by omega) (by omega) (fun q zh7 zm9 zp10 => ?_)
    obtain ⟨rfl, ze8, zn11⟩ := zp10
    subst zm9
    refine z_st (st' := [.int (lowE 1)]) rfl ?_
    have zK12 : zh7 o = some (.inr (12, [.ref (o + 1), .ref (o + 2), .ref (o + 3), .int im, .ref (o + 4), .int ba, .int at_, .int sz, .int fa, .int op, .ref (o + 5), .ref (o + 6), .int rm, .ref (o + 7), .ref (o + 8), .int ti, .ref (o + 9), .int tm, .int wh, .ref (o + 10), .ref (o + 11), .ref (o + 12), .ref (o + 13)])) := by rw [ze8]; rw [va_up_ne _ _ (show o ≠ o + 4 by omega)]; exact K0
    have zK13 : zh7 (o + 1) = arI κ 340 d := by rw [ze8]; rw [va_up_ne _ _ (show o + 1 ≠ o + 4 by omega)]; exact K1
    have zK14 : zh7 (o + 4) = arI κ 6 (bmp fo 1) := by rw [ze8]; exact va_up_self _ _ _
    refine z_iret X E dX12_cell_25 (by omega) (by omega) ⟨?_, ?_, ?_⟩
    · generalize hz : opCell d len c w = z; unfold opCell at hz; (try simp only [ i_eq, i_lt, i_le, show (-1 : Int32).toInt = -1 by decide, show (0 : Int32).toInt = 0 by decide, show (1 : Int32).toInt = 1 by decide, show (2 : Int32).toInt = 2 by decide, show (3 : Int32).toInt = 3 by decide, show (4 : Int32).toInt = 4 by decide, show (5 : Int32).toInt = 5 by decide, show (6 : Int32).toInt = 6 by decide, show (7 : Int32).toInt = 7 by decide, show (8 : Int32).toInt = 8 by decide, show (9 : Int32).toInt = 9 by decide, show (10 : Int32).toInt = 10 by decide, show (11 : Int32).toInt = 11 by decide, show (12 : Int32).toInt = 12 by decide, show (13 : Int32).toInt = 13 by decide, show (14 : Int32).toInt = 14 by decide, show (15 : Int32).toInt = 15 by decide, show (16 : Int32).toInt = 16 by decide, show (20 : Int32).toInt = 20 by decide, show (39 : Int32).toInt = 39 by decide, show (40 : Int32).toInt = 40 by decide, show (50 : Int32).toInt = 50 by decide, show (60 : Int32).toInt = 60 by decide, show (99 : Int32).toInt = 99 by decide, show (100 : Int32).toInt = 100 by decide, show (999 : Int32).toInt = 999 by decide, show (9999 : Int32).toInt = 9999 by decide, show (99999 : Int32).toInt = 99999 by decide, show (999999 : Int32).toInt = 999999 by decide, show (9999999 : Int32).toInt = 9999999 by decide, show (-50 : Int32).toInt = -50 by decide, show (32 : Int32).toInt = 32 by decide] at *); (repeat first | rw [if_pos (by omega)] at hz | rw [if_neg (by omega)] at hz); subst hz; rfl
    · generalize hz : opCell d len c w = z; unfold opCell at hz; (try simp only [ i_eq, i_lt, i_le, show (-1 : Int32).toInt = -1 by decide, show (0 : Int32).toInt = 0 by decide, show (1 : Int32).toInt = 1 by decide, show (2 : Int32).toInt = 2 by decide, show (3 : Int32).toInt = 3 by decide, show (4 : Int32).toInt = 4 by decide, show (5 : Int32).toInt = 5 by decide, show (6 : Int32).toInt = 6 by decide, show (7 : Int32).toInt = 7 by decide, show (8 : Int32).toInt = 8 by decide, show (9 : Int32).toInt = 9 by decide, show (10 : Int32).toInt = 10 by decide, show (11 : Int32).toInt = 11 by decide, show (12 : Int32).toInt = 12 by decide, show (13 : Int32).toInt = 13 by decide, show (14 : Int32).toInt = 14 by decide, show (15 : Int32).toInt = 15 by decide, show (16 : Int32).toInt = 16 by decide, show (20 : Int32).toInt = 20 by decide, show (39 : Int32).toInt = 39 by decide, show (40 : Int32).toInt = 40 by decide, show (50 : Int32).toInt = 50 by decide, show (60 : Int32).toInt = 60 by decide, show (99 : Int32).toInt = 99 by decide, show (100 : Int32).toInt = 100 by decide, show (999 : Int32).toInt = 999 by decide, show (9999 : Int32).toInt = 9999 by decide, show (99999 : Int32).toInt = 99999 by decide, show (999999 : Int32).toInt = 999999 by decide, show (9999999 : Int32).toInt = 9999999 by decide, show (-50 : Int32).toInt = -50 by decide, show (32 : Int32).toInt = 32 by decide] at *); (repeat first | rw [if_pos (by omega)] at hz | rw [if_neg (by omega)] at hz); subst hz; rw [ze8]; rfl
    · rfl
  · replace zc6 := b2i_t zc6
    refine z_iload_n X 2 dX12_cell_8 rfl ?_
    refine z_i2l X dX12_cell_9 rfl ?_
    refine z_lconst (v := 0) X dX12_cell_10 (by decide) ?_
    refine z_ldc2 X dX12_cell_11 wd_1017 ?_
    refine z_callS X (r_in (κ := κ) (n := n) (v := (w.toInt64)) (lo := (0 : Int64)) (hi := (2 : Int64))  ) mk_X12_in dX12_cell_14 wd_1014 wd_1015 rfl rfl (Nat.le_of_ble_eq_true rfl) (Nat.le_of_ble_eq_true rfl) (Nat.le_of_ble_eq_true rfl) (by omega) (by omega) (fun q zh15 zm17 zp18 => ?_)
    obtain ⟨rfl, ze16, zn19⟩ := zp18
    subst zm17
    subst zh15
    refine z_st (st' := [.int (b2i ((0 : Int64).toInt ≤ (w.toInt64 : Int64).toInt ∧ (w.toInt64 : Int64).toInt ≤ (2 : Int64).toInt))]) rfl ?_
    refine z_toe (y := b2i (0 ≤ w.toInt ∧ w.toInt ≤ 2)) (by simp only [Int32.toInt_toInt64, show (0 : Int64).toInt = 0 by decide, show (2 : Int64).toInt = 2 by decide]) ?_
    refine z_if_ne X 26 dX12_cell_17 (by decide) (fun zc20 => ?_) (fun zc20 => ?_)
    · replace zc20 := b2i_t zc20
      obtain ⟨ck, hck, rfl⟩ := ix_of (c := c) (len := len) (by omega) (by omega)
      refine z_iload_n X 2 dX12_cell_26 rfl ?_
      refine z_if_ne X 42 dX12_cell_27 (by decide) (fun zc21 => ?_) (fun zc21 => ?_)
      · refine z_iload_n X 2 dX12_cell_42 rfl ?_
        refine z_iconst (v := 1) X dX12_cell_43 (by decide) ?_
        refine z_icmp_ne X 60 dX12_cell_44 (by decide) (fun zc22 => ?_) (fun zc22 => ?_)
        · refine z_aload_n X 0 dX12_cell_60 rfl ?_
          refine z_get X fl_X12_7_12 dX12_cell_61 K0 rfl ?_
          refine z_iload_n X 1 dX12_cell_64 rfl ?_
          refine z_callS X (r_standsOut (κ := κ) (n := n) (a := (o + 1)) (m := (d)) (c := (ck)) K1 (by first | assumption | omega) (by first | assumption | omega) (by first | assumption | omega)) mk_X12_standsOut dX12_cell_65 wd_1023 wd_1024 rfl rfl (Nat.le_of_ble_eq_true rfl) (Nat.le_of_ble_eq_true rfl) (Nat.le_of_ble_eq_true rfl) (by omega) (by omega) (fun q zh23 zm25 zp26 => ?_)
          obtain ⟨rfl, ze24, zn27⟩ := zp26
          subst zm25
          subst zh23
          refine z_st (st' := [.int (soR d len ck)]) rfl ?_
          refine z_iret X E dX12_cell_68 (by omega) (by omega) ⟨?_, ?_, ?_⟩
          · generalize hz : opCell d len (nI ck) w = z; unfold opCell at hz; (try simp only [i_nI (n := ck) (by omega), nI_clamp (n := ck) (by omega),  i_eq, i_lt, i_le, show (-1 : Int32).toInt = -1 by decide, show (0 : Int32).toInt = 0 by decide, show (1 : Int32).toInt = 1 by decide, show (2 : Int32).toInt = 2 by decide, show (3 : Int32).toInt = 3 by decide, show (4 : Int32).toInt = 4 by decide, show (5 : Int32).toInt = 5 by decide, show (6 : Int32).toInt = 6 by decide, show (7 : Int32).toInt = 7 by decide, show (8 : Int32).toInt = 8 by decide, show (9 : Int32).toInt = 9 by decide, show (10 : Int32).toInt = 10 by decide, show (11 : Int32).toInt = 11 by decide, show (12 : Int32).toInt = 12 by decide, show (13 : Int32).toInt = 13 by decide, show (14 : Int32).toInt = 14 by decide, show (15 : Int32).toInt = 15 by decide, show (16 : Int32).toInt = 16 by decide, show (20 : Int32).toInt = 20 by decide, show (39 : Int32).toInt = 39 by decide, show (40 : Int32).toInt = 40 by decide, show (50 : Int32).toInt = 50 by decide, show (60 : Int32).toInt = 60 by decide, show (99 : Int32).toInt = 99 by decide, show (100 : Int32).toInt = 100 by decide, show (999 : Int32).toInt = 999 by decide, show (9999 : Int32).toInt = 9999 by decide, show (99999 : Int32).toInt = 99999 by decide, show (999999 : Int32).toInt = 999999 by decide, show (9999999 : Int32).toInt = 9999999 by decide, show (-50 : Int32).toInt = -50 by decide, show (32 : Int32).toInt = 32 by decide] at *); (repeat first | rw [if_pos (by omega)] at hz | rw [if_neg (by omega)] at hz); subst hz; rfl
          · generalize hz : opCell d len (nI ck) w = z; unfold opCell at hz; (try simp only [i_nI (n := ck) (by omega), nI_clamp (n := ck) (by omega),  i_eq, i_lt, i_le, show (-1 : Int32).toInt = -1 by decide, show (0 : Int32).toInt = 0 by decide, show (1 : Int32).toInt = 1 by decide, show (2 : Int32).toInt = 2 by decide, show (3 : Int32).toInt = 3 by decide, show (4 : Int32).toInt = 4 by decide, show (5 : Int32).toInt = 5 by decide, show (6 : Int32).toInt = 6 by decide, show (7 : Int32).toInt = 7 by decide, show (8 : Int32).toInt = 8 by decide, show (9 : Int32).toInt = 9 by decide, show (10 : Int32).toInt = 10 by decide, show (11 : Int32).toInt = 11 by decide, show (12 : Int32).toInt = 12 by decide, show (13 : Int32).toInt = 13 by decide, show (14 : Int32).toInt = 14 by decide, show (15 : Int32).toInt = 15 by decide, show (16 : Int32).toInt = 16 by decide, show (20 : Int32).toInt = 20 by decide, show (39 : Int32).toInt = 39 by decide, show (40 : Int32).toInt = 40 by decide, show (50 : Int32).toInt = 50 by decide, show (60 : Int32).toInt = 60 by decide, show (99 : Int32).toInt = 99 by decide, show (100 : Int32).toInt = 100 by decide, show (999 : Int32).toInt = 999 by decide, show (9999 : Int32).toInt = 9999 by decide, show (99999 : Int32).toInt = 99999 by decide, show (999999 : Int32).toInt = 999999 by decide, show (9999999 : Int32).toInt = 9999999 by decide, show (-50 : Int32).toInt = -50 by decide, show (32 : Int32).toInt = 32 by decide] at *); (repeat first | rw [if_pos (by omega)] at hz | rw [if_neg (by omega)] at hz); subst hz; exact (up_same _ _ K2).symm
          · rfl
        · refine z_aload_n X 0 dX12_cell_47 rfl ?_
          refine z_get X fl_X12_7_12 dX12_cell_48 K0 rfl ?_
          refine z_sipush (v := 140) X dX12_cell_51 (by decide) ?_
          refine z_iload_n X 1 dX12_cell_54 rfl ?_
          refine z_iadd X dX12_cell_55 ?_
          refine z_toe (y := nI (140 + ck)) (nI_add (140) (ck)) ?_
          refine z_iald2 (v := d (140 + ck)) X dX12_cell_56 K1 (vp_in_nI (n := 140 + ck) (by omega) (by omega)) (congrArg d (nI_clamp (n := 140 + ck) (by omega))) ?_
          refine z_goto X 68 dX12_cell_57 (by decide) ?_
          refine z_iret X E dX12_cell_68 (by omega) (by omega) ⟨?_, ?_, ?_⟩
          · generalize hz : opCell d len (nI ck) w = z; unfold opCell at hz; (try simp only [i_nI (n := ck) (by omega), nI_clamp (n := ck) (by omega),  i_eq, i_lt, i_le, show (-1 : Int32).toInt = -1 by decide, show (0 : Int32).toInt = 0 by decide, show (1 : Int32).toInt = 1 by decide, show (2 : Int32).toInt = 2 by decide, show (3 : Int32).toInt = 3 by decide, show (4 : Int32).toInt = 4 by decide, show (5 : Int32).toInt = 5 by decide, show (6 : Int32).toInt = 6 by decide, show (7 : Int32).toInt = 7 by decide, show (8 : Int32).toInt = 8 by decide, show (9 : Int32).toInt = 9 by decide, show (10 : Int32).toInt = 10 by decide, show (11 : Int32).toInt = 11 by decide, show (12 : Int32).toInt = 12 by decide, show (13 : Int32).toInt = 13 by decide, show (14 : Int32).toInt = 14 by decide, show (15 : Int32).toInt = 15 by decide, show (16 : Int32).toInt = 16 by decide, show (20 : Int32).toInt = 20 by decide, show (39 : Int32).toInt = 39 by decide, show (40 : Int32).toInt = 40 by decide, show (50 : Int32).toInt = 50 by decide, show (60 : Int32).toInt = 60 by decide, show (99 : Int32).toInt = 99 by decide, show (100 : Int32).toInt = 100 by decide, show (999 : Int32).toInt = 999 by decide, show (9999 : Int32).toInt = 9999 by decide, show (99999 : Int32).toInt = 99999 by decide, show (999999 : Int32).toInt = 999999 by decide, show (9999999 : Int32).toInt = 9999999 by decide, show (-50 : Int32).toInt = -50 by decide, show (32 : Int32).toInt = 32 by decide] at *); (repeat first | rw [if_pos (by omega)] at hz | rw [if_neg (by omega)] at hz); subst hz; rfl
          · generalize hz : opCell d len (nI ck) w = z; unfold opCell at hz; (try simp only [i_nI (n := ck) (by omega), nI_clamp (n := ck) (by omega),  i_eq, i_lt, i_le, show (-1 : Int32).toInt = -1 by decide, show (0 : Int32).toInt = 0 by decide, show (1 : Int32).toInt = 1 by decide, show (2 : Int32).toInt = 2 by decide, show (3 : Int32).toInt = 3 by decide, show (4 : Int32).toInt = 4 by decide, show (5 : Int32).toInt = 5 by decide, show (6 : Int32).toInt = 6 by decide, show (7 : Int32).toInt = 7 by decide, show (8 : Int32).toInt = 8 by decide, show (9 : Int32).toInt = 9 by decide, show (10 : Int32).toInt = 10 by decide, show (11 : Int32).toInt = 11 by decide, show (12 : Int32).toInt = 12 by decide, show (13 : Int32).toInt = 13 by decide, show (14 : Int32).toInt = 14 by decide, show (15 : Int32).toInt = 15 by decide, show (16 : Int32).toInt = 16 by decide, show (20 : Int32).toInt = 20 by decide, show (39 : Int32).toInt = 39 by decide, show (40 : Int32).toInt = 40 by decide, show (50 : Int32).toInt = 50 by decide, show (60 : Int32).toInt = 60 by decide, show (99 : Int32).toInt = 99 by decide, show (100 : Int32).toInt = 100 by decide, show (999 : Int32).toInt = 999 by decide, show (9999 : Int32).toInt = 9999 by decide, show (99999 : Int32).toInt = 99999 by decide, show (999999 : Int32).toInt = 999999 by decide, show (9999999 : Int32).toInt = 9999999 by decide, show (-50 : Int32).toInt = -50 by decide, show (32 : Int32).toInt = 32 by decide] at *); (repeat first | rw [if_pos (by omega)] at hz | rw [if_neg (by omega)] at hz); subst hz; exact (up_same _ _ K2).symm
          · rfl
      · refine z_aload_n X 0 dX12_cell_30 rfl ?_
        refine z_get X fl_X12_7_12 dX12_cell_31 K0 rfl ?_
        refine z_bipush (v := 100) X dX12_cell_34 (by decide) ?_
        refine z_iload_n X 1 dX12_cell_36 rfl ?_
        refine z_iadd X dX12_cell_37 ?_
        refine z_toe (y := nI (100 + ck)) (nI_add (100) (ck)) ?_
        refine z_iald2 (v := d (100 + ck)) X dX12_cell_38 K1 (vp_in_nI (n := 100 + ck) (by omega) (by omega)) (congrArg d (nI_clamp (n := 100 + ck) (by omega))) ?_
        refine z_goto X 68 dX12_cell_39 (by decide) ?_
        refine z_iret X E dX12_cell_68 (by omega) (by omega) ⟨?_, ?_, ?_⟩
        · generalize hz : opCell d len (nI ck) w = z; unfold opCell at hz; (try simp only [i_nI (n := ck) (by omega), nI_clamp (n := ck) (by omega),  i_eq, i_lt, i_le, show (-1 : Int32).toInt = -1 by decide, show (0 : Int32).toInt = 0 by decide, show (1 : Int32).toInt = 1 by decide, show (2 : Int32).toInt = 2 by decide, show (3 : Int32).toInt = 3 by decide, show (4 : Int32).toInt = 4 by decide, show (5 : Int32).toInt = 5 by decide, show (6 : Int32).toInt = 6 by decide, show (7 : Int32).toInt = 7 by decide, show (8 : Int32).toInt = 8 by decide, show (9 : Int32).toInt = 9 by decide, show (10 : Int32).toInt = 10 by decide, show (11 : Int32).toInt = 11 by decide, show (12 : Int32).toInt = 12 by decide, show (13 : Int32).toInt = 13 by decide, show (14 : Int32).toInt = 14 by decide, show (15 : Int32).toInt = 15 by decide, show (16 : Int32).toInt = 16 by decide, show (20 : Int32).toInt = 20 by decide, show (39 : Int32).toInt = 39 by decide, show (40 : Int32).toInt = 40 by decide, show (50 : Int32).toInt = 50 by decide, show (60 : Int32).toInt = 60 by decide, show (99 : Int32).toInt = 99 by decide, show (100 : Int32).toInt = 100 by decide, show (999 : Int32).toInt = 999 by decide, show (9999 : Int32).toInt = 9999 by decide, show (99999 : Int32).toInt = 99999 by decide, show (999999 : Int32).toInt = 999999 by decide, show (9999999 : Int32).toInt = 9999999 by decide, show (-50 : Int32).toInt = -50 by decide, show (32 : Int32).toInt = 32 by decide] at *); (repeat first | rw [if_pos (by omega)] at hz | rw [if_neg (by omega)] at hz); subst hz; rfl
        · generalize hz : opCell d len (nI ck) w = z; unfold opCell at hz; (try simp only [i_nI (n := ck) (by omega), nI_clamp (n := ck) (by omega),  i_eq, i_lt, i_le, show (-1 : Int32).toInt = -1 by decide, show (0 : Int32).toInt = 0 by decide, show (1 : Int32).toInt = 1 by decide, show (2 : Int32).toInt = 2 by decide, show (3 : Int32).toInt = 3 by decide, show (4 : Int32).toInt = 4 by decide, show (5 : Int32).toInt = 5 by decide, show (6 : Int32).toInt = 6 by decide, show (7 : Int32).toInt = 7 by decide, show (8 : Int32).toInt = 8 by decide, show (9 : Int32).toInt = 9 by decide, show (10 : Int32).toInt = 10 by decide, show (11 : Int32).toInt = 11 by decide, show (12 : Int32).toInt = 12 by decide, show (13 : Int32).toInt = 13 by decide, show (14 : Int32).toInt = 14 by decide, show (15 : Int32).toInt = 15 by decide, show (16 : Int32).toInt = 16 by decide, show (20 : Int32).toInt = 20 by decide, show (39 : Int32).toInt = 39 by decide, show (40 : Int32).toInt = 40 by decide, show (50 : Int32).toInt = 50 by decide, show (60 : Int32).toInt = 60 by decide, show (99 : Int32).toInt = 99 by decide, show (100 : Int32).toInt = 100 by decide, show (999 : Int32).toInt = 999 by decide, show (9999 : Int32).toInt = 9999 by decide, show (99999 : Int32).toInt = 99999 by decide, show (999999 : Int32).toInt = 999999 by decide, show (9999999 : Int32).toInt = 9999999 by decide, show (-50 : Int32).toInt = -50 by decide, show (32 : Int32).toInt = 32 by decide] at *); (repeat first | rw [if_pos (by omega)] at hz | rw [if_neg (by omega)] at hz); subst hz; exact (up_same _ _ K2).symm
        · rfl
    · replace zc20 := b2i_f zc20
      refine z_aload_n X 0 dX12_cell_20 rfl ?_
      refine z_iconst (v := 1) X dX12_cell_21 (by decide) ?_
      refine z_callV X (r_finds (κ := κ) (n := n) (o := (o)) (k := (1)) (fo := (fo)) (im := (im)) (ba := (ba)) (at_ := (at_)) (sz := (sz)) (fa := (fa)) (op := (op)) (rm := (rm)) (ti := (ti)) (tm := (tm)) (wh := (wh)) K0 K2 (by first | assumption | omega) (by first | assumption | omega)) mk_X12_finds dX12_cell_22 wd_1018 wd_1020 wd_24 rfl K0 rfl rfl rfl (Nat.le_of_ble_eq_true rfl) (Nat.le_of_ble_eq_true rfl) (Nat.le_of_ble_eq_true rfl) (by omega) (by omega) (fun q zh28 zm30 zp31 => ?_)
      obtain ⟨rfl, ze29, zn32⟩ := zp31
      subst zm30
      refine z_st (st' := [.int (lowE 1)]) rfl ?_
      have zK33 : zh28 o = some (.inr (12, [.ref (o + 1), .ref (o + 2), .ref (o + 3), .int im, .ref (o + 4), .int ba, .int at_, .int sz, .int fa, .int op, .ref (o + 5), .ref (o + 6), .int rm, .ref (o + 7), .ref (o + 8), .int ti, .ref (o + 9), .int tm, .int wh, .ref (o + 10), .ref (o + 11), .ref (o + 12), .ref (o + 13)])) := by rw [ze29]; rw [va_up_ne _ _ (show o ≠ o + 4 by omega)]; exact K0
      have zK34 : zh28 (o + 1) = arI κ 340 d := by rw [ze29]; rw [va_up_ne _ _ (show o + 1 ≠ o + 4 by omega)]; exact K1
      have zK35 : zh28 (o + 4) = arI κ 6 (bmp fo 1) := by rw [ze29]; exact va_up_self _ _ _
      refine z_iret X E dX12_cell_25 (by omega) (by omega) ⟨?_, ?_, ?_⟩
      · generalize hz : opCell d len c w = z; unfold opCell at hz; (try simp only [ i_eq, i_lt, i_le, show (-1 : Int32).toInt = -1 by decide, show (0 : Int32).toInt = 0 by decide, show (1 : Int32).toInt = 1 by decide, show (2 : Int32).toInt = 2 by decide, show (3 : Int32).toInt = 3 by decide, show (4 : Int32).toInt = 4 by decide, show (5 : Int32).toInt = 5 by decide, show (6 : Int32).toInt = 6 by decide, show (7 : Int32).toInt = 7 by decide, show (8 : Int32).toInt = 8 by decide, show (9 : Int32).toInt = 9 by decide, show (10 : Int32).toInt = 10 by decide, show (11 : Int32).toInt = 11 by decide, show (12 : Int32).toInt = 12 by decide, show (13 : Int32).toInt = 13 by decide, show (14 : Int32).toInt = 14 by decide, show (15 : Int32).toInt = 15 by decide, show (16 : Int32).toInt = 16 by decide, show (20 : Int32).toInt = 20 by decide, show (39 : Int32).toInt = 39 by decide, show (40 : Int32).toInt = 40 by decide, show (50 : Int32).toInt = 50 by decide, show (60 : Int32).toInt = 60 by decide, show (99 : Int32).toInt = 99 by decide, show (100 : Int32).toInt = 100 by decide, show (999 : Int32).toInt = 999 by decide, show (9999 : Int32).toInt = 9999 by decide, show (99999 : Int32).toInt = 99999 by decide, show (999999 : Int32).toInt = 999999 by decide, show (9999999 : Int32).toInt = 9999999 by decide, show (-50 : Int32).toInt = -50 by decide, show (32 : Int32).toInt = 32 by decide] at *); (repeat first | rw [if_pos (by omega)] at hz | rw [if_neg (by omega)] at hz); subst hz; rfl
      · generalize hz : opCell d len c w = z; unfold opCell at hz; (try simp only [ i_eq, i_lt, i_le, show (-1 : Int32).toInt = -1 by decide, show (0 : Int32).toInt = 0 by decide, show (1 : Int32).toInt = 1 by decide, show (2 : Int32).toInt = 2 by decide, show (3 : Int32).toInt = 3 by decide, show (4 : Int32).toInt = 4 by decide, show (5 : Int32).toInt = 5 by decide, show (6 : Int32).toInt = 6 by decide, show (7 : Int32).toInt = 7 by decide, show (8 : Int32).toInt = 8 by decide, show (9 : Int32).toInt = 9 by decide, show (10 : Int32).toInt = 10 by decide, show (11 : Int32).toInt = 11 by decide, show (12 : Int32).toInt = 12 by decide, show (13 : Int32).toInt = 13 by decide, show (14 : Int32).toInt = 14 by decide, show (15 : Int32).toInt = 15 by decide, show (16 : Int32).toInt = 16 by decide, show (20 : Int32).toInt = 20 by decide, show (39 : Int32).toInt = 39 by decide, show (40 : Int32).toInt = 40 by decide, show (50 : Int32).toInt = 50 by decide, show (60 : Int32).toInt = 60 by decide, show (99 : Int32).toInt = 99 by decide, show (100 : Int32).toInt = 100 by decide, show (999 : Int32).toInt = 999 by decide, show (9999 : Int32).toInt = 9999 by decide, show (99999 : Int32).toInt = 99999 by decide, show (999999 : Int32).toInt = 999999 by decide, show (9999999 : Int32).toInt = 9999999 by decide, show (-50 : Int32).toInt = -50 by decide, show (32 : Int32).toInt = 32 by decide] at *); (repeat first | rw [if_pos (by omega)] at hz | rw [if_neg (by omega)] at hz); subst hz; rw [ze29]; rfl
      · rfl
