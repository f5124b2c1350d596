/-! the class: cells of an icicle as windows of a row -/
def win (b N : Nat) (m : Nat → Int32) : Nat → Int32 := fun k => if k < N then m (b + k) else 0
theorem win_at {b N k : Nat} {m : Nat → Int32} (h : k < N) : win b N m k = m (b + k) := if_pos h
theorem win_us {b N k : Nat} {m : Nat → Int32} {x : Int32} (h : k < N) : win b N (upd m (b + k) x) = upd (win b N m) k x := by
  funext q
  unfold win upd
  dsimp only
  by_cases e : q = k
  · rw [if_pos e, if_pos (by omega), if_pos (by omega)]
  · rw [if_neg e]
    by_cases hq : q < N
    · rw [if_pos hq, if_pos hq, if_neg (by omega)]
    · rw [if_neg hq, if_neg hq]
theorem win_off {b N q : Nat} {m : Nat → Int32} {x : Int32} (h : q < b ∨ b + N ≤ q) : win b N (upd m q x) = win b N m := by
  funext k
  unfold win upd
  by_cases hk : k < N
  · rw [if_pos hk, if_pos hk, if_neg (by omega)]
  · rw [if_neg hk, if_neg hk]
theorem win_ext {b N : Nat} {m m2 : Nat → Int32} (h : ∀ k, k < N → m (b + k) = m2 (b + k)) : win b N m = win b N m2 := by
  funext k
  unfold win
  by_cases hk : k < N
  · rw [if_pos hk, if_pos hk, h k hk]
  · rw [if_neg hk, if_neg hk]
theorem win_arr {N : Nat} {f : Nat → Int32} {m : Nat → Int32} {b : Nat} (h : ∀ k, k < N → f k = m (b + k)) : ∀ k, k < N → f k = win b N m k := fun k hk => (h k hk).trans (win_at hk).symm
def wAt (m : Nat → Int32) (b len k : Nat) : Int32 := if k < len then m (b + k) else 0
theorem wAt_t {m : Nat → Int32} {b len k : Nat} (h : k < len) : wAt m b len k = m (b + k) := if_pos h
theorem wAt_I (m : Nat → Int32) (b len k : Nat) : (wAt m b len k).toInt = wI m b len k := by
  unfold wAt wI
  by_cases h : k < len
  · rw [if_pos h, if_pos h]
  · rw [if_neg h, if_neg h]
    decide
theorem rowAt_I {nu : Nat → Int32} {b sz i : Nat} (h : sz ≤ 40) (hi : i < 1000) : (rowAt sz (win b 40 nu) (nI i)).toInt = wI nu b sz i := by
  unfold rowAt wI
  rw [i_nI (by omega), nI_clamp (by omega)]
  by_cases hk : i < sz
  · rw [if_pos (by omega), if_pos hk, win_at (by omega)]
  · rw [if_neg (by omega), if_neg hk]
    decide
set_option maxHeartbeats 4000000 in
set_option maxRecDepth 100000 in
theorem c_has {κ : Wc} {l : Launch} {h : Mm} {n : Nat} {i : Nat} {len : Nat} {now : Int32} {dd : Int32} {dr : Int32} {cc : Int32} {on : Int32} {cold : Int32} {wind : Int32} {c : Int32} (K0 : h i = some (.inr (2, [.ref (i + 1), .ref (i + 2), .ref (i + 3), .ref (i + 4), .ref (i + 5), .int (nI len), .int now, .int dd, .int dr, .int cc, .int on, .int cold, .int wind]))) (q3 : len ≤ 40) : Con κ l yX2_has cX2_has 2 (some .boolean) 2 0 0 [.ref i, .int c] h n (fun q h' n' => (q = some (.int (b2i (0 ≤ c.toInt ∧ c.toInt ≤ ((len : Nat) : Int) - 1)))) ∧ h' = h ∧ n' = n) := by
  refine Con.of mk_X2_has (Nat.le_of_ble_eq_true rfl) (fun G hG X E => ?_)
  subst hG
  refine z_ls (ls' := [(0, .ref i), (1, .int c)]) rfl ?_
  refine z_iload_n X 1 dX2_has_0 rfl ?_
  refine z_iconst (v := 0) X dX2_has_1 (by decide) ?_
  refine z_aload_n X 0 dX2_has_2 rfl ?_
  refine z_get X fl_X2_45_2 dX2_has_3 K0 rfl ?_
  refine z_iconst (v := 1) X dX2_has_6 (by decide) ?_
  refine z_isub X dX2_has_7 ?_
  refine z_callSN (host := "IcicleRings") X (c_within (κ := κ) (n := n) (v := (c)) (lo := (0)) (hi := ((nI len) - 1))  ) mk_X11_within dX2_has_8 (by decide +kernel) wd_257 rfl rfl (Nat.le_of_ble_eq_true rfl) (Nat.le_of_ble_eq_true rfl) (Nat.le_of_ble_eq_true rfl) (by omega) (by omega) (fun q zh1 zm3 zp4 => ?_)
  obtain ⟨rfl, ze2, zn5⟩ := zp4
  subst zm3
  subst zh1
  refine z_st (st' := [.int (b2i ((0 : Int32).toInt ≤ (c : Int32).toInt ∧ (c : Int32).toInt ≤ ((nI len) - 1 : Int32).toInt))]) rfl ?_
  refine z_toe (y := b2i (0 ≤ c.toInt ∧ c.toInt ≤ ((len : Nat) : Int) - 1)) (by simp only [i_m1 (n := len) (by omega), show (0 : Int32).toInt = 0 by decide]) ?_
  refine z_zret X E dX2_has_11 (by first | rfl | exact b2i_nar _) (by omega) (by omega) ⟨?_, ?_, ?_⟩
  · rfl
  · first | rfl | (funext zz; simp only [va_up]; (repeat' split) <;> first | rfl | (exfalso; omega) | simp_all)
  · rfl
set_option maxHeartbeats 4000000 in
set_option maxRecDepth 100000 in
theorem c_wideAt {κ : Wc} {l : Launch} {h : Mm} {n : Nat} {i : Nat} {len : Nat} {m : Nat → Int32} {now : Int32} {dd : Int32} {dr : Int32} {cc : Int32} {on : Int32} {cold : Int32} {wind : Int32} {k : Nat} (K0 : h i = some (.inr (2, [.ref (i + 1), .ref (i + 2), .ref (i + 3), .ref (i + 4), .ref (i + 5), .int (nI len), .int now, .int dd, .int dr, .int cc, .int on, .int cold, .int wind]))) (K1 : h (i + 1) = arI κ 40 (win 100 40 m)) (q3 : len ≤ 40) (p1 : k < 1000) : Con κ l yX2_wideAt cX2_wideAt 2 (some .int) 3 0 0 [.ref i, .int (nI k)] h n (fun q h' n' => q = some (.int (wAt m 100 len k)) ∧ h' = h ∧ n' = n) := by
  refine Con.of mk_X2_wideAt (Nat.le_of_ble_eq_true rfl) (fun G hG X E => ?_)
  subst hG
  refine z_ls (ls' := [(0, .ref i), (1, .int (nI k))]) rfl ?_
  refine z_aload_n X 0 dX2_wideAt_0 rfl ?_
  refine z_iload_n X 1 dX2_wideAt_1 rfl ?_
  refine z_callV X (c_has (κ := κ) (n := n) (i := (i)) (len := (len)) (now := (now)) (dd := (dd)) (dr := (dr)) (cc := (cc)) (on := (on)) (cold := (cold)) (wind := (wind)) (c := (nI k)) K0 (by first | assumption | omega)) mk_X2_has dX2_wideAt_2 wd_269 wd_253 wd_254 rfl K0 rfl rfl rfl (Nat.le_of_ble_eq_true rfl) (Nat.le_of_ble_eq_true rfl) (Nat.le_of_ble_eq_true rfl) (by omega) (by omega) (fun q zh1 zm3 zp4 => ?_)
  obtain ⟨rfl, ze2, zn5⟩ := zp4
  subst zm3
  subst zh1
  refine z_st (st' := [.int (b2i (0 ≤ (nI k : Int32).toInt ∧ (nI k : Int32).toInt ≤ ((len : Nat) : Int) - 1))]) rfl ?_
  refine z_if_eq X 17 dX2_wideAt_5 (by decide) (fun zc6 => ?_) (fun zc6 => ?_)
  · replace zc6 := b2i_f zc6
    rw [i_nI (by omega)] at zc6
    refine z_iconst (v := 0) X dX2_wideAt_17 (by decide) ?_
    refine z_iret X E dX2_wideAt_18 (by omega) (by omega) ⟨?_, ?_, ?_⟩
    · first | rw [wAt, if_pos (by omega)] | rw [wAt, if_neg (by omega)]
    · first | rfl | (funext zz; simp only [va_up]; (repeat' split) <;> first | rfl | (exfalso; omega) | simp_all)
    · rfl
  · replace zc6 := b2i_t zc6
    rw [i_nI (by omega)] at zc6
    refine z_aload_n X 0 dX2_wideAt_8 rfl ?_
    refine z_get X fl_X2_9_2 dX2_wideAt_9 K0 rfl ?_
    refine z_iload_n X 1 dX2_wideAt_12 rfl ?_
    refine z_iald2 (v := m (100 + k)) X dX2_wideAt_13 K1 (vp_in_nI (n := k) (by omega) (by omega)) ((congrArg (win 100 40 m) (nI_clamp (n := k) (by omega))).trans (win_at (k := k) (by omega))) ?_
    refine z_goto X 18 dX2_wideAt_14 (by decide) ?_
    refine z_iret X E dX2_wideAt_18 (by omega) (by omega) ⟨?_, ?_, ?_⟩
    · first | rw [wAt, if_pos (by omega)] | rw [wAt, if_neg (by omega)]
    · first | rfl | (funext zz; simp only [va_up]; (repeat' split) <;> first | rfl | (exfalso; omega) | simp_all)
    · rfl
set_option maxHeartbeats 4000000 in
set_option maxRecDepth 100000 in
theorem c_saltAt {κ : Wc} {l : Launch} {h : Mm} {n : Nat} {i : Nat} {len : Nat} {m : Nat → Int32} {now : Int32} {dd : Int32} {dr : Int32} {cc : Int32} {on : Int32} {cold : Int32} {wind : Int32} {k : Nat} (K0 : h i = some (.inr (2, [.ref (i + 1), .ref (i + 2), .ref (i + 3), .ref (i + 4), .ref (i + 5), .int (nI len), .int now, .int dd, .int dr, .int cc, .int on, .int cold, .int wind]))) (K1 : h (i + 2) = arI κ 40 (win 140 40 m)) (q3 : len ≤ 40) (p1 : k < 1000) : Con κ l yX2_saltAt cX2_saltAt 2 (some .int) 3 0 0 [.ref i, .int (nI k)] h n (fun q h' n' => q = some (.int (wAt m 140 len k)) ∧ h' = h ∧ n' = n) := by
  refine Con.of mk_X2_saltAt (Nat.le_of_ble_eq_true rfl) (fun G hG X E => ?_)
  subst hG
  refine z_ls (ls' := [(0, .ref i), (1, .int (nI k))]) rfl ?_
  refine z_aload_n X 0 dX2_saltAt_0 rfl ?_
  refine z_iload_n X 1 dX2_saltAt_1 rfl ?_
  refine z_callV X (c_has (κ := κ) (n := n) (i := (i)) (len := (len)) (now := (now)) (dd := (dd)) (dr := (dr)) (cc := (cc)) (on := (on)) (cold := (cold)) (wind := (wind)) (c := (nI k)) K0 (by first | assumption | omega)) mk_X2_has dX2_saltAt_2 wd_269 wd_253 wd_254 rfl K0 rfl rfl rfl (Nat.le_of_ble_eq_true rfl) (Nat.le_of_ble_eq_true rfl) (Nat.le_of_ble_eq_true rfl) (by omega) (by omega) (fun q zh1 zm3 zp4 => ?_)
  obtain ⟨rfl, ze2, zn5⟩ := zp4
  subst zm3
  subst zh1
  refine z_st (st' := [.int (b2i (0 ≤ (nI k : Int32).toInt ∧ (nI k : Int32).toInt ≤ ((len : Nat) : Int) - 1))]) rfl ?_
  refine z_if_eq X 17 dX2_saltAt_5 (by decide) (fun zc6 => ?_) (fun zc6 => ?_)
  · replace zc6 := b2i_f zc6
    rw [i_nI (by omega)] at zc6
    refine z_iconst (v := 0) X dX2_saltAt_17 (by decide) ?_
    refine z_iret X E dX2_saltAt_18 (by omega) (by omega) ⟨?_, ?_, ?_⟩
    · first | rw [wAt, if_pos (by omega)] | rw [wAt, if_neg (by omega)]
    · first | rfl | (funext zz; simp only [va_up]; (repeat' split) <;> first | rfl | (exfalso; omega) | simp_all)
    · rfl
  · replace zc6 := b2i_t zc6
    rw [i_nI (by omega)] at zc6
    refine z_aload_n X 0 dX2_saltAt_8 rfl ?_
    refine z_get X fl_X2_15_2 dX2_saltAt_9 K0 rfl ?_
    refine z_iload_n X 1 dX2_saltAt_12 rfl ?_
    refine z_iald2 (v := m (140 + k)) X dX2_saltAt_13 K1 (vp_in_nI (n := k) (by omega) (by omega)) ((congrArg (win 140 40 m) (nI_clamp (n := k) (by omega))).trans (win_at (k := k) (by omega))) ?_
    refine z_goto X 18 dX2_saltAt_14 (by decide) ?_
    refine z_iret X E dX2_saltAt_18 (by omega) (by omega) ⟨?_, ?_, ?_⟩
    · first | rw [wAt, if_pos (by omega)] | rw [wAt, if_neg (by omega)]
    · first | rfl | (funext zz; simp only [va_up]; (repeat' split) <;> first | rfl | (exfalso; omega) | simp_all)
    · rfl
set_option maxHeartbeats 4000000 in
set_option maxRecDepth 100000 in
theorem c_standsOut {κ : Wc} {l : Launch} {h : Mm} {n : Nat} {i : Nat} {len : Nat} {m : Nat → Int32} {now : Int32} {dd : Int32} {dr : Int32} {cc : Int32} {on : Int32} {cold : Int32} {wind : Int32} {c : Nat} (K0 : h i = some (.inr (2, [.ref (i + 1), .ref (i + 2), .ref (i + 3), .ref (i + 4), .ref (i + 5), .int (nI len), .int now, .int dd, .int dr, .int cc, .int on, .int cold, .int wind]))) (K1 : h (i + 1) = arI κ 40 (win 100 40 m)) (q2 : c < len) (q3 : len ≤ 40) : Con κ l yX2_standsOut cX2_standsOut 5 (some .int) 1 0 0 [.ref i, .int (nI c)] h n (fun q h' n' => q = some (.int (soR m len c)) ∧ h' = h ∧ n' = n) := by
  refine Con.of mk_X2_standsOut (Nat.le_of_ble_eq_true rfl) (fun G hG X E => ?_)
  subst hG
  refine z_ls (ls' := [(0, .ref i), (1, .int (nI c))]) rfl ?_
  refine z_iload_n X 1 dX2_standsOut_0 rfl ?_
  refine z_if_lt X 12 dX2_standsOut_1 (by decide) (fun zc1 => ?_) (fun zc1 => ?_)
  · try replace zc1 := (nI_ltI (a := c) (b := 0) (by omega) (by omega)).mp zc1
    omega
  · try replace zc1 := mt (nI_ltI (a := c) (b := 0) (by omega) (by omega)).mpr zc1
    refine z_iload_n X 1 dX2_standsOut_4 rfl ?_
    refine z_aload_n X 0 dX2_standsOut_5 rfl ?_
    refine z_get X fl_X2_45_2 dX2_standsOut_6 K0 rfl ?_
    refine z_icmp_lt X 14 dX2_standsOut_9 (by decide) (fun zc2 => ?_) (fun zc2 => ?_)
    · try replace zc2 := (nI_ltI (a := c) (b := len) (by omega) (by omega)).mp zc2
      refine z_aload_n X 0 dX2_standsOut_14 rfl ?_
      refine z_get X fl_X2_9_2 dX2_standsOut_15 K0 rfl ?_
      refine z_iload_n X 1 dX2_standsOut_18 rfl ?_
      refine z_iald2 (v := m (100 + c)) X dX2_standsOut_19 K1 (vp_in_nI (n := c) (by omega) (by omega)) ((congrArg (win 100 40 m) (nI_clamp (n := c) (by omega))).trans (win_at (k := c) (by omega))) ?_
      refine z_istore_n (ls' := [(2, .int (m (100 + c))), (0, .ref i), (1, .int (nI c))]) X dX2_standsOut_20 (by decide) rfl ?_
      refine z_iload_n X 2 dX2_standsOut_21 rfl ?_
      refine z_if_le X 36 dX2_standsOut_22 (by decide) (fun zc3 => ?_) (fun zc3 => ?_)
      · try replace zc3 := (nI_leI (a := c) (b := 0) (by omega) (by omega)).mp zc3
        refine z_iload_n X 0 dX2_standsOut_36 rfl ?_
        refine z_istore_n (ls' := [(3, .int (m (100 + c))), (2, .int (m (100 + c))), (0, .ref i), (1, .int (nI c))]) X dX2_standsOut_37 (by decide) rfl ?_
        refine z_iload_n X 3 dX2_standsOut_38 rfl ?_
        refine z_iconst (v := 1) X dX2_standsOut_39 (by decide) ?_
        refine z_iadd X dX2_standsOut_40 ?_
        refine z_toe (y := nI (c + 1)) (nI_add (c) (1)) ?_
        refine z_aload_n X 2 dX2_standsOut_41 rfl ?_
        refine z_get X fl_X2_45_2 dX2_standsOut_42 K0 rfl ?_
        refine z_icmp_ge X 59 dX2_standsOut_45 (by decide) (fun zc4 => ?_) (fun zc4 => ?_)
        · try replace zc4 := (nI_leI (a := len) (b := c + 1) (by omega) (by omega)).mp zc4
          refine z_iload_n X 1 dX2_standsOut_59 rfl ?_
          refine z_istore (ls' := [(4, .int (m (100 + c))), (3, .int (m (100 + c))), (2, .int (m (100 + c))), (0, .ref i), (1, .int (nI c))]) X dX2_standsOut_60 (by decide) rfl ?_
          refine z_iconst (v := 2) X dX2_standsOut_62 (by decide) ?_
          refine z_iload_n X 2 dX2_standsOut_63 rfl ?_
          refine z_imul X dX2_standsOut_64 ?_
          refine z_iload_n X 1 dX2_standsOut_65 rfl ?_
          refine z_isub X dX2_standsOut_66 ?_
          refine z_iload X 0 dX2_standsOut_67 rfl ?_
          refine z_isub X dX2_standsOut_69 ?_
          refine z_iret X E dX2_standsOut_70 (by omega) (by omega) ⟨?_, ?_, ?_⟩
          · first | rw [soR, if_pos (by omega), if_pos (by omega)] | rw [soR, if_pos (by omega), if_neg (by omega)] | rw [soR, if_neg (by omega), if_pos (by omega)] | rw [soR, if_neg (by omega), if_neg (by omega)]
          · first | rfl | (funext zz; simp only [va_up]; (repeat' split) <;> first | rfl | (exfalso; omega) | simp_all)
          · rfl
        · try replace zc4 := mt (nI_leI (a := len) (b := c + 1) (by omega) (by omega)).mpr zc4
          refine z_aload_n X 2 dX2_standsOut_48 rfl ?_
          refine z_get X fl_X2_9_2 dX2_standsOut_49 K0 rfl ?_
          refine z_iload_n X 3 dX2_standsOut_52 rfl ?_
          refine z_iconst (v := 1) X dX2_standsOut_53 (by decide) ?_
          refine z_iadd X dX2_standsOut_54 ?_
          refine z_toe (y := nI (c + 1)) (nI_add (c) (1)) ?_
          refine z_iald2 (v := m (100 + (c + 1))) X dX2_standsOut_55 K1 (vp_in_nI (n := c + 1) (by omega) (by omega)) ((congrArg (win 100 40 m) (nI_clamp (n := c + 1) (by omega))).trans (win_at (k := c + 1) (by omega))) ?_
          refine z_toe (y := m (100 + c + 1)) (congrArg m (by omega)) ?_
          refine z_goto X 60 dX2_standsOut_56 (by decide) ?_
          refine z_istore (ls' := [(4, .int (m (100 + c + 1))), (3, .int (m (100 + c))), (2, .int (m (100 + c))), (0, .ref i), (1, .int (nI c))]) X dX2_standsOut_60 (by decide) rfl ?_
          refine z_iconst (v := 2) X dX2_standsOut_62 (by decide) ?_
          refine z_iload_n X 2 dX2_standsOut_63 rfl ?_
          refine z_imul X dX2_standsOut_64 ?_
          refine z_iload_n X 1 dX2_standsOut_65 rfl ?_
          refine z_isub X dX2_standsOut_66 ?_
          refine z_iload X 0 dX2_standsOut_67 rfl ?_
          refine z_isub X dX2_standsOut_69 ?_
          refine z_iret X E dX2_standsOut_70 (by omega) (by omega) ⟨?_, ?_, ?_⟩
          · first | rw [soR, if_pos (by omega), if_pos (by omega)] | rw [soR, if_pos (by omega), if_neg (by omega)] | rw [soR, if_neg (by omega), if_pos (by omega)] | rw [soR, if_neg (by omega), if_neg (by omega)]
          · first | rfl | (funext zz; simp only [va_up]; (repeat' split) <;> first | rfl | (exfalso; omega) | simp_all)
          · rfl
      · try replace zc3 := mt (nI_leI (a := c) (b := 0) (by omega) (by omega)).mpr zc3
        refine z_aload_n X 1 dX2_standsOut_25 rfl ?_
        refine z_get X fl_X2_9_2 dX2_standsOut_26 K0 rfl ?_
        refine z_iload_n X 2 dX2_standsOut_29 rfl ?_
        refine z_iconst (v := 1) X dX2_standsOut_30 (by decide) ?_
        refine z_isub X dX2_standsOut_31 ?_
        refine z_toe (y := nI (c - 1)) (pk_sub (a := c) (b := 1) (by omega)) ?_
        refine z_iald2 (v := m (100 + (c - 1))) X dX2_standsOut_32 K1 (vp_in_nI (n := c - 1) (by omega) (by omega)) ((congrArg (win 100 40 m) (nI_clamp (n := c - 1) (by omega))).trans (win_at (k := c - 1) (by omega))) ?_
        refine z_toe (y := m (100 + c - 1)) (congrArg m (by omega)) ?_
        refine z_goto X 37 dX2_standsOut_33 (by decide) ?_
        refine z_istore_n (ls' := [(3, .int (m (100 + c - 1))), (2, .int (m (100 + c))), (0, .ref i), (1, .int (nI c))]) X dX2_standsOut_37 (by decide) rfl ?_
        refine z_iload_n X 3 dX2_standsOut_38 rfl ?_
        refine z_iconst (v := 1) X dX2_standsOut_39 (by decide) ?_
        refine z_iadd X dX2_standsOut_40 ?_
        refine z_toe (y := nI (c + 1)) (nI_add (c) (1)) ?_
        refine z_aload_n X 2 dX2_standsOut_41 rfl ?_
        refine z_get X fl_X2_45_2 dX2_standsOut_42 K0 rfl ?_
        refine z_icmp_ge X 59 dX2_standsOut_45 (by decide) (fun zc5 => ?_) (fun zc5 => ?_)
        · try replace zc5 := (nI_leI (a := len) (b := c + 1) (by omega) (by omega)).mp zc5
          refine z_iload_n X 1 dX2_standsOut_59 rfl ?_
          refine z_istore (ls' := [(4, .int (m (100 + c))), (3, .int (m (100 + c - 1))), (2, .int (m (100 + c))), (0, .ref i), (1, .int (nI c))]) X dX2_standsOut_60 (by decide) rfl ?_
          refine z_iconst (v := 2) X dX2_standsOut_62 (by decide) ?_
          refine z_iload_n X 2 dX2_standsOut_63 rfl ?_
          refine z_imul X dX2_standsOut_64 ?_
          refine z_iload_n X 1 dX2_standsOut_65 rfl ?_
          refine z_isub X dX2_standsOut_66 ?_
          refine z_iload X 0 dX2_standsOut_67 rfl ?_
          refine z_isub X dX2_standsOut_69 ?_
          refine z_iret X E dX2_standsOut_70 (by omega) (by omega) ⟨?_, ?_, ?_⟩
          · first | rw [soR, if_pos (by omega), if_pos (by omega)] | rw [soR, if_pos (by omega), if_neg (by omega)] | rw [soR, if_neg (by omega), if_pos (by omega)] | rw [soR, if_neg (by omega), if_neg (by omega)]
          · first | rfl | (funext zz; simp only [va_up]; (repeat' split) <;> first | rfl | (exfalso; omega) | simp_all)
          · rfl
        · try replace zc5 := mt (nI_leI (a := len) (b := c + 1) (by omega) (by omega)).mpr zc5
          refine z_aload_n X 2 dX2_standsOut_48 rfl ?_
          refine z_get X fl_X2_9_2 dX2_standsOut_49 K0 rfl ?_
          refine z_iload_n X 3 dX2_standsOut_52 rfl ?_
          refine z_iconst (v := 1) X dX2_standsOut_53 (by decide) ?_
          refine z_iadd X dX2_standsOut_54 ?_
          refine z_toe (y := nI (c + 1)) (nI_add (c) (1)) ?_
          refine z_iald2 (v := m (100 + (c + 1))) X dX2_standsOut_55 K1 (vp_in_nI (n := c + 1) (by omega) (by omega)) ((congrArg (win 100 40 m) (nI_clamp (n := c + 1) (by omega))).trans (win_at (k := c + 1) (by omega))) ?_
          refine z_toe (y := m (100 + c + 1)) (congrArg m (by omega)) ?_
          refine z_goto X 60 dX2_standsOut_56 (by decide) ?_
          refine z_istore (ls' := [(4, .int (m (100 + c + 1))), (3, .int (m (100 + c - 1))), (2, .int (m (100 + c))), (0, .ref i), (1, .int (nI c))]) X dX2_standsOut_60 (by decide) rfl ?_
          refine z_iconst (v := 2) X dX2_standsOut_62 (by decide) ?_
          refine z_iload_n X 2 dX2_standsOut_63 rfl ?_
          refine z_imul X dX2_standsOut_64 ?_
          refine z_iload_n X 1 dX2_standsOut_65 rfl ?_
          refine z_isub X dX2_standsOut_66 ?_
          refine z_iload X 0 dX2_standsOut_67 rfl ?_
          refine z_isub X dX2_standsOut_69 ?_
          refine z_iret X E dX2_standsOut_70 (by omega) (by omega) ⟨?_, ?_, ?_⟩
          · first | rw [soR, if_pos (by omega), if_pos (by omega)] | rw [soR, if_pos (by omega), if_neg (by omega)] | rw [soR, if_neg (by omega), if_pos (by omega)] | rw [soR, if_neg (by omega), if_neg (by omega)]
          · first | rfl | (funext zz; simp only [va_up]; (repeat' split) <;> first | rfl | (exfalso; omega) | simp_all)
          · rfl
    · try replace zc2 := mt (nI_ltI (a := c) (b := len) (by omega) (by omega)).mpr zc2
      omega
set_option maxHeartbeats 4000000 in
set_option maxRecDepth 100000 in
theorem c_saltOfAll {κ : Wc} {l : Launch} {h : Mm} {n : Nat} {i : Nat} {len : Nat} {m : Nat → Int32} {now : Int32} {dd : Int32} {dr : Int32} {cc : Int32} {on : Int32} {cold : Int32} {wind : Int32} (K0 : h i = some (.inr (2, [.ref (i + 1), .ref (i + 2), .ref (i + 3), .ref (i + 4), .ref (i + 5), .int (nI len), .int now, .int dd, .int dr, .int cc, .int on, .int cold, .int wind]))) (K1 : h (i + 2) = arI κ 40 (win 140 40 m)) (q3 : len ≤ 40) : Con κ l yX2_saltOfAll cX2_saltOfAll 3 (some .int) 1 0 0 [.ref i] h n (fun q h' n' => q = some (.int (saltR m len)) ∧ h' = h ∧ n' = n) := by
  refine Con.of mk_X2_saltOfAll (Nat.le_of_ble_eq_true rfl) (fun G hG X E => ?_)
  subst hG
  refine z_ls (ls' := [(0, .ref i)]) rfl ?_
  refine z_iconst (v := 0) X dX2_saltOfAll_0 (by decide) ?_
  refine z_istore_n (ls' := [(1, .int 0), (0, .ref i)]) X dX2_saltOfAll_1 (by decide) rfl ?_
  refine z_iconst (v := 0) X dX2_saltOfAll_2 (by decide) ?_
  refine z_istore_n (ls' := [(2, .int 0), (1, .int 0), (0, .ref i)]) X dX2_saltOfAll_3 (by decide) rfl ?_
  have L4 : ∀ (jj : Nat)  (j : Nat), (len - j < jj) → (hj : j ≤ len) → Z κ G 3 4 [(0, .ref i), (1, .int (sumN (fun c => m (140 + c)) j)), (2, .int (nI j))] [] h n 0 (0) := by
    intro jj
    induction jj with
    | zero => intro  j hmu; exact absurd hmu (Nat.not_lt_zero _)
    | succ jj ih4 =>
      intro  j hmu  hj
      refine z_iload_n X 2 dX2_saltOfAll_4 rfl ?_
      refine z_aload_n X 0 dX2_saltOfAll_5 rfl ?_
      refine z_get X fl_X2_45_2 dX2_saltOfAll_6 K0 rfl ?_
      refine z_icmp_ge X 27 dX2_saltOfAll_9 (by decide) (fun zc3 => ?_) (fun zc3 => ?_)
      · try replace zc3 := (nI_leI (a := len) (b := j) (by omega) (by omega)).mp zc3
        refine z_iload_n X 1 dX2_saltOfAll_27 rfl ?_
        refine z_iret X E dX2_saltOfAll_28 (by omega) (by omega) ⟨?_, ?_, ?_⟩
        · rw [saltR, show j = len by omega]
        · first | rfl | (funext zz; simp only [va_up]; (repeat' split) <;> first | rfl | (exfalso; omega) | simp_all)
        · rfl
      · try replace zc3 := mt (nI_leI (a := len) (b := j) (by omega) (by omega)).mpr zc3
        refine z_iload_n X 1 dX2_saltOfAll_12 rfl ?_
        refine z_aload_n X 0 dX2_saltOfAll_13 rfl ?_
        refine z_get X fl_X2_15_2 dX2_saltOfAll_14 K0 rfl ?_
        refine z_iload_n X 2 dX2_saltOfAll_17 rfl ?_
        refine z_iald2 (v := m (140 + j)) X dX2_saltOfAll_18 K1 (vp_in_nI (n := j) (by omega) (by omega)) ((congrArg (win 140 40 m) (nI_clamp (n := j) (by omega))).trans (win_at (k := j) (by omega))) ?_
        refine z_iadd X dX2_saltOfAll_19 ?_
        refine z_istore_n (ls' := [(1, .int ((sumN (fun c => m (140 + c)) j) + (m (140 + j)))), (0, .ref i), (2, .int (nI j))]) X dX2_saltOfAll_20 (by decide) rfl ?_
        refine z_iinc (v := nI (j + 1)) (ls' := [(2, .int (nI (j + 1))), (1, .int ((sumN (fun c => m (140 + c)) j) + (m (140 + j)))), (0, .ref i)]) X 2 dX2_saltOfAll_21 rfl (nI_1 (j)) (by decide) rfl ?_
        refine z_goto X 4 dX2_saltOfAll_24 (by decide) ?_
        refine z_sub (ls' := [(0, .ref i), (1, .int ((sumN (fun c => m (140 + c)) j) + (m (140 + j)))), (2, .int (nI (j + 1)))]) [2, 1, 0] rfl ?_
        exact ih4 (j + 1) (by omega) (by first | assumption | rfl | omega)
  refine z_sub (ls' := [(0, .ref i), (1, .int 0), (2, .int 0)]) [2, 1, 0] rfl ?_
  exact L4 _ 0 (Nat.lt_succ_self _) (by first | assumption | rfl | omega)
set_option maxHeartbeats 4000000 in
set_option maxRecDepth 100000 in
theorem c_massOfAll {κ : Wc} {l : Launch} {h : Mm} {n : Nat} {i : Nat} {len : Nat} {m : Nat → Int32} {now : Int32} {dd : Int32} {dr : Int32} {cc : Int32} {on : Int32} {cold : Int32} {wind : Int32} (K0 : h i = some (.inr (2, [.ref (i + 1), .ref (i + 2), .ref (i + 3), .ref (i + 4), .ref (i + 5), .int (nI len), .int now, .int dd, .int dr, .int cc, .int on, .int cold, .int wind]))) (K1 : h (i + 1) = arI κ 40 (win 100 40 m)) (K2 : h (i + 2) = arI κ 40 (win 140 40 m)) (q3 : len ≤ 40) : Con κ l yX2_massOfAll cX2_massOfAll 3 (some .int) 2 0 0 [.ref i] h n (fun q h' n' => q = some (.int (massR m len)) ∧ h' = h ∧ n' = n) := by
  refine Con.of mk_X2_massOfAll (Nat.le_of_ble_eq_true rfl) (fun G hG X E => ?_)
  subst hG
  refine z_ls (ls' := [(0, .ref i)]) rfl ?_
  refine z_iconst (v := 0) X dX2_massOfAll_0 (by decide) ?_
  refine z_istore_n (ls' := [(1, .int 0), (0, .ref i)]) X dX2_massOfAll_1 (by decide) rfl ?_
  refine z_iconst (v := 0) X dX2_massOfAll_2 (by decide) ?_
  refine z_istore_n (ls' := [(2, .int 0), (1, .int 0), (0, .ref i)]) X dX2_massOfAll_3 (by decide) rfl ?_
  have L4 : ∀ (jj : Nat)  (j : Nat), (len - j < jj) → (hj : j ≤ len) → Z κ G 3 4 [(0, .ref i), (1, .int (sumN (fun c => m (100 + c)) j)), (2, .int (nI j))] [] h n 0 (0) := by
    intro jj
    induction jj with
    | zero => intro  j hmu; exact absurd hmu (Nat.not_lt_zero _)
    | succ jj ih4 =>
      intro  j hmu  hj
      refine z_iload_n X 2 dX2_massOfAll_4 rfl ?_
      refine z_aload_n X 0 dX2_massOfAll_5 rfl ?_
      refine z_get X fl_X2_45_2 dX2_massOfAll_6 K0 rfl ?_
      refine z_icmp_ge X 27 dX2_massOfAll_9 (by decide) (fun zc4 => ?_) (fun zc4 => ?_)
      · try replace zc4 := (nI_leI (a := len) (b := j) (by omega) (by omega)).mp zc4
        refine z_iload_n X 1 dX2_massOfAll_27 rfl ?_
        refine z_aload_n X 0 dX2_massOfAll_28 rfl ?_
        refine z_callV X (c_saltOfAll (κ := κ) (n := n) (i := (i)) (len := (len)) (now := (now)) (dd := (dd)) (dr := (dr)) (cc := (cc)) (on := (on)) (cold := (cold)) (wind := (wind)) K0 K2 (by first | assumption | omega)) mk_X2_saltOfAll dX2_massOfAll_29 wd_635 wd_636 wd_637 rfl K0 rfl rfl rfl (Nat.le_of_ble_eq_true rfl) (Nat.le_of_ble_eq_true rfl) (Nat.le_of_ble_eq_true rfl) (by omega) (by omega) (fun q zh5 zm7 zp8 => ?_)
        obtain ⟨rfl, ze6, zn9⟩ := zp8
        subst zm7
        subst zh5
        refine z_st (st' := [.int (saltR m len), .int (sumN (fun c => m (100 + c)) j)]) rfl ?_
        refine z_sipush (v := 1000) X dX2_massOfAll_32 (by decide) ?_
        refine z_idiv X dX2_massOfAll_35 (by decide) ?_
        refine z_iadd X dX2_massOfAll_36 ?_
        refine z_iret X E dX2_massOfAll_37 (by omega) (by omega) ⟨?_, ?_, ?_⟩
        · rw [massR, show j = len by omega]
        · first | rfl | (funext zz; simp only [va_up]; (repeat' split) <;> first | rfl | (exfalso; omega) | simp_all)
        · rfl
      · try replace zc4 := mt (nI_leI (a := len) (b := j) (by omega) (by omega)).mpr zc4
        refine z_iload_n X 1 dX2_massOfAll_12 rfl ?_
        refine z_aload_n X 0 dX2_massOfAll_13 rfl ?_
        refine z_get X fl_X2_9_2 dX2_massOfAll_14 K0 rfl ?_
        refine z_iload_n X 2 dX2_massOfAll_17 rfl ?_
        refine z_iald2 (v := m (100 + j)) X dX2_massOfAll_18 K1 (vp_in_nI (n := j) (by omega) (by omega)) ((congrArg (win 100 40 m) (nI_clamp (n := j) (by omega))).trans (win_at (k := j) (by omega))) ?_
        refine z_iadd X dX2_massOfAll_19 ?_
        refine z_istore_n (ls' := [(1, .int ((sumN (fun c => m (100 + c)) j) + (m (100 + j)))), (0, .ref i), (2, .int (nI j))]) X dX2_massOfAll_20 (by decide) rfl ?_
        refine z_iinc (v := nI (j + 1)) (ls' := [(2, .int (nI (j + 1))), (1, .int ((sumN (fun c => m (100 + c)) j) + (m (100 + j)))), (0, .ref i)]) X 2 dX2_massOfAll_21 rfl (nI_1 (j)) (by decide) rfl ?_
        refine z_goto X 4 dX2_massOfAll_24 (by decide) ?_
        refine z_sub (ls' := [(0, .ref i), (1, .int ((sumN (fun c => m (100 + c)) j) + (m (100 + j)))), (2, .int (nI (j + 1)))]) [2, 1, 0] rfl ?_
        exact ih4 (j + 1) (by omega) (by first | assumption | rfl | omega)
  refine z_sub (ls' := [(0, .ref i), (1, .int 0), (2, .int 0)]) [2, 1, 0] rfl ?_
  exact L4 _ 0 (Nat.lt_succ_self _) (by first | assumption | rfl | omega)
set_option maxHeartbeats 4000000 in
set_option maxRecDepth 100000 in
theorem c_ringsInto {κ : Wc} {l : Launch} {h : Mm} {n : Nat} {i : Nat} {len : Nat} {m : Nat → Int32} {now : Int32} {dd : Int32} {dr : Int32} {cc : Int32} {on : Int32} {cold : Int32} {wind : Int32} {r : Nat} {rs : Int32} {bt : Int32} {g : Nat → Int32} (K0 : h i = some (.inr (2, [.ref (i + 1), .ref (i + 2), .ref (i + 3), .ref (i + 4), .ref (i + 5), .int (nI len), .int now, .int dd, .int dr, .int cc, .int on, .int cold, .int wind]))) (K1 : h (i + 1) = arI κ 40 (win 100 40 m)) (K2 : h r = some (.inr (6, [.ref (r + 1), .int rs, .int bt]))) (K3 : h (r + 1) = arI κ 40 g) (q3 : len ≤ 40) (p2 : i + 5 < r ∨ r + 1 < i) : Con κ l yX2_ringsInto cX2_ringsInto 6 (some .int) 2 0 0 [.ref i, .ref r] h n (fun q h' n' => ∃ g' : Nat → Int32, q = some (.int (nI (rn m len len))) ∧ h' = va_up (va_up h r (some (.inr (6, [.ref (r + 1), .int (nI (rn m len len)), .int bt])))) (r + 1) (arI κ 40 g') ∧ n' = n ∧ rgOk g' (rl m len len)) := by
  refine Con.of mk_X2_ringsInto (Nat.le_of_ble_eq_true rfl) (fun G hG X E => ?_)
  subst hG
  refine z_ls (ls' := [(0, .ref i), (1, .ref r)]) rfl ?_
  refine z_aload_n X 1 dX2_ringsInto_0 rfl ?_
  refine z_callV X (c_Row_clear (κ := κ) (n := n) (r := (r)) (sz := (rs)) (bt := (bt)) K2 ) mk_X6_clear dX2_ringsInto_1 wd_647 wd_584 wd_585 rfl K2 rfl rfl rfl (Nat.le_of_ble_eq_true rfl) (Nat.le_of_ble_eq_true rfl) (Nat.le_of_ble_eq_true rfl) (by omega) (by omega) (fun q zh1 zm3 zp4 => ?_)
  obtain ⟨rfl, ze2, zn5⟩ := zp4
  subst zm3
  refine z_st (st' := []) rfl ?_
  have zK6 : zh1 i = some (.inr (2, [.ref (i + 1), .ref (i + 2), .ref (i + 3), .ref (i + 4), .ref (i + 5), .int (nI len), .int now, .int dd, .int dr, .int cc, .int on, .int cold, .int wind])) := by rw [ze2]; rw [va_up_ne _ _ (show i ≠ r by omega)]; exact K0
  have zK7 : zh1 (i + 1) = arI κ 40 (win 100 40 m) := by rw [ze2]; rw [va_up_ne _ _ (show i + 1 ≠ r by omega)]; exact K1
  have zK8 : zh1 r = some (.inr (6, [.ref (r + 1), .int 0, .int bt])) := by rw [ze2]; exact va_up_self _ _ _
  have zK9 : zh1 (r + 1) = arI κ 40 g := by rw [ze2]; rw [va_up_ne _ _ (show r + 1 ≠ r by omega)]; exact K3
  refine z_iconst (v := 0) X dX2_ringsInto_4 (by decide) ?_
  refine z_istore_n (ls' := [(2, .int 0), (0, .ref i), (1, .ref r)]) X dX2_ringsInto_5 (by decide) rfl ?_
  have L6 : ∀ (jj : Nat) (hh6 : Mm)  (j : Nat) (e : Nat → Int32), (len - j < jj) → (hh6 = va_up (va_up h r (some (.inr (6, [.ref (r + 1), .int (nI (rn m len j)), .int bt])))) (r + 1) (arI κ 40 e)) → (hj : j ≤ len) → (hg : rgOk e (rl m len j)) → Z κ G 6 6 [(0, .ref i), (1, .ref r), (2, .int (nI j))] [] hh6 n 0 (0) := by
    intro jj
    induction jj with
    | zero => intro hh6 j e hmu; exact absurd hmu (Nat.not_lt_zero _)
    | succ jj ih6 =>
      intro hh6 j e hmu he6 hj hg
      have zK10 : hh6 i = some (.inr (2, [.ref (i + 1), .ref (i + 2), .ref (i + 3), .ref (i + 4), .ref (i + 5), .int (nI len), .int now, .int dd, .int dr, .int cc, .int on, .int cold, .int wind])) := by rw [he6]; rw [va_up_ne _ _ (show i ≠ r + 1 by omega)]; rw [va_up_ne _ _ (show i ≠ r by omega)]; exact K0
      have zK11 : hh6 (i + 1) = arI κ 40 (win 100 40 m) := by rw [he6]; rw [va_up_ne _ _ (show i + 1 ≠ r + 1 by omega)]; rw [va_up_ne _ _ (show i + 1 ≠ r by omega)]; exact K1
      have zK12 : hh6 r = some (.inr (6, [.ref (r + 1), .int (nI (rn m len j)), .int bt])) := by rw [he6]; rw [va_up_ne _ _ (show r ≠ r + 1 by omega)]; exact va_up_self _ _ _
      have zK13 : hh6 (r + 1) = arI κ 40 e := by rw [he6]; exact va_up_self _ _ _
      have hrl := rn_le m len j
      refine z_iload_n X 2 dX2_ringsInto_6 rfl ?_
      refine z_aload_n X 0 dX2_ringsInto_7 rfl ?_
      refine z_get X fl_X2_45_2 dX2_ringsInto_8 zK10 rfl ?_
      refine z_icmp_ge X 95 dX2_ringsInto_11 (by decide) (fun zc14 => ?_) (fun zc14 => ?_)
      · try replace zc14 := (nI_leI (a := len) (b := j) (by omega) (by omega)).mp zc14
        refine z_aload_n X 1 dX2_ringsInto_95 rfl ?_
        refine z_get X fl_X2_145_6 dX2_ringsInto_96 zK12 rfl ?_
        refine z_iret X E dX2_ringsInto_99 (by omega) (by omega) ⟨e, ?_, ?_, ?_, ?_⟩
        · rw [show j = len by omega]
        · (have hil : j = len := by omega); subst hil; funext zz; by_cases zq1 : zz = r + 1; (rw [zq1, va_up_self]; exact zK13); by_cases zq0 : zz = r; (rw [zq0, va_up_ne _ _ (show r ≠ r + 1 by omega), va_up_self]; exact zK12); rw [va_up_ne _ _ zq1, va_up_ne _ _ zq0]; rw [he6]; simp only [va_up, if_neg zq0, if_neg zq1]
        · rfl
        · (have hil : j = len := by omega); subst hil; exact hg
      · try replace zc14 := mt (nI_leI (a := len) (b := j) (by omega) (by omega)).mpr zc14
        refine z_aload_n X 0 dX2_ringsInto_14 rfl ?_
        refine z_iload_n X 2 dX2_ringsInto_15 rfl ?_
        refine z_callV X (c_standsOut (κ := κ) (n := n) (i := (i)) (len := (len)) (now := (now)) (dd := (dd)) (dr := (dr)) (cc := (cc)) (on := (on)) (cold := (cold)) (wind := (wind)) (c := (j)) zK10 zK11 (by first | assumption | omega) (by first | assumption | omega)) mk_X2_standsOut dX2_ringsInto_16 wd_648 wd_275 wd_276 rfl zK10 rfl rfl rfl (Nat.le_of_ble_eq_true rfl) (Nat.le_of_ble_eq_true rfl) (Nat.le_of_ble_eq_true rfl) (by omega) (by omega) (fun q zh15 zm17 zp18 => ?_)
        obtain ⟨rfl, ze16, zn19⟩ := zp18
        subst zm17
        subst zh15
        refine z_st (st' := [.int (soR m len j)]) rfl ?_
        refine z_istore_n (ls' := [(3, .int (soR m len j)), (0, .ref i), (1, .ref r), (2, .int (nI j))]) X dX2_ringsInto_19 (by decide) rfl ?_
        refine z_iload_n X 3 dX2_ringsInto_20 rfl ?_
        refine z_if_eq X 35 dX2_ringsInto_21 (by decide) (fun zc20 => ?_) (fun zc20 => ?_)
        · try replace zc20 := (nI_eq (a := j) (b := 0) (by omega) (by omega)).mp zc20
          refine z_iconst (v := 1) X dX2_ringsInto_35 (by decide) ?_
          refine z_goto X 40 dX2_ringsInto_36 (by decide) ?_
          refine z_istore (ls' := [(4, .int 1), (3, .int (soR m len j)), (0, .ref i), (1, .ref r), (2, .int (nI j))]) X dX2_ringsInto_40 (by decide) rfl ?_
          refine z_iload_n X 4 dX2_ringsInto_42 rfl ?_
          refine z_aload_n X 2 dX2_ringsInto_43 rfl ?_
          refine z_get X fl_X2_45_2 dX2_ringsInto_44 zK10 rfl ?_
          refine z_iconst (v := 1) X dX2_ringsInto_47 (by decide) ?_
          refine z_isub X dX2_ringsInto_48 ?_
          refine z_toe (y := nI (len - 1)) (pk_sub (a := len) (b := 1) (by omega)) ?_
          refine z_icmp_eq X 63 dX2_ringsInto_49 (by decide) (fun zc21 => ?_) (fun zc21 => ?_)
          · try replace zc21 := (nI_eq (a := j) (b := len - 1) (by omega) (by omega)).mp zc21
            refine z_iconst (v := 1) X dX2_ringsInto_63 (by decide) ?_
            refine z_goto X 68 dX2_ringsInto_64 (by decide) ?_
            refine z_istore (ls' := [(5, .int 1), (4, .int 1), (3, .int (soR m len j)), (0, .ref i), (1, .ref r), (2, .int (nI j))]) X dX2_ringsInto_68 (by decide) rfl ?_
            refine z_iload_n X 2 dX2_ringsInto_70 rfl ?_
            refine z_if_le X 89 dX2_ringsInto_71 (by decide) (fun zc22 => ?_) (fun zc22 => ?_)
            · refine z_iinc (v := nI (j + 1)) (ls' := [(2, .int (nI (j + 1))), (5, .int 1), (4, .int 1), (3, .int (soR m len j)), (0, .ref i), (1, .ref r)]) X 5 dX2_ringsInto_89 rfl (nI_1 (j)) (by decide) rfl ?_
              refine z_goto X 6 dX2_ringsInto_92 (by decide) ?_
              refine z_sub (ls' := [(0, .ref i), (1, .ref r), (2, .int (nI (j + 1)))]) [4, 5, 0] rfl ?_
              exact ih6 _ (j + 1) e (by omega) (by (have hr : ¬ isRing m len j := by (simp only [i_lt, i_le, show (0 : Int32).toInt = 0 by decide] at *; omega)); rw [rn_f hr]; funext zz; by_cases zq1 : zz = r + 1; (rw [zq1, va_up_self]; exact zK13); by_cases zq0 : zz = r; (rw [zq0, va_up_ne _ _ (show r ≠ r + 1 by omega), va_up_self]; exact zK12); rw [va_up_ne _ _ zq1, va_up_ne _ _ zq0]; rw [he6]; simp only [va_up, if_neg zq0, if_neg zq1]) (by first | assumption | rfl | omega) (by (have hr : ¬ isRing m len j := by (simp only [i_lt, i_le, show (0 : Int32).toInt = 0 by decide] at *; omega)); rw [rl_f hr]; exact hg)
            · refine z_iload X 1 dX2_ringsInto_74 rfl ?_
              refine z_if_eq X 89 dX2_ringsInto_76 (by decide) (fun zc23 => ?_) (fun zc23 => ?_)
              · first | exact absurd zc23 (by decide) | exact absurd (by decide) zc23
              · try replace zc23 := mt (nI_eq (a := 1) (b := 0) (by omega) (by omega)).mpr zc23
                refine z_iload X 0 dX2_ringsInto_79 rfl ?_
                refine z_if_eq X 89 dX2_ringsInto_81 (by decide) (fun zc24 => ?_) (fun zc24 => ?_)
                · first | exact absurd zc24 (by decide) | exact absurd (by decide) zc24
                · try replace zc24 := mt (nI_eq (a := 1) (b := 0) (by omega) (by omega)).mpr zc24
                  refine z_aload_n X 4 dX2_ringsInto_84 rfl ?_
                  refine z_iload_n X 5 dX2_ringsInto_85 rfl ?_
                  refine z_callV X (c_Row_add (κ := κ) (n := n) (r := (r)) (k := (rn m len j)) (bt := (bt)) (v := (nI j)) (N := (40)) (f := (e)) zK12 zK13 (by omega) (by omega)) mk_X6_add dX2_ringsInto_86 wd_649 wd_501 wd_502 rfl zK12 rfl rfl rfl (Nat.le_of_ble_eq_true rfl) (Nat.le_of_ble_eq_true rfl) (Nat.le_of_ble_eq_true rfl) (by omega) (by omega) (fun q zh25 zm27 zp28 => ?_)
                  obtain ⟨rfl, ze26, zn29⟩ := zp28
                  subst zm27
                  refine z_st (st' := []) rfl ?_
                  have zK30 : zh25 i = some (.inr (2, [.ref (i + 1), .ref (i + 2), .ref (i + 3), .ref (i + 4), .ref (i + 5), .int (nI len), .int now, .int dd, .int dr, .int cc, .int on, .int cold, .int wind])) := by rw [ze26]; rw [va_up_ne _ _ (show i ≠ r + 1 by omega)]; rw [va_up_ne _ _ (show i ≠ r by omega)]; exact zK10
                  have zK31 : zh25 (i + 1) = arI κ 40 (win 100 40 m) := by rw [ze26]; rw [va_up_ne _ _ (show i + 1 ≠ r + 1 by omega)]; rw [va_up_ne _ _ (show i + 1 ≠ r by omega)]; exact zK11
                  have zK32 : zh25 r = some (.inr (6, [.ref (r + 1), .int (nI ((rn m len j) + 1)), .int bt])) := by rw [ze26]; rw [va_up_ne _ _ (show r ≠ r + 1 by omega)]; exact va_up_self _ _ _
                  have zK33 : zh25 (r + 1) = arI κ 40 (upd e (rn m len j) (nI j)) := by rw [ze26]; exact va_up_self _ _ _
                  skip
                  refine z_iinc (v := nI (j + 1)) (ls' := [(2, .int (nI (j + 1))), (5, .int 1), (4, .int 1), (3, .int (soR m len j)), (0, .ref i), (1, .ref r)]) X 5 dX2_ringsInto_89 rfl (nI_1 (j)) (by decide) rfl ?_
                  refine z_goto X 6 dX2_ringsInto_92 (by decide) ?_
                  refine z_sub (ls' := [(0, .ref i), (1, .ref r), (2, .int (nI (j + 1)))]) [4, 5, 0] rfl ?_
                  exact ih6 _ (j + 1) (upd e (rn m len j) (nI j)) (by omega) (by (have hr : isRing m len j := by (simp only [i_lt, i_le, show (0 : Int32).toInt = 0 by decide] at *; omega)); rw [rn_t hr]; funext zz; by_cases zq1 : zz = r + 1; (rw [zq1, va_up_self]; exact zK33); by_cases zq0 : zz = r; (rw [zq0, va_up_ne _ _ (show r ≠ r + 1 by omega), va_up_self]; exact zK32); rw [va_up_ne _ _ zq1, va_up_ne _ _ zq0]; rw [ze26, he6]; simp only [va_up, if_neg zq0, if_neg zq1]) (by first | assumption | rfl | omega) (by (have hr : isRing m len j := by (simp only [i_lt, i_le, show (0 : Int32).toInt = 0 by decide] at *; omega)); rw [rl_t hr]; exact rgOk_add hg)
          · try replace zc21 := mt (nI_eq (a := j) (b := len - 1) (by omega) (by omega)).mpr zc21
            refine z_aload_n X 2 dX2_ringsInto_52 rfl ?_
            refine z_iload_n X 4 dX2_ringsInto_53 rfl ?_
            refine z_iconst (v := 1) X dX2_ringsInto_54 (by decide) ?_
            refine z_iadd X dX2_ringsInto_55 ?_
            refine z_toe (y := nI (j + 1)) (nI_add (j) (1)) ?_
            refine z_callV X (c_standsOut (κ := κ) (n := n) (i := (i)) (len := (len)) (now := (now)) (dd := (dd)) (dr := (dr)) (cc := (cc)) (on := (on)) (cold := (cold)) (wind := (wind)) (c := (j + 1)) zK10 zK11 (by first | assumption | omega) (by first | assumption | omega)) mk_X2_standsOut dX2_ringsInto_56 wd_648 wd_275 wd_276 rfl zK10 rfl rfl rfl (Nat.le_of_ble_eq_true rfl) (Nat.le_of_ble_eq_true rfl) (Nat.le_of_ble_eq_true rfl) (by omega) (by omega) (fun q zh34 zm36 zp37 => ?_)
            obtain ⟨rfl, ze35, zn38⟩ := zp37
            subst zm36
            subst zh34
            refine z_st (st' := [.int (soR m len (j + 1))]) rfl ?_
            refine z_iload_n X 1 dX2_ringsInto_59 rfl ?_
            refine z_icmp_ge X 67 dX2_ringsInto_60 (by decide) (fun zc39 => ?_) (fun zc39 => ?_)
            · refine z_iconst (v := 0) X dX2_ringsInto_67 (by decide) ?_
              refine z_istore (ls' := [(5, .int 0), (4, .int 1), (3, .int (soR m len j)), (0, .ref i), (1, .ref r), (2, .int (nI j))]) X dX2_ringsInto_68 (by decide) rfl ?_
              refine z_iload_n X 2 dX2_ringsInto_70 rfl ?_
              refine z_if_le X 89 dX2_ringsInto_71 (by decide) (fun zc40 => ?_) (fun zc40 => ?_)
              · refine z_iinc (v := nI (j + 1)) (ls' := [(2, .int (nI (j + 1))), (5, .int 0), (4, .int 1), (3, .int (soR m len j)), (0, .ref i), (1, .ref r)]) X 5 dX2_ringsInto_89 rfl (nI_1 (j)) (by decide) rfl ?_
                refine z_goto X 6 dX2_ringsInto_92 (by decide) ?_
                refine z_sub (ls' := [(0, .ref i), (1, .ref r), (2, .int (nI (j + 1)))]) [4, 5, 0] rfl ?_
                exact ih6 _ (j + 1) e (by omega) (by (have hr : ¬ isRing m len j := by (simp only [i_lt, i_le, show (0 : Int32).toInt = 0 by decide] at *; omega)); rw [rn_f hr]; funext zz; by_cases zq1 : zz = r + 1; (rw [zq1, va_up_self]; exact zK13); by_cases zq0 : zz = r; (rw [zq0, va_up_ne _ _ (show r ≠ r + 1 by omega), va_up_self]; exact zK12); rw [va_up_ne _ _ zq1, va_up_ne _ _ zq0]; rw [he6]; simp only [va_up, if_neg zq0, if_neg zq1]) (by first | assumption | rfl | omega) (by (have hr : ¬ isRing m len j := by (simp only [i_lt, i_le, show (0 : Int32).toInt = 0 by decide] at *; omega)); rw [rl_f hr]; exact hg)
              · refine z_iload X 1 dX2_ringsInto_74 rfl ?_
                refine z_if_eq X 89 dX2_ringsInto_76 (by decide) (fun zc41 => ?_) (fun zc41 => ?_)
                · first | exact absurd zc41 (by decide) | exact absurd (by decide) zc41
                · try replace zc41 := mt (nI_eq (a := 1) (b := 0) (by omega) (by omega)).mpr zc41
                  refine z_iload X 0 dX2_ringsInto_79 rfl ?_
                  refine z_if_eq X 89 dX2_ringsInto_81 (by decide) (fun zc42 => ?_) (fun zc42 => ?_)
                  · try replace zc42 := (nI_eq (a := 0) (b := 0) (by omega) (by omega)).mp zc42
                    refine z_iinc (v := nI (j + 1)) (ls' := [(2, .int (nI (j + 1))), (5, .int 0), (4, .int 1), (3, .int (soR m len j)), (0, .ref i), (1, .ref r)]) X 5 dX2_ringsInto_89 rfl (nI_1 (j)) (by decide) rfl ?_
                    refine z_goto X 6 dX2_ringsInto_92 (by decide) ?_
                    refine z_sub (ls' := [(0, .ref i), (1, .ref r), (2, .int (nI (j + 1)))]) [4, 5, 0] rfl ?_
                    exact ih6 _ (j + 1) e (by omega) (by (have hr : ¬ isRing m len j := by (simp only [i_lt, i_le, show (0 : Int32).toInt = 0 by decide] at *; omega)); rw [rn_f hr]; funext zz; by_cases zq1 : zz = r + 1; (rw [zq1, va_up_self]; exact zK13); by_cases zq0 : zz = r; (rw [zq0, va_up_ne _ _ (show r ≠ r + 1 by omega), va_up_self]; exact zK12); rw [va_up_ne _ _ zq1, va_up_ne _ _ zq0]; rw [he6]; simp only [va_up, if_neg zq0, if_neg zq1]) (by first | assumption | rfl | omega) (by (have hr : ¬ isRing m len j := by (simp only [i_lt, i_le, show (0 : Int32).toInt = 0 by decide] at *; omega)); rw [rl_f hr]; exact hg)
                  · first | exact absurd zc42 (by decide) | exact absurd (by decide) zc42
            · refine z_iconst (v := 1) X dX2_ringsInto_63 (by decide) ?_
              refine z_goto X 68 dX2_ringsInto_64 (by decide) ?_
              refine z_istore (ls' := [(5, .int 1), (4, .int 1), (3, .int (soR m len j)), (0, .ref i), (1, .ref r), (2, .int (nI j))]) X dX2_ringsInto_68 (by decide) rfl ?_
              refine z_iload_n X 2 dX2_ringsInto_70 rfl ?_
              refine z_if_le X 89 dX2_ringsInto_71 (by decide) (fun zc43 => ?_) (fun zc43 => ?_)
              · refine z_iinc (v := nI (j + 1)) (ls' := [(2, .int (nI (j + 1))), (5, .int 1), (4, .int 1), (3, .int (soR m len j)), (0, .ref i), (1, .ref r)]) X 5 dX2_ringsInto_89 rfl (nI_1 (j)) (by decide) rfl ?_
                refine z_goto X 6 dX2_ringsInto_92 (by decide) ?_
                refine z_sub (ls' := [(0, .ref i), (1, .ref r), (2, .int (nI (j + 1)))]) [4, 5, 0] rfl ?_
                exact ih6 _ (j + 1) e (by omega) (by (have hr : ¬ isRing m len j := by (simp only [i_lt, i_le, show (0 : Int32).toInt = 0 by decide] at *; omega)); rw [rn_f hr]; funext zz; by_cases zq1 : zz = r + 1; (rw [zq1, va_up_self]; exact zK13); by_cases zq0 : zz = r; (rw [zq0, va_up_ne _ _ (show r ≠ r + 1 by omega), va_up_self]; exact zK12); rw [va_up_ne _ _ zq1, va_up_ne _ _ zq0]; rw [he6]; simp only [va_up, if_neg zq0, if_neg zq1]) (by first | assumption | rfl | omega) (by (have hr : ¬ isRing m len j := by (simp only [i_lt, i_le, show (0 : Int32).toInt = 0 by decide] at *; omega)); rw [rl_f hr]; exact hg)
              · refine z_iload X 1 dX2_ringsInto_74 rfl ?_
                refine z_if_eq X 89 dX2_ringsInto_76 (by decide) (fun zc44 => ?_) (fun zc44 => ?_)
                · first | exact absurd zc44 (by decide) | exact absurd (by decide) zc44
                · try replace zc44 := mt (nI_eq (a := 1) (b := 0) (by omega) (by omega)).mpr zc44
                  refine z_iload X 0 dX2_ringsInto_79 rfl ?_
                  refine z_if_eq X 89 dX2_ringsInto_81 (by decide) (fun zc45 => ?_) (fun zc45 => ?_)
                  · first | exact absurd zc45 (by decide) | exact absurd (by decide) zc45
                  · try replace zc45 := mt (nI_eq (a := 1) (b := 0) (by omega) (by omega)).mpr zc45
                    refine z_aload_n X 4 dX2_ringsInto_84 rfl ?_
                    refine z_iload_n X 5 dX2_ringsInto_85 rfl ?_
                    refine z_callV X (c_Row_add (κ := κ) (n := n) (r := (r)) (k := (rn m len j)) (bt := (bt)) (v := (nI j)) (N := (40)) (f := (e)) zK12 zK13 (by omega) (by omega)) mk_X6_add dX2_ringsInto_86 wd_649 wd_501 wd_502 rfl zK12 rfl rfl rfl (Nat.le_of_ble_eq_true rfl) (Nat.le_of_ble_eq_true rfl) (Nat.le_of_ble_eq_true rfl) (by omega) (by omega) (fun q zh46 zm48 zp49 => ?_)
                    obtain ⟨rfl, ze47, zn50⟩ := zp49
                    subst zm48
                    refine z_st (st' := []) rfl ?_
                    have zK51 : zh46 i = some (.inr (2, [.ref (i + 1), .ref (i + 2), .ref (i + 3), .ref (i + 4), .ref (i + 5), .int (nI len), .int now, .int dd, .int dr, .int cc, .int on, .int cold, .int wind])) := by rw [ze47]; rw [va_up_ne _ _ (show i ≠ r + 1 by omega)]; rw [va_up_ne _ _ (show i ≠ r by omega)]; exact zK10
                    have zK52 : zh46 (i + 1) = arI κ 40 (win 100 40 m) := by rw [ze47]; rw [va_up_ne _ _ (show i + 1 ≠ r + 1 by omega)]; rw [va_up_ne _ _ (show i + 1 ≠ r by omega)]; exact zK11
                    have zK53 : zh46 r = some (.inr (6, [.ref (r + 1), .int (nI ((rn m len j) + 1)), .int bt])) := by rw [ze47]; rw [va_up_ne _ _ (show r ≠ r + 1 by omega)]; exact va_up_self _ _ _
                    have zK54 : zh46 (r + 1) = arI κ 40 (upd e (rn m len j) (nI j)) := by rw [ze47]; exact va_up_self _ _ _
                    skip
                    refine z_iinc (v := nI (j + 1)) (ls' := [(2, .int (nI (j + 1))), (5, .int 1), (4, .int 1), (3, .int (soR m len j)), (0, .ref i), (1, .ref r)]) X 5 dX2_ringsInto_89 rfl (nI_1 (j)) (by decide) rfl ?_
                    refine z_goto X 6 dX2_ringsInto_92 (by decide) ?_
                    refine z_sub (ls' := [(0, .ref i), (1, .ref r), (2, .int (nI (j + 1)))]) [4, 5, 0] rfl ?_
                    exact ih6 _ (j + 1) (upd e (rn m len j) (nI j)) (by omega) (by (have hr : isRing m len j := by (simp only [i_lt, i_le, show (0 : Int32).toInt = 0 by decide] at *; omega)); rw [rn_t hr]; funext zz; by_cases zq1 : zz = r + 1; (rw [zq1, va_up_self]; exact zK54); by_cases zq0 : zz = r; (rw [zq0, va_up_ne _ _ (show r ≠ r + 1 by omega), va_up_self]; exact zK53); rw [va_up_ne _ _ zq1, va_up_ne _ _ zq0]; rw [ze47, he6]; simp only [va_up, if_neg zq0, if_neg zq1]) (by first | assumption | rfl | omega) (by (have hr : isRing m len j := by (simp only [i_lt, i_le, show (0 : Int32).toInt = 0 by decide] at *; omega)); rw [rl_t hr]; exact rgOk_add hg)
        · try replace zc20 := mt (nI_eq (a := j) (b := 0) (by omega) (by omega)).mpr zc20
          refine z_aload_n X 1 dX2_ringsInto_24 rfl ?_
          refine z_iload_n X 3 dX2_ringsInto_25 rfl ?_
          refine z_iconst (v := 1) X dX2_ringsInto_26 (by decide) ?_
          refine z_isub X dX2_ringsInto_27 ?_
          refine z_toe (y := nI (j - 1)) (pk_sub (a := j) (b := 1) (by omega)) ?_
          refine z_callV X (c_standsOut (κ := κ) (n := n) (i := (i)) (len := (len)) (now := (now)) (dd := (dd)) (dr := (dr)) (cc := (cc)) (on := (on)) (cold := (cold)) (wind := (wind)) (c := (j - 1)) zK10 zK11 (by first | assumption | omega) (by first | assumption | omega)) mk_X2_standsOut dX2_ringsInto_28 wd_648 wd_275 wd_276 rfl zK10 rfl rfl rfl (Nat.le_of_ble_eq_true rfl) (Nat.le_of_ble_eq_true rfl) (Nat.le_of_ble_eq_true rfl) (by omega) (by omega) (fun q zh55 zm57 zp58 => ?_)
          obtain ⟨rfl, ze56, zn59⟩ := zp58
          subst zm57
          subst zh55
          refine z_st (st' := [.int (soR m len (j - 1))]) rfl ?_
          refine z_iload_n X 0 dX2_ringsInto_31 rfl ?_
          refine z_icmp_ge X 39 dX2_ringsInto_32 (by decide) (fun zc60 => ?_) (fun zc60 => ?_)
          · refine z_iconst (v := 0) X dX2_ringsInto_39 (by decide) ?_
            refine z_istore (ls' := [(4, .int 0), (3, .int (soR m len j)), (0, .ref i), (1, .ref r), (2, .int (nI j))]) X dX2_ringsInto_40 (by decide) rfl ?_
            refine z_iload_n X 4 dX2_ringsInto_42 rfl ?_
            refine z_aload_n X 2 dX2_ringsInto_43 rfl ?_
            refine z_get X fl_X2_45_2 dX2_ringsInto_44 zK10 rfl ?_
            refine z_iconst (v := 1) X dX2_ringsInto_47 (by decide) ?_
            refine z_isub X dX2_ringsInto_48 ?_
            refine z_toe (y := nI (len - 1)) (pk_sub (a := len) (b := 1) (by omega)) ?_
            refine z_icmp_eq X 63 dX2_ringsInto_49 (by decide) (fun zc61 => ?_) (fun zc61 => ?_)
            · try replace zc61 := (nI_eq (a := j) (b := len - 1) (by omega) (by omega)).mp zc61
              refine z_iconst (v := 1) X dX2_ringsInto_63 (by decide) ?_
              refine z_goto X 68 dX2_ringsInto_64 (by decide) ?_
              refine z_istore (ls' := [(5, .int 1), (4, .int 0), (3, .int (soR m len j)), (0, .ref i), (1, .ref r), (2, .int (nI j))]) X dX2_ringsInto_68 (by decide) rfl ?_
              refine z_iload_n X 2 dX2_ringsInto_70 rfl ?_
              refine z_if_le X 89 dX2_ringsInto_71 (by decide) (fun zc62 => ?_) (fun zc62 => ?_)
              · refine z_iinc (v := nI (j + 1)) (ls' := [(2, .int (nI (j + 1))), (5, .int 1), (4, .int 0), (3, .int (soR m len j)), (0, .ref i), (1, .ref r)]) X 5 dX2_ringsInto_89 rfl (nI_1 (j)) (by decide) rfl ?_
                refine z_goto X 6 dX2_ringsInto_92 (by decide) ?_
                refine z_sub (ls' := [(0, .ref i), (1, .ref r), (2, .int (nI (j + 1)))]) [4, 5, 0] rfl ?_
                exact ih6 _ (j + 1) e (by omega) (by (have hr : ¬ isRing m len j := by (simp only [i_lt, i_le, show (0 : Int32).toInt = 0 by decide] at *; omega)); rw [rn_f hr]; funext zz; by_cases zq1 : zz = r + 1; (rw [zq1, va_up_self]; exact zK13); by_cases zq0 : zz = r; (rw [zq0, va_up_ne _ _ (show r ≠ r + 1 by omega), va_up_self]; exact zK12); rw [va_up_ne _ _ zq1, va_up_ne _ _ zq0]; rw [he6]; simp only [va_up, if_neg zq0, if_neg zq1]) (by first | assumption | rfl | omega) (by (have hr : ¬ isRing m len j := by (simp only [i_lt, i_le, show (0 : Int32).toInt = 0 by decide] at *; omega)); rw [rl_f hr]; exact hg)
              · refine z_iload X 1 dX2_ringsInto_74 rfl ?_
                refine z_if_eq X 89 dX2_ringsInto_76 (by decide) (fun zc63 => ?_) (fun zc63 => ?_)
                · try replace zc63 := (nI_eq (a := 0) (b := 0) (by omega) (by omega)).mp zc63
                  refine z_iinc (v := nI (j + 1)) (ls' := [(2, .int (nI (j + 1))), (5, .int 1), (4, .int 0), (3, .int (soR m len j)), (0, .ref i), (1, .ref r)]) X 5 dX2_ringsInto_89 rfl (nI_1 (j)) (by decide) rfl ?_
                  refine z_goto X 6 dX2_ringsInto_92 (by decide) ?_
                  refine z_sub (ls' := [(0, .ref i), (1, .ref r), (2, .int (nI (j + 1)))]) [4, 5, 0] rfl ?_
                  exact ih6 _ (j + 1) e (by omega) (by (have hr : ¬ isRing m len j := by (simp only [i_lt, i_le, show (0 : Int32).toInt = 0 by decide] at *; omega)); rw [rn_f hr]; funext zz; by_cases zq1 : zz = r + 1; (rw [zq1, va_up_self]; exact zK13); by_cases zq0 : zz = r; (rw [zq0, va_up_ne _ _ (show r ≠ r + 1 by omega), va_up_self]; exact zK12); rw [va_up_ne _ _ zq1, va_up_ne _ _ zq0]; rw [he6]; simp only [va_up, if_neg zq0, if_neg zq1]) (by first | assumption | rfl | omega) (by (have hr : ¬ isRing m len j := by (simp only [i_lt, i_le, show (0 : Int32).toInt = 0 by decide] at *; omega)); rw [rl_f hr]; exact hg)
                · first | exact absurd zc63 (by decide) | exact absurd (by decide) zc63
            · try replace zc61 := mt (nI_eq (a := j) (b := len - 1) (by omega) (by omega)).mpr zc61
              refine z_aload_n X 2 dX2_ringsInto_52 rfl ?_
              refine z_iload_n X 4 dX2_ringsInto_53 rfl ?_
              refine z_iconst (v := 1) X dX2_ringsInto_54 (by decide) ?_
              refine z_iadd X dX2_ringsInto_55 ?_
              refine z_toe (y := nI (j + 1)) (nI_add (j) (1)) ?_
              refine z_callV X (c_standsOut (κ := κ) (n := n) (i := (i)) (len := (len)) (now := (now)) (dd := (dd)) (dr := (dr)) (cc := (cc)) (on := (on)) (cold := (cold)) (wind := (wind)) (c := (j + 1)) zK10 zK11 (by first | assumption | omega) (by first | assumption | omega)) mk_X2_standsOut dX2_ringsInto_56 wd_648 wd_275 wd_276 rfl zK10 rfl rfl rfl (Nat.le_of_ble_eq_true rfl) (Nat.le_of_ble_eq_true rfl) (Nat.le_of_ble_eq_true rfl) (by omega) (by omega) (fun q zh64 zm66 zp67 => ?_)
              obtain ⟨rfl, ze65, zn68⟩ := zp67
              subst zm66
              subst zh64
              refine z_st (st' := [.int (soR m len (j + 1))]) rfl ?_
              refine z_iload_n X 1 dX2_ringsInto_59 rfl ?_
              refine z_icmp_ge X 67 dX2_ringsInto_60 (by decide) (fun zc69 => ?_) (fun zc69 => ?_)
              · refine z_iconst (v := 0) X dX2_ringsInto_67 (by decide) ?_
                refine z_istore (ls' := [(5, .int 0), (4, .int 0), (3, .int (soR m len j)), (0, .ref i), (1, .ref r), (2, .int (nI j))]) X dX2_ringsInto_68 (by decide) rfl ?_
                refine z_iload_n X 2 dX2_ringsInto_70 rfl ?_
                refine z_if_le X 89 dX2_ringsInto_71 (by decide) (fun zc70 => ?_) (fun zc70 => ?_)
                · refine z_iinc (v := nI (j + 1)) (ls' := [(2, .int (nI (j + 1))), (5, .int 0), (4, .int 0), (3, .int (soR m len j)), (0, .ref i), (1, .ref r)]) X 5 dX2_ringsInto_89 rfl (nI_1 (j)) (by decide) rfl ?_
                  refine z_goto X 6 dX2_ringsInto_92 (by decide) ?_
                  refine z_sub (ls' := [(0, .ref i), (1, .ref r), (2, .int (nI (j + 1)))]) [4, 5, 0] rfl ?_
                  exact ih6 _ (j + 1) e (by omega) (by (have hr : ¬ isRing m len j := by (simp only [i_lt, i_le, show (0 : Int32).toInt = 0 by decide] at *; omega)); rw [rn_f hr]; funext zz; by_cases zq1 : zz = r + 1; (rw [zq1, va_up_self]; exact zK13); by_cases zq0 : zz = r; (rw [zq0, va_up_ne _ _ (show r ≠ r + 1 by omega), va_up_self]; exact zK12); rw [va_up_ne _ _ zq1, va_up_ne _ _ zq0]; rw [he6]; simp only [va_up, if_neg zq0, if_neg zq1]) (by first | assumption | rfl | omega) (by (have hr : ¬ isRing m len j := by (simp only [i_lt, i_le, show (0 : Int32).toInt = 0 by decide] at *; omega)); rw [rl_f hr]; exact hg)
                · refine z_iload X 1 dX2_ringsInto_74 rfl ?_
                  refine z_if_eq X 89 dX2_ringsInto_76 (by decide) (fun zc71 => ?_) (fun zc71 => ?_)
                  · try replace zc71 := (nI_eq (a := 0) (b := 0) (by omega) (by omega)).mp zc71
                    refine z_iinc (v := nI (j + 1)) (ls' := [(2, .int (nI (j + 1))), (5, .int 0), (4, .int 0), (3, .int (soR m len j)), (0, .ref i), (1, .ref r)]) X 5 dX2_ringsInto_89 rfl (nI_1 (j)) (by decide) rfl ?_
                    refine z_goto X 6 dX2_ringsInto_92 (by decide) ?_
                    refine z_sub (ls' := [(0, .ref i), (1, .ref r), (2, .int (nI (j + 1)))]) [4, 5, 0] rfl ?_
                    exact ih6 _ (j + 1) e (by omega) (by (have hr : ¬ isRing m len j := by (simp only [i_lt, i_le, show (0 : Int32).toInt = 0 by decide] at *; omega)); rw [rn_f hr]; funext zz; by_cases zq1 : zz = r + 1; (rw [zq1, va_up_self]; exact zK13); by_cases zq0 : zz = r; (rw [zq0, va_up_ne _ _ (show r ≠ r + 1 by omega), va_up_self]; exact zK12); rw [va_up_ne _ _ zq1, va_up_ne _ _ zq0]; rw [he6]; simp only [va_up, if_neg zq0, if_neg zq1]) (by first | assumption | rfl | omega) (by (have hr : ¬ isRing m len j := by (simp only [i_lt, i_le, show (0 : Int32).toInt = 0 by decide] at *; omega)); rw [rl_f hr]; exact hg)
                  · first | exact absurd zc71 (by decide) | exact absurd (by decide) zc71
              · refine z_iconst (v := 1) X dX2_ringsInto_63 (by decide) ?_
                refine z_goto X 68 dX2_ringsInto_64 (by decide) ?_
                refine z_istore (ls' := [(5, .int 1), (4, .int 0), (3, .int (soR m len j)), (0, .ref i), (1, .ref r), (2, .int (nI j))]) X dX2_ringsInto_68 (by decide) rfl ?_
                refine z_iload_n X 2 dX2_ringsInto_70 rfl ?_
                refine z_if_le X 89 dX2_ringsInto_71 (by decide) (fun zc72 => ?_) (fun zc72 => ?_)
                · refine z_iinc (v := nI (j + 1)) (ls' := [(2, .int (nI (j + 1))), (5, .int 1), (4, .int 0), (3, .int (soR m len j)), (0, .ref i), (1, .ref r)]) X 5 dX2_ringsInto_89 rfl (nI_1 (j)) (by decide) rfl ?_
                  refine z_goto X 6 dX2_ringsInto_92 (by decide) ?_
                  refine z_sub (ls' := [(0, .ref i), (1, .ref r), (2, .int (nI (j + 1)))]) [4, 5, 0] rfl ?_
                  exact ih6 _ (j + 1) e (by omega) (by (have hr : ¬ isRing m len j := by (simp only [i_lt, i_le, show (0 : Int32).toInt = 0 by decide] at *; omega)); rw [rn_f hr]; funext zz; by_cases zq1 : zz = r + 1; (rw [zq1, va_up_self]; exact zK13); by_cases zq0 : zz = r; (rw [zq0, va_up_ne _ _ (show r ≠ r + 1 by omega), va_up_self]; exact zK12); rw [va_up_ne _ _ zq1, va_up_ne _ _ zq0]; rw [he6]; simp only [va_up, if_neg zq0, if_neg zq1]) (by first | assumption | rfl | omega) (by (have hr : ¬ isRing m len j := by (simp only [i_lt, i_le, show (0 : Int32).toInt = 0 by decide] at *; omega)); rw [rl_f hr]; exact hg)
                · refine z_iload X 1 dX2_ringsInto_74 rfl ?_
                  refine z_if_eq X 89 dX2_ringsInto_76 (by decide) (fun zc73 => ?_) (fun zc73 => ?_)
                  · try replace zc73 := (nI_eq (a := 0) (b := 0) (by omega) (by omega)).mp zc73
                    refine z_iinc (v := nI (j + 1)) (ls' := [(2, .int (nI (j + 1))), (5, .int 1), (4, .int 0), (3, .int (soR m len j)), (0, .ref i), (1, .ref r)]) X 5 dX2_ringsInto_89 rfl (nI_1 (j)) (by decide) rfl ?_
                    refine z_goto X 6 dX2_ringsInto_92 (by decide) ?_
                    refine z_sub (ls' := [(0, .ref i), (1, .ref r), (2, .int (nI (j + 1)))]) [4, 5, 0] rfl ?_
                    exact ih6 _ (j + 1) e (by omega) (by (have hr : ¬ isRing m len j := by (simp only [i_lt, i_le, show (0 : Int32).toInt = 0 by decide] at *; omega)); rw [rn_f hr]; funext zz; by_cases zq1 : zz = r + 1; (rw [zq1, va_up_self]; exact zK13); by_cases zq0 : zz = r; (rw [zq0, va_up_ne _ _ (show r ≠ r + 1 by omega), va_up_self]; exact zK12); rw [va_up_ne _ _ zq1, va_up_ne _ _ zq0]; rw [he6]; simp only [va_up, if_neg zq0, if_neg zq1]) (by first | assumption | rfl | omega) (by (have hr : ¬ isRing m len j := by (simp only [i_lt, i_le, show (0 : Int32).toInt = 0 by decide] at *; omega)); rw [rl_f hr]; exact hg)
                  · first | exact absurd zc73 (by decide) | exact absurd (by decide) zc73
          · refine z_iconst (v := 1) X dX2_ringsInto_35 (by decide) ?_
            refine z_goto X 40 dX2_ringsInto_36 (by decide) ?_
            refine z_istore (ls' := [(4, .int 1), (3, .int (soR m len j)), (0, .ref i), (1, .ref r), (2, .int (nI j))]) X dX2_ringsInto_40 (by decide) rfl ?_
            refine z_iload_n X 4 dX2_ringsInto_42 rfl ?_
            refine z_aload_n X 2 dX2_ringsInto_43 rfl ?_
            refine z_get X fl_X2_45_2 dX2_ringsInto_44 zK10 rfl ?_
            refine z_iconst (v := 1) X dX2_ringsInto_47 (by decide) ?_
            refine z_isub X dX2_ringsInto_48 ?_
            refine z_toe (y := nI (len - 1)) (pk_sub (a := len) (b := 1) (by omega)) ?_
            refine z_icmp_eq X 63 dX2_ringsInto_49 (by decide) (fun zc74 => ?_) (fun zc74 => ?_)
            · try replace zc74 := (nI_eq (a := j) (b := len - 1) (by omega) (by omega)).mp zc74
              refine z_iconst (v := 1) X dX2_ringsInto_63 (by decide) ?_
              refine z_goto X 68 dX2_ringsInto_64 (by decide) ?_
              refine z_istore (ls' := [(5, .int 1), (4, .int 1), (3, .int (soR m len j)), (0, .ref i), (1, .ref r), (2, .int (nI j))]) X dX2_ringsInto_68 (by decide) rfl ?_
              refine z_iload_n X 2 dX2_ringsInto_70 rfl ?_
              refine z_if_le X 89 dX2_ringsInto_71 (by decide) (fun zc75 => ?_) (fun zc75 => ?_)
              · refine z_iinc (v := nI (j + 1)) (ls' := [(2, .int (nI (j + 1))), (5, .int 1), (4, .int 1), (3, .int (soR m len j)), (0, .ref i), (1, .ref r)]) X 5 dX2_ringsInto_89 rfl (nI_1 (j)) (by decide) rfl ?_
                refine z_goto X 6 dX2_ringsInto_92 (by decide) ?_
                refine z_sub (ls' := [(0, .ref i), (1, .ref r), (2, .int (nI (j + 1)))]) [4, 5, 0] rfl ?_
                exact ih6 _ (j + 1) e (by omega) (by (have hr : ¬ isRing m len j := by (simp only [i_lt, i_le, show (0 : Int32).toInt = 0 by decide] at *; omega)); rw [rn_f hr]; funext zz; by_cases zq1 : zz = r + 1; (rw [zq1, va_up_self]; exact zK13); by_cases zq0 : zz = r; (rw [zq0, va_up_ne _ _ (show r ≠ r + 1 by omega), va_up_self]; exact zK12); rw [va_up_ne _ _ zq1, va_up_ne _ _ zq0]; rw [he6]; simp only [va_up, if_neg zq0, if_neg zq1]) (by first | assumption | rfl | omega) (by (have hr : ¬ isRing m len j := by (simp only [i_lt, i_le, show (0 : Int32).toInt = 0 by decide] at *; omega)); rw [rl_f hr]; exact hg)
              · refine z_iload X 1 dX2_ringsInto_74 rfl ?_
                refine z_if_eq X 89 dX2_ringsInto_76 (by decide) (fun zc76 => ?_) (fun zc76 => ?_)
                · first | exact absurd zc76 (by decide) | exact absurd (by decide) zc76
                · try replace zc76 := mt (nI_eq (a := 1) (b := 0) (by omega) (by omega)).mpr zc76
                  refine z_iload X 0 dX2_ringsInto_79 rfl ?_
                  refine z_if_eq X 89 dX2_ringsInto_81 (by decide) (fun zc77 => ?_) (fun zc77 => ?_)
                  · first | exact absurd zc77 (by decide) | exact absurd (by decide) zc77
                  · try replace zc77 := mt (nI_eq (a := 1) (b := 0) (by omega) (by omega)).mpr zc77
                    refine z_aload_n X 4 dX2_ringsInto_84 rfl ?_
                    refine z_iload_n X 5 dX2_ringsInto_85 rfl ?_
                    refine z_callV X (c_Row_add (κ := κ) (n := n) (r := (r)) (k := (rn m len j)) (bt := (bt)) (v := (nI j)) (N := (40)) (f := (e)) zK12 zK13 (by omega) (by omega)) mk_X6_add dX2_ringsInto_86 wd_649 wd_501 wd_502 rfl zK12 rfl rfl rfl (Nat.le_of_ble_eq_true rfl) (Nat.le_of_ble_eq_true rfl) (Nat.le_of_ble_eq_true rfl) (by omega) (by omega) (fun q zh78 zm80 zp81 => ?_)
                    obtain ⟨rfl, ze79, zn82⟩ := zp81
                    subst zm80
                    refine z_st (st' := []) rfl ?_
                    have zK83 : zh78 i = some (.inr (2, [.ref (i + 1), .ref (i + 2), .ref (i + 3), .ref (i + 4), .ref (i + 5), .int (nI len), .int now, .int dd, .int dr, .int cc, .int on, .int cold, .int wind])) := by rw [ze79]; rw [va_up_ne _ _ (show i ≠ r + 1 by omega)]; rw [va_up_ne _ _ (show i ≠ r by omega)]; exact zK10
                    have zK84 : zh78 (i + 1) = arI κ 40 (win 100 40 m) := by rw [ze79]; rw [va_up_ne _ _ (show i + 1 ≠ r + 1 by omega)]; rw [va_up_ne _ _ (show i + 1 ≠ r by omega)]; exact zK11
                    have zK85 : zh78 r = some (.inr (6, [.ref (r + 1), .int (nI ((rn m len j) + 1)), .int bt])) := by rw [ze79]; rw [va_up_ne _ _ (show r ≠ r + 1 by omega)]; exact va_up_self _ _ _
                    have zK86 : zh78 (r + 1) = arI κ 40 (upd e (rn m len j) (nI j)) := by rw [ze79]; exact va_up_self _ _ _
                    skip
                    refine z_iinc (v := nI (j + 1)) (ls' := [(2, .int (nI (j + 1))), (5, .int 1), (4, .int 1), (3, .int (soR m len j)), (0, .ref i), (1, .ref r)]) X 5 dX2_ringsInto_89 rfl (nI_1 (j)) (by decide) rfl ?_
                    refine z_goto X 6 dX2_ringsInto_92 (by decide) ?_
                    refine z_sub (ls' := [(0, .ref i), (1, .ref r), (2, .int (nI (j + 1)))]) [4, 5, 0] rfl ?_
                    exact ih6 _ (j + 1) (upd e (rn m len j) (nI j)) (by omega) (by (have hr : isRing m len j := by (simp only [i_lt, i_le, show (0 : Int32).toInt = 0 by decide] at *; omega)); rw [rn_t hr]; funext zz; by_cases zq1 : zz = r + 1; (rw [zq1, va_up_self]; exact zK86); by_cases zq0 : zz = r; (rw [zq0, va_up_ne _ _ (show r ≠ r + 1 by omega), va_up_self]; exact zK85); rw [va_up_ne _ _ zq1, va_up_ne _ _ zq0]; rw [ze79, he6]; simp only [va_up, if_neg zq0, if_neg zq1]) (by first | assumption | rfl | omega) (by (have hr : isRing m len j := by (simp only [i_lt, i_le, show (0 : Int32).toInt = 0 by decide] at *; omega)); rw [rl_t hr]; exact rgOk_add hg)
            · try replace zc74 := mt (nI_eq (a := j) (b := len - 1) (by omega) (by omega)).mpr zc74
              refine z_aload_n X 2 dX2_ringsInto_52 rfl ?_
              refine z_iload_n X 4 dX2_ringsInto_53 rfl ?_
              refine z_iconst (v := 1) X dX2_ringsInto_54 (by decide) ?_
              refine z_iadd X dX2_ringsInto_55 ?_
              refine z_toe (y := nI (j + 1)) (nI_add (j) (1)) ?_
              refine z_callV X (c_standsOut (κ := κ) (n := n) (i := (i)) (len := (len)) (now := (now)) (dd := (dd)) (dr := (dr)) (cc := (cc)) (on := (on)) (cold := (cold)) (wind := (wind)) (c := (j + 1)) zK10 zK11 (by first | assumption | omega) (by first | assumption | omega)) mk_X2_standsOut dX2_ringsInto_56 wd_648 wd_275 wd_276 rfl zK10 rfl rfl rfl (Nat.le_of_ble_eq_true rfl) (Nat.le_of_ble_eq_true rfl) (Nat.le_of_ble_eq_true rfl) (by omega) (by omega) (fun q zh87 zm89 zp90 => ?_)
              obtain ⟨rfl, ze88, zn91⟩ := zp90
              subst zm89
              subst zh87
              refine z_st (st' := [.int (soR m len (j + 1))]) rfl ?_
              refine z_iload_n X 1 dX2_ringsInto_59 rfl ?_
              refine z_icmp_ge X 67 dX2_ringsInto_60 (by decide) (fun zc92 => ?_) (fun zc92 => ?_)
              · refine z_iconst (v := 0) X dX2_ringsInto_67 (by decide) ?_
                refine z_istore (ls' := [(5, .int 0), (4, .int 1), (3, .int (soR m len j)), (0, .ref i), (1, .ref r), (2, .int (nI j))]) X dX2_ringsInto_68 (by decide) rfl ?_
                refine z_iload_n X 2 dX2_ringsInto_70 rfl ?_
                refine z_if_le X 89 dX2_ringsInto_71 (by decide) (fun zc93 => ?_) (fun zc93 => ?_)
                · refine z_iinc (v := nI (j + 1)) (ls' := [(2, .int (nI (j + 1))), (5, .int 0), (4, .int 1), (3, .int (soR m len j)), (0, .ref i), (1, .ref r)]) X 5 dX2_ringsInto_89 rfl (nI_1 (j)) (by decide) rfl ?_
                  refine z_goto X 6 dX2_ringsInto_92 (by decide) ?_
                  refine z_sub (ls' := [(0, .ref i), (1, .ref r), (2, .int (nI (j + 1)))]) [4, 5, 0] rfl ?_
                  exact ih6 _ (j + 1) e (by omega) (by (have hr : ¬ isRing m len j := by (simp only [i_lt, i_le, show (0 : Int32).toInt = 0 by decide] at *; omega)); rw [rn_f hr]; funext zz; by_cases zq1 : zz = r + 1; (rw [zq1, va_up_self]; exact zK13); by_cases zq0 : zz = r; (rw [zq0, va_up_ne _ _ (show r ≠ r + 1 by omega), va_up_self]; exact zK12); rw [va_up_ne _ _ zq1, va_up_ne _ _ zq0]; rw [he6]; simp only [va_up, if_neg zq0, if_neg zq1]) (by first | assumption | rfl | omega) (by (have hr : ¬ isRing m len j := by (simp only [i_lt, i_le, show (0 : Int32).toInt = 0 by decide] at *; omega)); rw [rl_f hr]; exact hg)
                · refine z_iload X 1 dX2_ringsInto_74 rfl ?_
                  refine z_if_eq X 89 dX2_ringsInto_76 (by decide) (fun zc94 => ?_) (fun zc94 => ?_)
                  · first | exact absurd zc94 (by decide) | exact absurd (by decide) zc94
                  · try replace zc94 := mt (nI_eq (a := 1) (b := 0) (by omega) (by omega)).mpr zc94
                    refine z_iload X 0 dX2_ringsInto_79 rfl ?_
                    refine z_if_eq X 89 dX2_ringsInto_81 (by decide) (fun zc95 => ?_) (fun zc95 => ?_)
                    · try replace zc95 := (nI_eq (a := 0) (b := 0) (by omega) (by omega)).mp zc95
                      refine z_iinc (v := nI (j + 1)) (ls' := [(2, .int (nI (j + 1))), (5, .int 0), (4, .int 1), (3, .int (soR m len j)), (0, .ref i), (1, .ref r)]) X 5 dX2_ringsInto_89 rfl (nI_1 (j)) (by decide) rfl ?_
                      refine z_goto X 6 dX2_ringsInto_92 (by decide) ?_
                      refine z_sub (ls' := [(0, .ref i), (1, .ref r), (2, .int (nI (j + 1)))]) [4, 5, 0] rfl ?_
                      exact ih6 _ (j + 1) e (by omega) (by (have hr : ¬ isRing m len j := by (simp only [i_lt, i_le, show (0 : Int32).toInt = 0 by decide] at *; omega)); rw [rn_f hr]; funext zz; by_cases zq1 : zz = r + 1; (rw [zq1, va_up_self]; exact zK13); by_cases zq0 : zz = r; (rw [zq0, va_up_ne _ _ (show r ≠ r + 1 by omega), va_up_self]; exact zK12); rw [va_up_ne _ _ zq1, va_up_ne _ _ zq0]; rw [he6]; simp only [va_up, if_neg zq0, if_neg zq1]) (by first | assumption | rfl | omega) (by (have hr : ¬ isRing m len j := by (simp only [i_lt, i_le, show (0 : Int32).toInt = 0 by decide] at *; omega)); rw [rl_f hr]; exact hg)
                    · first | exact absurd zc95 (by decide) | exact absurd (by decide) zc95
              · refine z_iconst (v := 1) X dX2_ringsInto_63 (by decide) ?_
                refine z_goto X 68 dX2_ringsInto_64 (by decide) ?_
                refine z_istore (ls' := [(5, .int 1), (4, .int 1), (3, .int (soR m len j)), (0, .ref i), (1, .ref r), (2, .int (nI j))]) X dX2_ringsInto_68 (by decide) rfl ?_
                refine z_iload_n X 2 dX2_ringsInto_70 rfl ?_
                refine z_if_le X 89 dX2_ringsInto_71 (by decide) (fun zc96 => ?_) (fun zc96 => ?_)
                · refine z_iinc (v := nI (j + 1)) (ls' := [(2, .int (nI (j + 1))), (5, .int 1), (4, .int 1), (3, .int (soR m len j)), (0, .ref i), (1, .ref r)]) X 5 dX2_ringsInto_89 rfl (nI_1 (j)) (by decide) rfl ?_
                  refine z_goto X 6 dX2_ringsInto_92 (by decide) ?_
                  refine z_sub (ls' := [(0, .ref i), (1, .ref r), (2, .int (nI (j + 1)))]) [4, 5, 0] rfl ?_
                  exact ih6 _ (j + 1) e (by omega) (by (have hr : ¬ isRing m len j := by (simp only [i_lt, i_le, show (0 : Int32).toInt = 0 by decide] at *; omega)); rw [rn_f hr]; funext zz; by_cases zq1 : zz = r + 1; (rw [zq1, va_up_self]; exact zK13); by_cases zq0 : zz = r; (rw [zq0, va_up_ne _ _ (show r ≠ r + 1 by omega), va_up_self]; exact zK12); rw [va_up_ne _ _ zq1, va_up_ne _ _ zq0]; rw [he6]; simp only [va_up, if_neg zq0, if_neg zq1]) (by first | assumption | rfl | omega) (by (have hr : ¬ isRing m len j := by (simp only [i_lt, i_le, show (0 : Int32).toInt = 0 by decide] at *; omega)); rw [rl_f hr]; exact hg)
                · refine z_iload X 1 dX2_ringsInto_74 rfl ?_
                  refine z_if_eq X 89 dX2_ringsInto_76 (by decide) (fun zc97 => ?_) (fun zc97 => ?_)
                  · first | exact absurd zc97 (by decide) | exact absurd (by decide) zc97
                  · try replace zc97 := mt (nI_eq (a := 1) (b := 0) (by omega) (by omega)).mpr zc97
                    refine z_iload X 0 dX2_ringsInto_79 rfl ?_
                    refine z_if_eq X 89 dX2_ringsInto_81 (by decide) (fun zc98 => ?_) (fun zc98 => ?_)
                    · first | exact absurd zc98 (by decide) | exact absurd (by decide) zc98
                    · try replace zc98 := mt (nI_eq (a := 1) (b := 0) (by omega) (by omega)).mpr zc98
                      refine z_aload_n X 4 dX2_ringsInto_84 rfl ?_
                      refine z_iload_n X 5 dX2_ringsInto_85 rfl ?_
                      refine z_callV X (c_Row_add (κ := κ) (n := n) (r := (r)) (k := (rn m len j)) (bt := (bt)) (v := (nI j)) (N := (40)) (f := (e)) zK12 zK13 (by omega) (by omega)) mk_X6_add dX2_ringsInto_86 wd_649 wd_501 wd_502 rfl zK12 rfl rfl rfl (Nat.le_of_ble_eq_true rfl) (Nat.le_of_ble_eq_true rfl) (Nat.le_of_ble_eq_true rfl) (by omega) (by omega) (fun q zh99 zm101 zp102 => ?_)
                      obtain ⟨rfl, ze100, zn103⟩ := zp102
                      subst zm101
                      refine z_st (st' := []) rfl ?_
                      have zK104 : zh99 i = some (.inr (2, [.ref (i + 1), .ref (i + 2), .ref (i + 3), .ref (i + 4), .ref (i + 5), .int (nI len), .int now, .int dd, .int dr, .int cc, .int on, .int cold, .int wind])) := by rw [ze100]; rw [va_up_ne _ _ (show i ≠ r + 1 by omega)]; rw [va_up_ne _ _ (show i ≠ r by omega)]; exact zK10
                      have zK105 : zh99 (i + 1) = arI κ 40 (win 100 40 m) := by rw [ze100]; rw [va_up_ne _ _ (show i + 1 ≠ r + 1 by omega)]; rw [va_up_ne _ _ (show i + 1 ≠ r by omega)]; exact zK11
                      have zK106 : zh99 r = some (.inr (6, [.ref (r + 1), .int (nI ((rn m len j) + 1)), .int bt])) := by rw [ze100]; rw [va_up_ne _ _ (show r ≠ r + 1 by omega)]; exact va_up_self _ _ _
                      have zK107 : zh99 (r + 1) = arI κ 40 (upd e (rn m len j) (nI j)) := by rw [ze100]; exact va_up_self _ _ _
                      skip
                      refine z_iinc (v := nI (j + 1)) (ls' := [(2, .int (nI (j + 1))), (5, .int 1), (4, .int 1), (3, .int (soR m len j)), (0, .ref i), (1, .ref r)]) X 5 dX2_ringsInto_89 rfl (nI_1 (j)) (by decide) rfl ?_
                      refine z_goto X 6 dX2_ringsInto_92 (by decide) ?_
                      refine z_sub (ls' := [(0, .ref i), (1, .ref r), (2, .int (nI (j + 1)))]) [4, 5, 0] rfl ?_
                      exact ih6 _ (j + 1) (upd e (rn m len j) (nI j)) (by omega) (by (have hr : isRing m len j := by (simp only [i_lt, i_le, show (0 : Int32).toInt = 0 by decide] at *; omega)); rw [rn_t hr]; funext zz; by_cases zq1 : zz = r + 1; (rw [zq1, va_up_self]; exact zK107); by_cases zq0 : zz = r; (rw [zq0, va_up_ne _ _ (show r ≠ r + 1 by omega), va_up_self]; exact zK106); rw [va_up_ne _ _ zq1, va_up_ne _ _ zq0]; rw [ze100, he6]; simp only [va_up, if_neg zq0, if_neg zq1]) (by first | assumption | rfl | omega) (by (have hr : isRing m len j := by (simp only [i_lt, i_le, show (0 : Int32).toInt = 0 by decide] at *; omega)); rw [rl_t hr]; exact rgOk_add hg)
  refine z_sub (ls' := [(0, .ref i), (1, .ref r), (2, .int 0)]) [1, 2, 0] rfl ?_
  exact L6 _ _ 0 g (Nat.lt_succ_self _) (by funext zz; by_cases zq1 : zz = r + 1; (rw [zq1, va_up_self]; exact zK9); by_cases zq0 : zz = r; (rw [zq0, va_up_ne _ _ (show r ≠ r + 1 by omega), va_up_self]; exact zK8); rw [va_up_ne _ _ zq1, va_up_ne _ _ zq0]; rw [ze2]; simp only [va_up, if_neg zq0, if_neg zq1]) (by first | assumption | rfl | omega) (by exact rgOk_nil)
set_option maxHeartbeats 4000000 in
set_option maxRecDepth 100000 in
theorem c_widesInto {κ : Wc} {l : Launch} {h : Mm} {n : Nat} {i : Nat} {len : Nat} {m : Nat → Int32} {now : Int32} {dd : Int32} {dr : Int32} {cc : Int32} {on : Int32} {cold : Int32} {wind : Int32} {r : Nat} {rs : Int32} {bt : Int32} {g : Nat → Int32} (K0 : h i = some (.inr (2, [.ref (i + 1), .ref (i + 2), .ref (i + 3), .ref (i + 4), .ref (i + 5), .int (nI len), .int now, .int dd, .int dr, .int cc, .int on, .int cold, .int wind]))) (K1 : h (i + 1) = arI κ 40 (win 100 40 m)) (K2 : h r = some (.inr (6, [.ref (r + 1), .int rs, .int bt]))) (K3 : h (r + 1) = arI κ 40 g) (q3 : len ≤ 40) (p2 : i + 5 < r ∨ r + 1 < i) : Con κ l yX2_widesInto cX2_widesInto 3 none 2 0 0 [.ref i, .ref r] h n (fun q h' n' => ∃ g' : Nat → Int32, q = none ∧ h' = va_up (va_up h r (some (.inr (6, [.ref (r + 1), .int (nI len), .int bt])))) (r + 1) (arI κ 40 g') ∧ n' = n ∧ (∀ k, k < len → g' k = m (100 + k))) := by
  refine Con.of mk_X2_widesInto (Nat.le_of_ble_eq_true rfl) (fun G hG X E => ?_)
  subst hG
  refine z_ls (ls' := [(0, .ref i), (1, .ref r)]) rfl ?_
  refine z_aload_n X 1 dX2_widesInto_0 rfl ?_
  refine z_callV X (c_Row_clear (κ := κ) (n := n) (r := (r)) (sz := (rs)) (bt := (bt)) K2 ) mk_X6_clear dX2_widesInto_1 wd_647 wd_584 wd_585 rfl K2 rfl rfl rfl (Nat.le_of_ble_eq_true rfl) (Nat.le_of_ble_eq_true rfl) (Nat.le_of_ble_eq_true rfl) (by omega) (by omega) (fun q zh1 zm3 zp4 => ?_)
  obtain ⟨rfl, ze2, zn5⟩ := zp4
  subst zm3
  refine z_st (st' := []) rfl ?_
  have zK6 : zh1 i = some (.inr (2, [.ref (i + 1), .ref (i + 2), .ref (i + 3), .ref (i + 4), .ref (i + 5), .int (nI len), .int now, .int dd, .int dr, .int cc, .int on, .int cold, .int wind])) := by rw [ze2]; rw [va_up_ne _ _ (show i ≠ r by omega)]; exact K0
  have zK7 : zh1 (i + 1) = arI κ 40 (win 100 40 m) := by rw [ze2]; rw [va_up_ne _ _ (show i + 1 ≠ r by omega)]; exact K1
  have zK8 : zh1 r = some (.inr (6, [.ref (r + 1), .int 0, .int bt])) := by rw [ze2]; exact va_up_self _ _ _
  have zK9 : zh1 (r + 1) = arI κ 40 g := by rw [ze2]; rw [va_up_ne _ _ (show r + 1 ≠ r by omega)]; exact K3
  refine z_iconst (v := 0) X dX2_widesInto_4 (by decide) ?_
  refine z_istore_n (ls' := [(2, .int 0), (0, .ref i), (1, .ref r)]) X dX2_widesInto_5 (by decide) rfl ?_
  have L6 : ∀ (jj : Nat) (hh6 : Mm)  (j : Nat) (e : Nat → Int32), (len - j < jj) → (hh6 = va_up (va_up h r (some (.inr (6, [.ref (r + 1), .int (nI j), .int bt])))) (r + 1) (arI κ 40 e)) → (hj : j ≤ len) → (hg : ∀ k, k < j → e k = m (100 + k)) → Z κ G 3 6 [(0, .ref i), (1, .ref r), (2, .int (nI j))] [] hh6 n 0 (0) := by
    intro jj
    induction jj with
    | zero => intro hh6 j e hmu; exact absurd hmu (Nat.not_lt_zero _)
    | succ jj ih6 =>
      intro hh6 j e hmu he6 hj hg
      have zK10 : hh6 i = some (.inr (2, [.ref (i + 1), .ref (i + 2), .ref (i + 3), .ref (i + 4), .ref (i + 5), .int (nI len), .int now, .int dd, .int dr, .int cc, .int on, .int cold, .int wind])) := by rw [he6]; rw [va_up_ne _ _ (show i ≠ r + 1 by omega)]; rw [va_up_ne _ _ (show i ≠ r by omega)]; exact K0
      have zK11 : hh6 (i + 1) = arI κ 40 (win 100 40 m) := by rw [he6]; rw [va_up_ne _ _ (show i + 1 ≠ r + 1 by omega)]; rw [va_up_ne _ _ (show i + 1 ≠ r by omega)]; exact K1
      have zK12 : hh6 r = some (.inr (6, [.ref (r + 1), .int (nI j), .int bt])) := by rw [he6]; rw [va_up_ne _ _ (show r ≠ r + 1 by omega)]; exact va_up_self _ _ _
      have zK13 : hh6 (r + 1) = arI κ 40 e := by rw [he6]; exact va_up_self _ _ _
      refine z_iload_n X 2 dX2_widesInto_6 rfl ?_
      refine z_aload_n X 0 dX2_widesInto_7 rfl ?_
      refine z_get X fl_X2_45_2 dX2_widesInto_8 zK10 rfl ?_
      refine z_icmp_ge X 30 dX2_widesInto_11 (by decide) (fun zc14 => ?_) (fun zc14 => ?_)
      · try replace zc14 := (nI_leI (a := len) (b := j) (by omega) (by omega)).mp zc14
        refine z_vret X E dX2_widesInto_30 (by omega) (by omega) ⟨e, ?_, ?_, ?_, ?_⟩
        · rfl
        · (have hil : j = len := by omega); subst hil; funext zz; by_cases zq1 : zz = r + 1; (rw [zq1, va_up_self]; exact zK13); by_cases zq0 : zz = r; (rw [zq0, va_up_ne _ _ (show r ≠ r + 1 by omega), va_up_self]; exact zK12); rw [va_up_ne _ _ zq1, va_up_ne _ _ zq0]; rw [he6]; simp only [va_up, if_neg zq0, if_neg zq1]
        · rfl
        · intro z hz; exact hg z (by omega)
      · try replace zc14 := mt (nI_leI (a := len) (b := j) (by omega) (by omega)).mpr zc14
        refine z_aload_n X 1 dX2_widesInto_14 rfl ?_
        refine z_aload_n X 0 dX2_widesInto_15 rfl ?_
        refine z_get X fl_X2_9_2 dX2_widesInto_16 zK10 rfl ?_
        refine z_iload_n X 2 dX2_widesInto_19 rfl ?_
        refine z_iald2 (v := m (100 + j)) X dX2_widesInto_20 zK11 (vp_in_nI (n := j) (by omega) (by omega)) ((congrArg (win 100 40 m) (nI_clamp (n := j) (by omega))).trans (win_at (k := j) (by omega))) ?_
        refine z_callV X (c_Row_add (κ := κ) (n := n) (r := (r)) (k := (j)) (bt := (bt)) (v := (m (100 + j))) (N := (40)) (f := (e)) zK12 zK13 (by first | assumption | omega) (by first | assumption | omega)) mk_X6_add dX2_widesInto_21 wd_649 wd_501 wd_502 rfl zK12 rfl rfl rfl (Nat.le_of_ble_eq_true rfl) (Nat.le_of_ble_eq_true rfl) (Nat.le_of_ble_eq_true rfl) (by omega) (by omega) (fun q zh15 zm17 zp18 => ?_)
        obtain ⟨rfl, ze16, zn19⟩ := zp18
        subst zm17
        refine z_st (st' := []) rfl ?_
        have zK20 : zh15 i = some (.inr (2, [.ref (i + 1), .ref (i + 2), .ref (i + 3), .ref (i + 4), .ref (i + 5), .int (nI len), .int now, .int dd, .int dr, .int cc, .int on, .int cold, .int wind])) := by rw [ze16]; rw [va_up_ne _ _ (show i ≠ r + 1 by omega)]; rw [va_up_ne _ _ (show i ≠ r by omega)]; exact zK10
        have zK21 : zh15 (i + 1) = arI κ 40 (win 100 40 m) := by rw [ze16]; rw [va_up_ne _ _ (show i + 1 ≠ r + 1 by omega)]; rw [va_up_ne _ _ (show i + 1 ≠ r by omega)]; exact zK11
        have zK22 : zh15 r = some (.inr (6, [.ref (r + 1), .int (nI (j + 1)), .int bt])) := by rw [ze16]; rw [va_up_ne _ _ (show r ≠ r + 1 by omega)]; exact va_up_self _ _ _
        have zK23 : zh15 (r + 1) = arI κ 40 (upd e j (m (100 + j))) := by rw [ze16]; exact va_up_self _ _ _
        refine z_iinc (v := nI (j + 1)) (ls' := [(2, .int (nI (j + 1))), (0, .ref i), (1, .ref r)]) X 2 dX2_widesInto_24 rfl (nI_1 (j)) (by decide) rfl ?_
        refine z_goto X 6 dX2_widesInto_27 (by decide) ?_
        refine z_sub (ls' := [(0, .ref i), (1, .ref r), (2, .int (nI (j + 1)))]) [1, 2, 0] rfl ?_
        exact ih6 _ (j + 1) (upd e j (m (100 + j))) (by omega) (by funext zz; by_cases zq1 : zz = r + 1; (rw [zq1, va_up_self]; exact zK23); by_cases zq0 : zz = r; (rw [zq0, va_up_ne _ _ (show r ≠ r + 1 by omega), va_up_self]; exact zK22); rw [va_up_ne _ _ zq1, va_up_ne _ _ zq0]; rw [ze16, he6]; simp only [va_up, if_neg zq0, if_neg zq1]) (by first | assumption | rfl | omega) (by intro z hz; by_cases e2 : z = j; (rw [e2]; exact pk_us); exact (pk_un e2).trans (hg z (by omega)))
  refine z_sub (ls' := [(0, .ref i), (1, .ref r), (2, .int 0)]) [1, 2, 0] rfl ?_
  exact L6 _ _ 0 g (Nat.lt_succ_self _) (by funext zz; by_cases zq1 : zz = r + 1; (rw [zq1, va_up_self]; exact zK9); by_cases zq0 : zz = r; (rw [zq0, va_up_ne _ _ (show r ≠ r + 1 by omega), va_up_self]; exact zK8); rw [va_up_ne _ _ zq1, va_up_ne _ _ zq0]; rw [ze2]; simp only [va_up, if_neg zq0, if_neg zq1]) (by first | assumption | rfl | omega) (by intro z hz; omega)
theorem off_cls {x y : Int32} {a b : Int} (hx : x.toInt = a) (hy : y.toInt = b) : (if (1000000 : Int64) < (if 0 < x.toInt64 - y.toInt64 then x.toInt64 - y.toInt64 else -(x.toInt64 - y.toInt64)) then (1000000 : Int64) else (if 0 < x.toInt64 - y.toInt64 then x.toInt64 - y.toInt64 else -(x.toInt64 - y.toInt64))).toInt32 = offI a b := by
  have e1 := Int32.toInt_toInt64 x
  have e2 := Int32.toInt_toInt64 y
  have b1 := i_lo x
  have b2 := i_hi x
  have b3 := i_lo y
  have b4 := i_hi y
  have hs : (x.toInt64 - y.toInt64).toInt = a - b := by (rw [l_sub (by omega) (by omega)]; omega)
  generalize x.toInt64 - y.toInt64 = X at hs
  have hn : (-X).toInt = b - a := by
    rw [Int64.toInt_neg, Int.bmod_def]; omega
  have h0 : (0 : Int64).toInt = 0 := by decide
  have hM : (1000000 : Int64).toInt = 1000000 := by decide
  by_cases h : 0 < X
  · rw [if_pos h]
    rw [Int64.lt_iff_toInt_lt, h0] at h
    by_cases h2 : (1000000 : Int64) < X
    · rw [if_pos h2]
      rw [Int64.lt_iff_toInt_lt, hM] at h2
      exact l_nI (by omega) (by rw [hM]; omega)
    · rw [if_neg h2]
      rw [Int64.lt_iff_toInt_lt, hM] at h2
      exact l_nI (by omega) (by rw [hs]; omega)
  · rw [if_neg h]
    rw [Int64.lt_iff_toInt_lt, h0] at h
    by_cases h2 : (1000000 : Int64) < -X
    · rw [if_pos h2]
      rw [Int64.lt_iff_toInt_lt, hM] at h2
      exact l_nI (by omega) (by rw [hM]; omega)
    · rw [if_neg h2]
      rw [Int64.lt_iff_toInt_lt, hM] at h2
      exact l_nI (by omega) (by rw [hn]; omega)
theorem offS_end {m nu : Nat → Int32} {len sz s a : Nat} (h : max len sz ≤ a) : ∀ j, offS m nu len sz s (a + j) = offS m nu len sz s a := by
  intro j
  induction j with
  | zero => rfl
  | succ j ih =>
    have e : offI (wI m 100 len (a + j)) (wI nu (40 * s) sz (a + j)) = 0 := by
      unfold wI
      rw [if_neg (by omega), if_neg (by omega)]
      decide
    show offS m nu len sz s (a + j) + offI (wI m 100 len (a + j)) (wI nu (40 * s) sz (a + j)) = _
    rw [e, ih]
    exact Int32.add_zero _
theorem offS_40 {m nu : Nat → Int32} {len sz s : Nat} (h1 : len ≤ 40) (h2 : sz ≤ 40) : offS m nu len sz s (max len sz) = offS m nu len sz s 40 := by
  have := offS_end (m := m) (nu := nu) (len := len) (sz := sz) (s := s) (Nat.le_refl _) (40 - max len sz)
  rw [show max len sz + (40 - max len sz) = 40 by omega] at this
  exact this.symm
set_option maxHeartbeats 4000000 in
set_option maxRecDepth 100000 in
theorem c_offBy {κ : Wc} {l : Launch} {h : Mm} {n : Nat} {i : Nat} {len : Nat} {m : Nat → Int32} {now : Int32} {dd : Int32} {dr : Int32} {cc : Int32} {on : Int32} {cold : Int32} {wind : Int32} {r : Nat} {bt : Int32} {sz : Nat} {s : Nat} {nu : Nat → Int32} (K0 : h i = some (.inr (2, [.ref (i + 1), .ref (i + 2), .ref (i + 3), .ref (i + 4), .ref (i + 5), .int (nI len), .int now, .int dd, .int dr, .int cc, .int on, .int cold, .int wind]))) (K1 : h (i + 1) = arI κ 40 (win 100 40 m)) (K2 : h r = some (.inr (6, [.ref (r + 1), .int (nI sz), .int bt]))) (K3 : h (r + 1) = arI κ 40 (win (40 * s) 40 nu)) (q3 : len ≤ 40) (p2 : sz ≤ 40) : Con κ l yX2_offBy cX2_offBy 7 (some .int) 4 0 0 [.ref i, .ref r] h n (fun q h' n' => q = some (.int (offS m nu len sz s 40)) ∧ h' = h ∧ n' = n) := by
  refine Con.of mk_X2_offBy (Nat.le_of_ble_eq_true rfl) (fun G hG X E => ?_)
  subst hG
  refine z_ls (ls' := [(0, .ref i), (1, .ref r)]) rfl ?_
  refine z_aload_n X 0 dX2_offBy_0 rfl ?_
  refine z_get X fl_X2_45_2 dX2_offBy_1 K0 rfl ?_
  refine z_aload_n X 1 dX2_offBy_4 rfl ?_
  refine z_get X fl_X2_145_6 dX2_offBy_5 K2 rfl ?_
  refine z_mmax X dX2_offBy_8 wd_465 wd_173 wd_63 wd_174 (Nat.le_of_ble_eq_true rfl) (Nat.le_of_ble_eq_true rfl) (Nat.le_of_ble_eq_true rfl) (Nat.le_of_ble_eq_true rfl) ?_
  refine z_toe (y := nI (max len sz)) (nI_max (by omega) (by omega)) ?_
  refine z_istore_n (ls' := [(2, .int (nI (max len sz))), (0, .ref i), (1, .ref r)]) X dX2_offBy_11 (by decide) rfl ?_
  refine z_iconst (v := 0) X dX2_offBy_12 (by decide) ?_
  refine z_istore_n (ls' := [(3, .int 0), (2, .int (nI (max len sz))), (0, .ref i), (1, .ref r)]) X dX2_offBy_13 (by decide) rfl ?_
  refine z_iconst (v := 0) X dX2_offBy_14 (by decide) ?_
  refine z_istore (ls' := [(4, .int 0), (3, .int 0), (2, .int (nI (max len sz))), (0, .ref i), (1, .ref r)]) X dX2_offBy_15 (by decide) rfl ?_
  have L17 : ∀ (jj : Nat)  (j : Nat), (max len sz - j < jj) → (hj : j ≤ max len sz) → Z κ G 7 17 [(0, .ref i), (1, .ref r), (2, .int (nI (max len sz))), (3, .int (offS m nu len sz s j)), (4, .int (nI j))] [] h n 0 (0) := by
    intro jj
    induction jj with
    | zero => intro  j hmu; exact absurd hmu (Nat.not_lt_zero _)
    | succ jj ih17 =>
      intro  j hmu  hj
      refine z_iload X 4 dX2_offBy_17 rfl ?_
      refine z_iload_n X 2 dX2_offBy_19 rfl ?_
      refine z_icmp_ge X 61 dX2_offBy_20 (by decide) (fun zc5 => ?_) (fun zc5 => ?_)
      · try replace zc5 := (nI_leI (a := max len sz) (b := j) (by omega) (by omega)).mp zc5
        refine z_iload_n X 3 dX2_offBy_61 rfl ?_
        refine z_iret X E dX2_offBy_62 (by omega) (by omega) ⟨?_, ?_, ?_⟩
        · rw [show j = max len sz by omega, offS_40 q3 p2]
        · first | rfl | (funext zz; simp only [va_up]; (repeat' split) <;> first | rfl | (exfalso; omega) | simp_all)
        · rfl
      · try replace zc5 := mt (nI_leI (a := max len sz) (b := j) (by omega) (by omega)).mpr zc5
        refine z_aload_n X 0 dX2_offBy_23 rfl ?_
        refine z_iload X 4 dX2_offBy_24 rfl ?_
        refine z_callV X (c_wideAt (κ := κ) (n := n) (i := (i)) (len := (len)) (now := (now)) (dd := (dd)) (dr := (dr)) (cc := (cc)) (on := (on)) (cold := (cold)) (wind := (wind)) (k := (j)) K0 K1 (by first | assumption | omega) (by first | assumption | omega)) mk_X2_wideAt dX2_offBy_26 wd_715 wd_266 wd_267 rfl K0 rfl rfl rfl (Nat.le_of_ble_eq_true rfl) (Nat.le_of_ble_eq_true rfl) (Nat.le_of_ble_eq_true rfl) (by omega) (by omega) (fun q zh6 zm8 zp9 => ?_)
        obtain ⟨rfl, ze7, zn10⟩ := zp9
        subst zm8
        subst zh6
        refine z_st (st' := [.int (wAt m 100 len j)]) rfl ?_
        refine z_i2l X dX2_offBy_29 rfl ?_
        refine z_aload_n X 1 dX2_offBy_30 rfl ?_
        refine z_iload X 4 dX2_offBy_31 rfl ?_
        refine z_callV X (c_Row_at (κ := κ) (n := n) (r := (r)) (k := (sz)) (bt := (bt)) (i := (nI j)) (N := (40)) (f := (win (40 * s) 40 nu)) K2 K3 (by first | assumption | omega) (by first | assumption | omega)) mk_X6_at dX2_offBy_33 wd_716 wd_299 wd_300 rfl K2 rfl rfl rfl (Nat.le_of_ble_eq_true rfl) (Nat.le_of_ble_eq_true rfl) (Nat.le_of_ble_eq_true rfl) (by omega) (by omega) (fun q zh11 zm13 zp14 => ?_)
        obtain ⟨rfl, ze12, zn15⟩ := zp14
        subst zm13
        subst zh11
        refine z_st (st' := [.int (rowAt sz (win (40 * s) 40 nu) (nI j)), .long ((wAt m 100 len j).toInt64)]) rfl ?_
        refine z_i2l X dX2_offBy_36 rfl ?_
        refine z_lsub X dX2_offBy_37 ?_
        refine z_mabsl X dX2_offBy_38 wd_717 wd_718 wd_63 wd_719 (Nat.le_of_ble_eq_true rfl) (Nat.le_of_ble_eq_true rfl) (Nat.le_of_ble_eq_true rfl) (Nat.le_of_ble_eq_true rfl) ?_
        refine z_lstore (ls' := [(5, .long (if 0 < ((wAt m 100 len j).toInt64) - ((rowAt sz (win (40 * s) 40 nu) (nI j)).toInt64) then ((wAt m 100 len j).toInt64) - ((rowAt sz (win (40 * s) 40 nu) (nI j)).toInt64) else -(((wAt m 100 len j).toInt64) - ((rowAt sz (win (40 * s) 40 nu) (nI j)).toInt64)))), (0, .ref i), (1, .ref r), (2, .int (nI (max len sz))), (3, .int (offS m nu len sz s j)), (4, .int (nI j))]) X dX2_offBy_41 (by decide) rfl ?_
        refine z_iload_n X 4 dX2_offBy_43 rfl ?_
        refine z_lload X 0 dX2_offBy_44 rfl ?_
        refine z_ldc2 X dX2_offBy_46 wd_720 ?_
        refine z_mminl X dX2_offBy_49 wd_721 wd_722 wd_63 wd_723 (Nat.le_of_ble_eq_true rfl) (Nat.le_of_ble_eq_true rfl) (Nat.le_of_ble_eq_true rfl) (Nat.le_of_ble_eq_true rfl) ?_
        refine z_l2i X dX2_offBy_52 rfl ?_
        refine z_toe (y := offI (wI m 100 len j) (wI nu (40 * s) sz j)) (off_cls (wAt_I m 100 len j) (rowAt_I p2 (by omega))) ?_
        refine z_iadd X dX2_offBy_53 ?_
        refine z_istore_n (ls' := [(3, .int ((offS m nu len sz s j) + (offI (wI m 100 len j) (wI nu (40 * s) sz j)))), (5, .long (if 0 < ((wAt m 100 len j).toInt64) - ((rowAt sz (win (40 * s) 40 nu) (nI j)).toInt64) then ((wAt m 100 len j).toInt64) - ((rowAt sz (win (40 * s) 40 nu) (nI j)).toInt64) else -(((wAt m 100 len j).toInt64) - ((rowAt sz (win (40 * s) 40 nu) (nI j)).toInt64)))), (0, .ref i), (1, .ref r), (2, .int (nI (max len sz))), (4, .int (nI j))]) X dX2_offBy_54 (by decide) rfl ?_
        refine z_iinc (v := nI (j + 1)) (ls' := [(4, .int (nI (j + 1))), (3, .int ((offS m nu len sz s j) + (offI (wI m 100 len j) (wI nu (40 * s) sz j)))), (5, .long (if 0 < ((wAt m 100 len j).toInt64) - ((rowAt sz (win (40 * s) 40 nu) (nI j)).toInt64) then ((wAt m 100 len j).toInt64) - ((rowAt sz (win (40 * s) 40 nu) (nI j)).toInt64) else -(((wAt m 100 len j).toInt64) - ((rowAt sz (win (40 * s) 40 nu) (nI j)).toInt64)))), (0, .ref i), (1, .ref r), (2, .int (nI (max len sz)))]) X 5 dX2_offBy_55 rfl (nI_1 (j)) (by decide) rfl ?_
        refine z_goto X 17 dX2_offBy_58 (by decide) ?_
        refine z_sub (ls' := [(0, .ref i), (1, .ref r), (2, .int (nI (max len sz))), (3, .int ((offS m nu len sz s j) + (offI (wI m 100 len j) (wI nu (40 * s) sz j)))), (4, .int (nI (j + 1)))]) [3, 4, 5, 1, 0] rfl ?_
        exact ih17 (j + 1) (by omega) (by first | assumption | rfl | omega)
  refine z_sub (ls' := [(0, .ref i), (1, .ref r), (2, .int (nI (max len sz))), (3, .int 0), (4, .int 0)]) [3, 4, 2, 1, 0] rfl ?_
  exact L17 _ 0 (Nat.lt_succ_self _) (by first | assumption | rfl | omega)
set_option maxHeartbeats 4000000 in
set_option maxRecDepth 100000 in
theorem c_begin {κ : Wc} {l : Launch} {h : Mm} {n : Nat} {i : Nat} {f : Nat → Int32} {g : Nat → Int32} {len : Int32} {now : Int32} {dd : Int32} {dr : Int32} {cc : Int32} {on : Int32} {cold : Int32} {wind : Int32} (K0 : h i = some (.inr (2, [.ref (i + 1), .ref (i + 2), .ref (i + 3), .ref (i + 4), .ref (i + 5), .int len, .int now, .int dd, .int dr, .int cc, .int on, .int cold, .int wind]))) (K1 : h (i + 1) = arI κ 40 f) (K2 : h (i + 2) = arI κ 40 g)  : Con κ l yX2_begin cX2_begin 1 none 1 0 0 [.ref i] h n (fun q h' n' => q = none ∧ h' = va_up (va_up (va_up h i (some (.inr (2, [.ref (i + 1), .ref (i + 2), .ref (i + 3), .ref (i + 4), .ref (i + 5), .int 1, .int 0, .int 0, .int 0, .int cc, .int on, .int cold, .int wind])))) (i + 1) (arI κ 40 (upd f 0 10))) (i + 2) (arI κ 40 (upd g 0 0)) ∧ n' = n) := by
  refine Con.of mk_X2_begin (Nat.le_of_ble_eq_true rfl) (fun G hG X E => ?_)
  subst hG
  refine z_ls (ls' := [(0, .ref i)]) rfl ?_
  refine z_aload_n X 0 dX2_begin_0 rfl ?_
  refine z_get X fl_X2_9_2 dX2_begin_1 K0 rfl ?_
  refine z_iconst (v := 0) X dX2_begin_4 (by decide) ?_
  refine z_bipush (v := 10) X dX2_begin_5 (by decide) ?_
  refine z_iast X dX2_begin_7 K1 (vp_in_nI (n := 0) (by omega) (by omega)) (congrArg (fun z => va_up h (i + 1) (arI κ 40 (upd f z 10))) (nI_clamp (n := 0) (by omega))) ?_
  obtain ⟨zh1, ze2⟩ : ∃ z : Mm, z = va_up h (i + 1) (arI κ 40 (upd f 0 10)) := ⟨_, rfl⟩
  refine z_heap (h' := zh1) ze2.symm ?_
  have zK3 := up_off ze2 (show i ≠ i + 1 by omega) K0
  have zK4 := up_at ze2
  have zK5 := up_off ze2 (show i + 2 ≠ i + 1 by omega) K2
  refine z_aload_n X 0 dX2_begin_8 rfl ?_
  refine z_get X fl_X2_15_2 dX2_begin_9 zK3 rfl ?_
  refine z_iconst (v := 0) X dX2_begin_12 (by decide) ?_
  refine z_iconst (v := 0) X dX2_begin_13 (by decide) ?_
  refine z_iast X dX2_begin_14 zK5 (vp_in_nI (n := 0) (by omega) (by omega)) (congrArg (fun z => va_up zh1 (i + 2) (arI κ 40 (upd g z 0))) (nI_clamp (n := 0) (by omega))) ?_
  obtain ⟨zh6, ze7⟩ : ∃ z : Mm, z = va_up zh1 (i + 2) (arI κ 40 (upd g 0 0)) := ⟨_, rfl⟩
  refine z_heap (h' := zh6) ze7.symm ?_
  have zK8 := up_off ze7 (show i ≠ i + 2 by omega) zK3
  have zK9 := up_off ze7 (show i + 1 ≠ i + 2 by omega) zK4
  have zK10 := up_at ze7
  refine z_aload_n X 0 dX2_begin_15 rfl ?_
  refine z_iconst (v := 1) X dX2_begin_16 (by decide) ?_
  refine z_put X fp_X2_45_2 dX2_begin_17 zK8 (by first | rfl | decide) (by first | rfl | decide) (Nat.le_of_ble_eq_true rfl) rfl ?_
  obtain ⟨zh11, ze12⟩ : ∃ z : Mm, z = va_up zh6 i (some (.inr (2, [.ref (i + 1), .ref (i + 2), .ref (i + 3), .ref (i + 4), .ref (i + 5), .int 1, .int now, .int dd, .int dr, .int cc, .int on, .int cold, .int wind]))) := ⟨_, rfl⟩
  refine z_heap (h' := zh11) ze12.symm ?_
  have zK13 := up_at ze12
  have zK14 := up_off ze12 (show i + 1 ≠ i by omega) zK9
  have zK15 := up_off ze12 (show i + 2 ≠ i by omega) zK10
  refine z_aload_n X 0 dX2_begin_20 rfl ?_
  refine z_iconst (v := 0) X dX2_begin_21 (by decide) ?_
  refine z_put X fp_X2_49_2 dX2_begin_22 zK13 (by first | rfl | decide) (by first | rfl | decide) (Nat.le_of_ble_eq_true rfl) rfl ?_
  obtain ⟨zh16, ze17⟩ : ∃ z : Mm, z = va_up zh11 i (some (.inr (2, [.ref (i + 1), .ref (i + 2), .ref (i + 3), .ref (i + 4), .ref (i + 5), .int 1, .int 0, .int dd, .int dr, .int cc, .int on, .int cold, .int wind]))) := ⟨_, rfl⟩
  refine z_heap (h' := zh16) ze17.symm ?_
  have zK18 := up_at ze17
  have zK19 := up_off ze17 (show i + 1 ≠ i by omega) zK14
  have zK20 := up_off ze17 (show i + 2 ≠ i by omega) zK15
  refine z_aload_n X 0 dX2_begin_25 rfl ?_
  refine z_iconst (v := 0) X dX2_begin_26 (by decide) ?_
  refine z_put X fp_X2_52_2 dX2_begin_27 zK18 (by first | rfl | decide) (by first | rfl | decide) (Nat.le_of_ble_eq_true rfl) rfl ?_
  obtain ⟨zh21, ze22⟩ : ∃ z : Mm, z = va_up zh16 i (some (.inr (2, [.ref (i + 1), .ref (i + 2), .ref (i + 3), .ref (i + 4), .ref (i + 5), .int 1, .int 0, .int 0, .int dr, .int cc, .int on, .int cold, .int wind]))) := ⟨_, rfl⟩
  refine z_heap (h' := zh21) ze22.symm ?_
  have zK23 := up_at ze22
  have zK24 := up_off ze22 (show i + 1 ≠ i by omega) zK19
  have zK25 := up_off ze22 (show i + 2 ≠ i by omega) zK20
  refine z_aload_n X 0 dX2_begin_30 rfl ?_
  refine z_iconst (v := 0) X dX2_begin_31 (by decide) ?_
  refine z_put X fp_X2_55_2 dX2_begin_32 zK23 (by first | rfl | decide) (by first | rfl | decide) (Nat.le_of_ble_eq_true rfl) rfl ?_
  obtain ⟨zh26, ze27⟩ : ∃ z : Mm, z = va_up zh21 i (some (.inr (2, [.ref (i + 1), .ref (i + 2), .ref (i + 3), .ref (i + 4), .ref (i + 5), .int 1, .int 0, .int 0, .int 0, .int cc, .int on, .int cold, .int wind]))) := ⟨_, rfl⟩
  refine z_heap (h' := zh26) ze27.symm ?_
  have zK28 := up_at ze27
  have zK29 := up_off ze27 (show i + 1 ≠ i by omega) zK24
  have zK30 := up_off ze27 (show i + 2 ≠ i by omega) zK25
  refine z_vret X E dX2_begin_35 (by omega) (by omega) ⟨?_, ?_, ?_⟩
  · rfl
  · funext zz; by_cases zq2 : zz = i + 2; (rw [zq2, va_up_self]; exact zK30); by_cases zq1 : zz = i + 1; (rw [zq1, va_up_ne _ _ (show i + 1 ≠ i + 2 by omega), va_up_self]; exact zK29); by_cases zq0 : zz = i; (rw [zq0, va_up_ne _ _ (show i ≠ i + 2 by omega), va_up_ne _ _ (show i ≠ i + 1 by omega), va_up_self]; exact zK28); rw [va_up_ne _ _ zq2, va_up_ne _ _ zq1, va_up_ne _ _ zq0]; rw [ze27, ze22, ze17, ze12, ze7, ze2]; simp only [va_up, if_neg zq0, if_neg zq1, if_neg zq2]
  · rfl
