set_option maxHeartbeats 4000000 in
set_option maxRecDepth 100000 in
theorem r_in {κ : Wc} {l : Launch} {h : Mm} {n : Nat} {v : Int64} {lo : Int64} {hi : Int64}   : Con κ l yX12_in cX12_in 6 (some .boolean) 1 0 0 [.long v, .long lo, .long hi] h n (fun q h' n' => (q = some (.int (b2i (lo.toInt ≤ v.toInt ∧ v.toInt ≤ hi.toInt)))) ∧ h' = h ∧ n' = n) := by
  refine Con.of mk_X12_in (Nat.le_of_ble_eq_true rfl) (fun G hG X E => ?_)
  subst hG
  refine z_ls (ls' := [(0, .long v), (2, .long lo), (4, .long hi)]) rfl ?_
  refine z_lload_n X 0 dX12_in_0 rfl ?_
  refine z_lload_n X 1 dX12_in_1 rfl ?_
  refine z_lcmp X dX12_in_2 ?_
  refine z_if_lt X 17 dX12_in_3 (by decide) (fun zc1 => ?_) (fun zc1 => ?_)
  · refine z_iconst (v := 0) X dX12_in_17 (by decide) ?_
    refine z_zret X E dX12_in_18 (by first | rfl | exact b2i_nar _) (by omega) (by omega) ⟨?_, ?_, ?_⟩
    · simp only [lg_cmp_lt, lg_cmp_gt, Int64.lt_iff_toInt_lt] at *; first | rw [b2i_1 (by omega)] | rw [b2i_0 (by omega)]
    · first | rfl | (funext zz; simp only [va_up]; (repeat' split) <;> first | rfl | (exfalso; omega) | simp_all)
    · rfl
  · refine z_lload_n X 0 dX12_in_6 rfl ?_
    refine z_lload X 2 dX12_in_7 rfl ?_
    refine z_lcmp X dX12_in_9 ?_
    refine z_if_gt X 17 dX12_in_10 (by decide) (fun zc2 => ?_) (fun zc2 => ?_)
    · refine z_iconst (v := 0) X dX12_in_17 (by decide) ?_
      refine z_zret X E dX12_in_18 (by first | rfl | exact b2i_nar _) (by omega) (by omega) ⟨?_, ?_, ?_⟩
      · simp only [lg_cmp_lt, lg_cmp_gt, Int64.lt_iff_toInt_lt] at *; first | rw [b2i_1 (by omega)] | rw [b2i_0 (by omega)]
      · first | rfl | (funext zz; simp only [va_up]; (repeat' split) <;> first | rfl | (exfalso; omega) | simp_all)
      · rfl
    · refine z_iconst (v := 1) X dX12_in_13 (by decide) ?_
      refine z_goto X 18 dX12_in_14 (by decide) ?_
      refine z_zret X E dX12_in_18 (by first | rfl | exact b2i_nar _) (by omega) (by omega) ⟨?_, ?_, ?_⟩
      · simp only [lg_cmp_lt, lg_cmp_gt, Int64.lt_iff_toInt_lt] at *; first | rw [b2i_1 (by omega)] | rw [b2i_0 (by omega)]
      · first | rfl | (funext zz; simp only [va_up]; (repeat' split) <;> first | rfl | (exfalso; omega) | simp_all)
      · rfl
def held (v lo hi : Int32) : Int32 := if v < lo then lo else if hi < v then hi else v
set_option maxHeartbeats 4000000 in
set_option maxRecDepth 100000 in
theorem r_held {κ : Wc} {l : Launch} {h : Mm} {n : Nat} {v : Int32} {lo : Int32} {hi : Int32}   : Con κ l yX12_held cX12_held 3 (some .int) 1 0 0 [.int v, .int lo, .int hi] h n (fun q h' n' => q = some (.int (held v lo hi)) ∧ h' = h ∧ n' = n) := by
  refine Con.of mk_X12_held (Nat.le_of_ble_eq_true rfl) (fun G hG X E => ?_)
  subst hG
  refine z_ls (ls' := [(0, .int v), (1, .int lo), (2, .int hi)]) rfl ?_
  refine z_iload_n X 0 dX12_held_0 rfl ?_
  refine z_iload_n X 1 dX12_held_1 rfl ?_
  refine z_icmp_ge X 9 dX12_held_2 (by decide) (fun zc1 => ?_) (fun zc1 => ?_)
  · refine z_iload_n X 0 dX12_held_9 rfl ?_
    refine z_iload_n X 2 dX12_held_10 rfl ?_
    refine z_icmp_le X 18 dX12_held_11 (by decide) (fun zc2 => ?_) (fun zc2 => ?_)
    · refine z_iload_n X 0 dX12_held_18 rfl ?_
      refine z_iret X E dX12_held_19 (by omega) (by omega) ⟨?_, ?_, ?_⟩
      · simp only [i_lt, i_le, held] at *; first | rw [if_pos (by omega)] | rw [if_neg (by omega), if_pos (by omega)] | rw [if_neg (by omega), if_neg (by omega)]
      · first | rfl | (funext zz; simp only [va_up]; (repeat' split) <;> first | rfl | (exfalso; omega) | simp_all)
      · rfl
    · refine z_iload_n X 2 dX12_held_14 rfl ?_
      refine z_goto X 19 dX12_held_15 (by decide) ?_
      refine z_iret X E dX12_held_19 (by omega) (by omega) ⟨?_, ?_, ?_⟩
      · simp only [i_lt, i_le, held] at *; first | rw [if_pos (by omega)] | rw [if_neg (by omega), if_pos (by omega)] | rw [if_neg (by omega), if_neg (by omega)]
      · first | rfl | (funext zz; simp only [va_up]; (repeat' split) <;> first | rfl | (exfalso; omega) | simp_all)
      · rfl
  · refine z_iload_n X 1 dX12_held_5 rfl ?_
    refine z_goto X 19 dX12_held_6 (by decide) ?_
    refine z_iret X E dX12_held_19 (by omega) (by omega) ⟨?_, ?_, ?_⟩
    · simp only [i_lt, i_le, held] at *; first | rw [if_pos (by omega)] | rw [if_neg (by omega), if_pos (by omega)] | rw [if_neg (by omega), if_neg (by omega)]
    · first | rfl | (funext zz; simp only [va_up]; (repeat' split) <;> first | rfl | (exfalso; omega) | simp_all)
    · rfl
set_option maxHeartbeats 4000000 in
set_option maxRecDepth 100000 in
theorem r_copies {κ : Wc} {l : Launch} {h : Mm} {n : Nat} {a : Nat} {b : Nat} {f : Nat → Int32} {g : Nat → Int32} (K0 : h a = arI κ 340 f) (K1 : h b = arI κ 340 g) (p1 : a ≠ b) : Con κ l yX12_copies cX12_copies 3 none 1 0 0 [.ref a, .ref b] h n (fun q h' n' => q = none ∧ h' = va_up h b (arI κ 340 f) ∧ n' = n) := by
  refine Con.of mk_X12_copies (Nat.le_of_ble_eq_true rfl) (fun G hG X E => ?_)
  subst hG
  refine z_ls (ls' := [(0, .ref a), (1, .ref b)]) rfl ?_
  refine z_iconst (v := 0) X dX12_copies_0 (by decide) ?_
  refine z_istore_n (ls' := [(2, .int 0), (0, .ref a), (1, .ref b)]) X dX12_copies_1 (by decide) rfl ?_
  have L2 : ∀ (jj : Nat) (hh2 : Mm)  (i : Nat) (e : Nat → Int32), (340 - i < jj) → (hh2 = va_up h b (arI κ 340 e)) → (hi : i ≤ 340) → (hg : ∀ k, k < i → e k = f k) → Z κ G 3 2 [(0, .ref a), (1, .ref b), (2, .int (nI i))] [] hh2 n 0 (0) := by
    intro jj
    induction jj with
    | zero => intro hh2 i e hmu; exact absurd hmu (Nat.not_lt_zero _)
    | succ jj ih2 =>
      intro hh2 i e hmu he2 hi hg
      have zK1 : hh2 a = arI κ 340 f := by rw [he2]; rw [va_up_ne _ _ (show a ≠ b by omega)]; exact K0
      have zK2 : hh2 b = arI κ 340 e := by rw [he2]; exact va_up_self _ _ _
      refine z_iload_n X 2 dX12_copies_2 rfl ?_
      refine z_sipush (v := 340) X dX12_copies_3 (by decide) ?_
      refine z_icmp_ge X 21 dX12_copies_6 (by decide) (fun zc3 => ?_) (fun zc3 => ?_)
      · try replace zc3 := (nI_leI (a := 340) (b := i) (by omega) (by omega)).mp zc3
        refine z_ext (g := f) zK2 (fun z hz => hg z (by omega)) ?_
        obtain ⟨zh4, ze5⟩ : ∃ z : Mm, z = va_up hh2 b (arI κ 340 f) := ⟨_, rfl⟩
        refine z_heap (h' := zh4) ze5.symm ?_
        have zK6 := up_off ze5 (show a ≠ b by omega) zK1
        have zK7 := up_at ze5
        refine z_vret X E dX12_copies_21 (by omega) (by omega) ⟨?_, ?_, ?_⟩
        · rfl
        · first | (rw [ze5, he2]; done) | (rw [ze5, he2]; simp only [up_up]; done) | (rw [ze5, he2]; funext zz; simp only [va_up]; (repeat' split) <;> first | rfl | (exfalso; omega) | simp_all)
        · rfl
      · try replace zc3 := mt (nI_leI (a := 340) (b := i) (by omega) (by omega)).mpr zc3
        refine z_aload_n X 1 dX12_copies_9 rfl ?_
        refine z_iload_n X 2 dX12_copies_10 rfl ?_
        refine z_aload_n X 0 dX12_copies_11 rfl ?_
        refine z_iload_n X 2 dX12_copies_12 rfl ?_
        refine z_iald2 (v := f i) X dX12_copies_13 zK1 (vp_in_nI (n := i) (by omega) (by omega)) (congrArg f (nI_clamp (n := i) (by omega))) ?_
        refine z_iast X dX12_copies_14 zK2 (vp_in_nI (n := i) (by omega) (by omega)) (congrArg (fun z => va_up hh2 b (arI κ 340 (upd e z (f i)))) (nI_clamp (n := i) (by omega))) ?_
        obtain ⟨zh8, ze9⟩ : ∃ z : Mm, z = va_up hh2 b (arI κ 340 (upd e i (f i))) := ⟨_, rfl⟩
        refine z_heap (h' := zh8) ze9.symm ?_
        have zK10 := up_off ze9 (show a ≠ b by omega) zK1
        have zK11 := up_at ze9
        refine z_iinc (v := nI (i + 1)) (ls' := [(2, .int (nI (i + 1))), (0, .ref a), (1, .ref b)]) X 2 dX12_copies_15 rfl (nI_1 (i)) (by decide) rfl ?_
        refine z_goto X 2 dX12_copies_18 (by decide) ?_
        refine z_sub (ls' := [(0, .ref a), (1, .ref b), (2, .int (nI (i + 1)))]) [1, 2, 0] rfl ?_
        exact ih2 _ (i + 1) (upd e i (f i)) (by omega) (by first | (rw [ze9, he2]; done) | (rw [ze9, he2]; simp only [up_up]; done) | (rw [ze9, he2]; funext zz; simp only [va_up]; (repeat' split) <;> first | rfl | (exfalso; omega) | simp_all)) (by first | assumption | rfl | omega) (by intro z hz; by_cases hzi : z = i; (subst hzi; exact pk_us); exact (pk_un hzi).trans (hg z (by omega)))
  refine z_sub (ls' := [(0, .ref a), (1, .ref b), (2, .int 0)]) [1, 2, 0] rfl ?_
  exact L2 _ _ 0 g (Nat.lt_succ_self _) (by first | rfl | (rw [up_same _ _ K1]) | (funext zz; simp only [va_up]; (repeat' split) <;> first | rfl | (exfalso; omega) | simp_all)) (by first | assumption | rfl | omega) (by intro z hz; omega)
def soR (m : Nat → Int32) (len c : Nat) : Int32 := 2 * m (100 + c) - (if c = 0 then m (100 + c) else m (100 + c - 1)) - (if c + 1 = len then m (100 + c) else m (100 + c + 1))
set_option maxHeartbeats 4000000 in
set_option maxRecDepth 100000 in
theorem r_standsOut {κ : Wc} {l : Launch} {h : Mm} {n : Nat} {a : Nat} {m : Nat → Int32} {len : Nat} {c : Nat} (K0 : h a = arI κ 340 m) (q1 : m 1 = nI len) (q2 : c < len) (q3 : len ≤ 40) : Con κ l yX12_standsOut cX12_standsOut 5 (some .int) 1 0 0 [.ref a, .int (nI c)] h n (fun q h' n' => q = some (.int (soR m len c)) ∧ h' = h ∧ n' = n) := by
  refine Con.of mk_X12_standsOut (Nat.le_of_ble_eq_true rfl) (fun G hG X E => ?_)
  subst hG
  refine z_ls (ls' := [(0, .ref a), (1, .int (nI c))]) rfl ?_
  refine z_aload_n X 0 dX12_standsOut_0 rfl ?_
  refine z_bipush (v := 100) X dX12_standsOut_1 (by decide) ?_
  refine z_iload_n X 1 dX12_standsOut_3 rfl ?_
  refine z_iadd X dX12_standsOut_4 ?_
  refine z_toe (y := nI (100 + c)) (nI_add (100) (c)) ?_
  refine z_iald2 (v := m (100 + c)) X dX12_standsOut_5 K0 (vp_in_nI (n := 100 + c) (by omega) (by omega)) (congrArg m (nI_clamp (n := 100 + c) (by omega))) ?_
  refine z_istore_n (ls' := [(2, .int (m (100 + c))), (0, .ref a), (1, .int (nI c))]) X dX12_standsOut_6 (by decide) rfl ?_
  refine z_iload_n X 2 dX12_standsOut_7 rfl ?_
  refine z_if_ne X 15 dX12_standsOut_8 (by decide) (fun zc1 => ?_) (fun zc1 => ?_)
  · try replace zc1 := mt (nI_eq (a := c) (b := 0) (by omega) (by omega)).mpr zc1
    refine z_aload_n X 1 dX12_standsOut_15 rfl ?_
    refine z_bipush (v := 100) X dX12_standsOut_16 (by decide) ?_
    refine z_iload_n X 2 dX12_standsOut_18 rfl ?_
    refine z_iadd X dX12_standsOut_19 ?_
    refine z_toe (y := nI (100 + c)) (nI_add (100) (c)) ?_
    refine z_iconst (v := 1) X dX12_standsOut_20 (by decide) ?_
    refine z_isub X dX12_standsOut_21 ?_
    refine z_toe (y := nI (100 + c - 1)) (pk_sub (a := 100 + c) (b := 1) (by omega)) ?_
    refine z_iald2 (v := m (100 + c - 1)) X dX12_standsOut_22 K0 (vp_in_nI (n := 100 + c - 1) (by omega) (by omega)) (congrArg m (nI_clamp (n := 100 + c - 1) (by omega))) ?_
    refine z_istore_n (ls' := [(3, .int (m (100 + c - 1))), (2, .int (m (100 + c))), (0, .ref a), (1, .int (nI c))]) X dX12_standsOut_23 (by decide) rfl ?_
    refine z_iload_n X 3 dX12_standsOut_24 rfl ?_
    refine z_aload_n X 2 dX12_standsOut_25 rfl ?_
    refine z_iconst (v := 1) X dX12_standsOut_26 (by decide) ?_
    refine z_iald2 (v := m 1) X dX12_standsOut_27 K0 (vp_in_nI (n := 1) (by omega) (by omega)) (congrArg m (nI_clamp (n := 1) (by omega))) ?_
    refine z_toe (y := nI len) (q1) ?_
    refine z_iconst (v := 1) X dX12_standsOut_28 (by decide) ?_
    refine z_isub X dX12_standsOut_29 ?_
    refine z_toe (y := nI (len - 1)) (pk_sub (a := len) (b := 1) (by omega)) ?_
    refine z_icmp_ne X 37 dX12_standsOut_30 (by decide) (fun zc2 => ?_) (fun zc2 => ?_)
    · try replace zc2 := mt (nI_eq (a := c) (b := len - 1) (by omega) (by omega)).mpr zc2
      refine z_aload_n X 2 dX12_standsOut_37 rfl ?_
      refine z_bipush (v := 100) X dX12_standsOut_38 (by decide) ?_
      refine z_iload_n X 3 dX12_standsOut_40 rfl ?_
      refine z_iadd X dX12_standsOut_41 ?_
      refine z_toe (y := nI (100 + c)) (nI_add (100) (c)) ?_
      refine z_iconst (v := 1) X dX12_standsOut_42 (by decide) ?_
      refine z_iadd X dX12_standsOut_43 ?_
      refine z_toe (y := nI (100 + c + 1)) (nI_add (100 + c) (1)) ?_
      refine z_iald2 (v := m (100 + c + 1)) X dX12_standsOut_44 K0 (vp_in_nI (n := 100 + c + 1) (by omega) (by omega)) (congrArg m (nI_clamp (n := 100 + c + 1) (by omega))) ?_
      refine z_istore (ls' := [(4, .int (m (100 + c + 1))), (3, .int (m (100 + c - 1))), (2, .int (m (100 + c))), (0, .ref a), (1, .int (nI c))]) X dX12_standsOut_45 (by decide) rfl ?_
      refine z_iconst (v := 2) X dX12_standsOut_47 (by decide) ?_
      refine z_iload_n X 2 dX12_standsOut_48 rfl ?_
      refine z_imul X dX12_standsOut_49 ?_
      refine z_iload_n X 1 dX12_standsOut_50 rfl ?_
      refine z_isub X dX12_standsOut_51 ?_
      refine z_iload X 0 dX12_standsOut_52 rfl ?_
      refine z_isub X dX12_standsOut_54 ?_
      refine z_iret X E dX12_standsOut_55 (by omega) (by omega) ⟨?_, ?_, ?_⟩
      · first | rw [soR, if_pos (by omega), if_pos (by omega)] | rw [soR, if_pos (by omega), if_neg (by omega)] | rw [soR, if_neg (by omega), if_pos (by omega)] | rw [soR, if_neg (by omega), if_neg (by omega)]
      · first | rfl | (funext zz; simp only [va_up]; (repeat' split) <;> first | rfl | (exfalso; omega) | simp_all)
      · rfl
    · try replace zc2 := (nI_eq (a := c) (b := len - 1) (by omega) (by omega)).mp zc2
      refine z_iload_n X 1 dX12_standsOut_33 rfl ?_
      refine z_goto X 45 dX12_standsOut_34 (by decide) ?_
      refine z_istore (ls' := [(4, .int (m (100 + c))), (3, .int (m (100 + c - 1))), (2, .int (m (100 + c))), (0, .ref a), (1, .int (nI c))]) X dX12_standsOut_45 (by decide) rfl ?_
      refine z_iconst (v := 2) X dX12_standsOut_47 (by decide) ?_
      refine z_iload_n X 2 dX12_standsOut_48 rfl ?_
      refine z_imul X dX12_standsOut_49 ?_
      refine z_iload_n X 1 dX12_standsOut_50 rfl ?_
      refine z_isub X dX12_standsOut_51 ?_
      refine z_iload X 0 dX12_standsOut_52 rfl ?_
      refine z_isub X dX12_standsOut_54 ?_
      refine z_iret X E dX12_standsOut_55 (by omega) (by omega) ⟨?_, ?_, ?_⟩
      · first | rw [soR, if_pos (by omega), if_pos (by omega)] | rw [soR, if_pos (by omega), if_neg (by omega)] | rw [soR, if_neg (by omega), if_pos (by omega)] | rw [soR, if_neg (by omega), if_neg (by omega)]
      · first | rfl | (funext zz; simp only [va_up]; (repeat' split) <;> first | rfl | (exfalso; omega) | simp_all)
      · rfl
  · try replace zc1 := (nI_eq (a := c) (b := 0) (by omega) (by omega)).mp zc1
    refine z_iload_n X 0 dX12_standsOut_11 rfl ?_
    refine z_goto X 23 dX12_standsOut_12 (by decide) ?_
    refine z_istore_n (ls' := [(3, .int (m (100 + c))), (2, .int (m (100 + c))), (0, .ref a), (1, .int (nI c))]) X dX12_standsOut_23 (by decide) rfl ?_
    refine z_iload_n X 3 dX12_standsOut_24 rfl ?_
    refine z_aload_n X 2 dX12_standsOut_25 rfl ?_
    refine z_iconst (v := 1) X dX12_standsOut_26 (by decide) ?_
    refine z_iald2 (v := m 1) X dX12_standsOut_27 K0 (vp_in_nI (n := 1) (by omega) (by omega)) (congrArg m (nI_clamp (n := 1) (by omega))) ?_
    refine z_toe (y := nI len) (q1) ?_
    refine z_iconst (v := 1) X dX12_standsOut_28 (by decide) ?_
    refine z_isub X dX12_standsOut_29 ?_
    refine z_toe (y := nI (len - 1)) (pk_sub (a := len) (b := 1) (by omega)) ?_
    refine z_icmp_ne X 37 dX12_standsOut_30 (by decide) (fun zc3 => ?_) (fun zc3 => ?_)
    · try replace zc3 := mt (nI_eq (a := c) (b := len - 1) (by omega) (by omega)).mpr zc3
      refine z_aload_n X 2 dX12_standsOut_37 rfl ?_
      refine z_bipush (v := 100) X dX12_standsOut_38 (by decide) ?_
      refine z_iload_n X 3 dX12_standsOut_40 rfl ?_
      refine z_iadd X dX12_standsOut_41 ?_
      refine z_toe (y := nI (100 + c)) (nI_add (100) (c)) ?_
      refine z_iconst (v := 1) X dX12_standsOut_42 (by decide) ?_
      refine z_iadd X dX12_standsOut_43 ?_
      refine z_toe (y := nI (100 + c + 1)) (nI_add (100 + c) (1)) ?_
      refine z_iald2 (v := m (100 + c + 1)) X dX12_standsOut_44 K0 (vp_in_nI (n := 100 + c + 1) (by omega) (by omega)) (congrArg m (nI_clamp (n := 100 + c + 1) (by omega))) ?_
      refine z_istore (ls' := [(4, .int (m (100 + c + 1))), (3, .int (m (100 + c))), (2, .int (m (100 + c))), (0, .ref a), (1, .int (nI c))]) X dX12_standsOut_45 (by decide) rfl ?_
      refine z_iconst (v := 2) X dX12_standsOut_47 (by decide) ?_
      refine z_iload_n X 2 dX12_standsOut_48 rfl ?_
      refine z_imul X dX12_standsOut_49 ?_
      refine z_iload_n X 1 dX12_standsOut_50 rfl ?_
      refine z_isub X dX12_standsOut_51 ?_
      refine z_iload X 0 dX12_standsOut_52 rfl ?_
      refine z_isub X dX12_standsOut_54 ?_
      refine z_iret X E dX12_standsOut_55 (by omega) (by omega) ⟨?_, ?_, ?_⟩
      · first | rw [soR, if_pos (by omega), if_pos (by omega)] | rw [soR, if_pos (by omega), if_neg (by omega)] | rw [soR, if_neg (by omega), if_pos (by omega)] | rw [soR, if_neg (by omega), if_neg (by omega)]
      · first | rfl | (funext zz; simp only [va_up]; (repeat' split) <;> first | rfl | (exfalso; omega) | simp_all)
      · rfl
    · try replace zc3 := (nI_eq (a := c) (b := len - 1) (by omega) (by omega)).mp zc3
      refine z_iload_n X 1 dX12_standsOut_33 rfl ?_
      refine z_goto X 45 dX12_standsOut_34 (by decide) ?_
      refine z_istore (ls' := [(4, .int (m (100 + c))), (3, .int (m (100 + c))), (2, .int (m (100 + c))), (0, .ref a), (1, .int (nI c))]) X dX12_standsOut_45 (by decide) rfl ?_
      refine z_iconst (v := 2) X dX12_standsOut_47 (by decide) ?_
      refine z_iload_n X 2 dX12_standsOut_48 rfl ?_
      refine z_imul X dX12_standsOut_49 ?_
      refine z_iload_n X 1 dX12_standsOut_50 rfl ?_
      refine z_isub X dX12_standsOut_51 ?_
      refine z_iload X 0 dX12_standsOut_52 rfl ?_
      refine z_isub X dX12_standsOut_54 ?_
      refine z_iret X E dX12_standsOut_55 (by omega) (by omega) ⟨?_, ?_, ?_⟩
      · first | rw [soR, if_pos (by omega), if_pos (by omega)] | rw [soR, if_pos (by omega), if_neg (by omega)] | rw [soR, if_neg (by omega), if_pos (by omega)] | rw [soR, if_neg (by omega), if_neg (by omega)]
      · first | rfl | (funext zz; simp only [va_up]; (repeat' split) <;> first | rfl | (exfalso; omega) | simp_all)
      · rfl
