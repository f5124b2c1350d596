set_option maxHeartbeats 4000000 in
set_option maxRecDepth 100000 in
theorem c_within {κ : Wc} {l : Launch} {h : Mm} {n : Nat} {v : Int32} {lo : Int32} {hi : Int32}   : Con κ l yX11_within cX11_within 3 (some .boolean) 1 0 0 [.int v, .int lo, .int hi] h n (fun q h' n' => (q = some (.int (b2i (lo.toInt ≤ v.toInt ∧ v.toInt ≤ hi.toInt)))) ∧ h' = h ∧ n' = n) := by
  refine Con.of mk_X11_within (Nat.le_of_ble_eq_true rfl) (fun G hG X E => ?_)
  subst hG
  refine z_ls (ls' := [(0, .int v), (1, .int lo), (2, .int hi)]) rfl ?_
  refine z_iload_n X 1 dX11_within_0 rfl ?_
  refine z_iload_n X 0 dX11_within_1 rfl ?_
  refine z_icmp_gt X 14 dX11_within_2 (by decide) (fun zc1 => ?_) (fun zc1 => ?_)
  · refine z_iconst (v := 0) X dX11_within_14 (by decide) ?_
    refine z_zret X E dX11_within_15 (by first | rfl | exact b2i_nar _) (by omega) (by omega) ⟨?_, ?_, ?_⟩
    · simp only [i_lt] at *; first | rw [b2i_1 (by omega)] | rw [b2i_0 (by omega)]
    · first | rfl | (funext zz; simp only [va_up]; (repeat' split) <;> first | rfl | (exfalso; omega) | simp_all)
    · rfl
  · refine z_iload_n X 0 dX11_within_5 rfl ?_
    refine z_iload_n X 2 dX11_within_6 rfl ?_
    refine z_icmp_gt X 14 dX11_within_7 (by decide) (fun zc2 => ?_) (fun zc2 => ?_)
    · refine z_iconst (v := 0) X dX11_within_14 (by decide) ?_
      refine z_zret X E dX11_within_15 (by first | rfl | exact b2i_nar _) (by omega) (by omega) ⟨?_, ?_, ?_⟩
      · simp only [i_lt] at *; first | rw [b2i_1 (by omega)] | rw [b2i_0 (by omega)]
      · first | rfl | (funext zz; simp only [va_up]; (repeat' split) <;> first | rfl | (exfalso; omega) | simp_all)
      · rfl
    · refine z_iconst (v := 1) X dX11_within_10 (by decide) ?_
      refine z_goto X 15 dX11_within_11 (by decide) ?_
      refine z_zret X E dX11_within_15 (by first | rfl | exact b2i_nar _) (by omega) (by omega) ⟨?_, ?_, ?_⟩
      · simp only [i_lt] at *; first | rw [b2i_1 (by omega)] | rw [b2i_0 (by omega)]
      · first | rfl | (funext zz; simp only [va_up]; (repeat' split) <;> first | rfl | (exfalso; omega) | simp_all)
      · rfl
set_option maxHeartbeats 4000000 in
set_option maxRecDepth 100000 in
theorem c_Row_isMissing {κ : Wc} {l : Launch} {h : Mm} {n : Nat} {r : Nat} {sz : Int32} {bt : Int32} (K0 : h r = some (.inr (6, [.ref (r + 1), .int sz, .int bt])))  : Con κ l yX6_isMissing cX6_isMissing 1 (some .boolean) 1 0 0 [.ref r] h n (fun q h' n' => q = some (.int (b2i (bt = 0))) ∧ h' = h ∧ n' = n) := by
  refine Con.of mk_X6_isMissing (Nat.le_of_ble_eq_true rfl) (fun G hG X E => ?_)
  subst hG
  refine z_ls (ls' := [(0, .ref r)]) rfl ?_
  refine z_aload_n X 0 dX6_isMissing_0 rfl ?_
  refine z_get X fl_X6_23_6 dX6_isMissing_1 K0 rfl ?_
  refine z_if_ne X 11 dX6_isMissing_4 (by decide) (fun zc1 => ?_) (fun zc1 => ?_)
  · refine z_iconst (v := 0) X dX6_isMissing_11 (by decide) ?_
    refine z_zret X E dX6_isMissing_12 (by first | rfl | exact b2i_nar _) (by omega) (by omega) ⟨?_, ?_, ?_⟩
    · first | rw [b2i_1 (by assumption)] | rw [b2i_0 (by assumption)]
    · first | rfl | (funext zz; simp only [va_up]; (repeat' split) <;> first | rfl | (exfalso; omega) | simp_all)
    · rfl
  · refine z_iconst (v := 1) X dX6_isMissing_7 (by decide) ?_
    refine z_goto X 12 dX6_isMissing_8 (by decide) ?_
    refine z_zret X E dX6_isMissing_12 (by first | rfl | exact b2i_nar _) (by omega) (by omega) ⟨?_, ?_, ?_⟩
    · first | rw [b2i_1 (by assumption)] | rw [b2i_0 (by assumption)]
    · first | rfl | (funext zz; simp only [va_up]; (repeat' split) <;> first | rfl | (exfalso; omega) | simp_all)
    · rfl
def rowAt (k : Nat) (f : Nat → Int32) (i : Int32) : Int32 := if 0 ≤ i.toInt ∧ i.toInt < k then f i.toNatClampNeg else 0
set_option maxHeartbeats 4000000 in
set_option maxRecDepth 100000 in
theorem c_Row_at {κ : Wc} {l : Launch} {h : Mm} {n : Nat} {r : Nat} {k : Nat} {bt : Int32} {i : Int32} {N : Nat} {f : Nat → Int32} (K0 : h r = some (.inr (6, [.ref (r + 1), .int (nI k), .int bt]))) (K1 : h (r + 1) = arI κ N f) (p1 : k ≤ N) (p2 : N ≤ 1000) : Con κ l yX6_at cX6_at 2 (some .int) 2 0 0 [.ref r, .int i] h n (fun q h' n' => q = some (.int (rowAt k f i)) ∧ h' = h ∧ n' = n) := by
  refine Con.of mk_X6_at (Nat.le_of_ble_eq_true rfl) (fun G hG X E => ?_)
  subst hG
  refine z_ls (ls' := [(0, .ref r), (1, .int i)]) rfl ?_
  refine z_iload_n X 1 dX6_at_0 rfl ?_
  refine z_iconst (v := 0) X dX6_at_1 (by decide) ?_
  refine z_aload_n X 0 dX6_at_2 rfl ?_
  refine z_get X fl_X6_19_6 dX6_at_3 K0 rfl ?_
  refine z_iconst (v := 1) X dX6_at_6 (by decide) ?_
  refine z_isub X dX6_at_7 ?_
  refine z_callSN (host := "IcicleRings") X (c_within (κ := κ) (n := n) (v := (i)) (lo := (0)) (hi := ((nI k) - 1))  ) mk_X11_within dX6_at_8 (by decide +kernel) wd_257 rfl rfl (Nat.le_of_ble_eq_true rfl) (Nat.le_of_ble_eq_true rfl) (Nat.le_of_ble_eq_true rfl) (by omega) (by omega) (fun q zh1 zm3 zp4 => ?_)
  obtain ⟨rfl, ze2, zn5⟩ := zp4
  subst zm3
  subst zh1
  refine z_st (st' := [.int (b2i ((0 : Int32).toInt ≤ (i : Int32).toInt ∧ (i : Int32).toInt ≤ ((nI k) - 1 : Int32).toInt))]) rfl ?_
  refine z_toe (y := b2i (0 ≤ i.toInt ∧ i.toInt ≤ ((k : Nat) : Int) - 1)) (by simp only [i_m1 (n := k) (by omega), show (0 : Int32).toInt = 0 by decide]) ?_
  refine z_if_eq X 23 dX6_at_11 (by decide) (fun zc6 => ?_) (fun zc6 => ?_)
  · replace zc6 := b2i_f zc6
    skip
    refine z_iconst (v := 0) X dX6_at_23 (by decide) ?_
    refine z_iret X E dX6_at_24 (by omega) (by omega) ⟨?_, ?_, ?_⟩
    · first | rw [rowAt, if_pos (by omega)] | rw [rowAt, if_neg (by omega)]
    · first | rfl | (funext zz; simp only [va_up]; (repeat' split) <;> first | rfl | (exfalso; omega) | simp_all)
    · rfl
  · replace zc6 := b2i_t zc6
    skip
    refine z_aload_n X 0 dX6_at_14 rfl ?_
    refine z_get X fl_X6_13_6 dX6_at_15 K0 rfl ?_
    refine z_iload_n X 1 dX6_at_18 rfl ?_
    refine z_iald2 (v := f i.toNatClampNeg) X dX6_at_19 K1 (vin_of (by omega) (by omega)) (rfl) ?_
    refine z_goto X 24 dX6_at_20 (by decide) ?_
    refine z_iret X E dX6_at_24 (by omega) (by omega) ⟨?_, ?_, ?_⟩
    · first | rw [rowAt, if_pos (by omega)] | rw [rowAt, if_neg (by omega)]
    · first | rfl | (funext zz; simp only [va_up]; (repeat' split) <;> first | rfl | (exfalso; omega) | simp_all)
    · rfl
set_option maxHeartbeats 4000000 in
set_option maxRecDepth 100000 in
theorem c_Row_clear {κ : Wc} {l : Launch} {h : Mm} {n : Nat} {r : Nat} {sz : Int32} {bt : Int32} (K0 : h r = some (.inr (6, [.ref (r + 1), .int sz, .int bt])))  : Con κ l yX6_clear cX6_clear 1 none 1 0 0 [.ref r] h n (fun q h' n' => q = none ∧ h' = va_up h r (some (.inr (6, [.ref (r + 1), .int 0, .int bt]))) ∧ n' = n) := by
  refine Con.of mk_X6_clear (Nat.le_of_ble_eq_true rfl) (fun G hG X E => ?_)
  subst hG
  refine z_ls (ls' := [(0, .ref r)]) rfl ?_
  refine z_aload_n X 0 dX6_clear_0 rfl ?_
  refine z_iconst (v := 0) X dX6_clear_1 (by decide) ?_
  refine z_put X fp_X6_19_6 dX6_clear_2 K0 (by first | rfl | decide) (by first | rfl | decide) (Nat.le_of_ble_eq_true rfl) rfl ?_
  obtain ⟨zh1, ze2⟩ : ∃ z : Mm, z = va_up h r (some (.inr (6, [.ref (r + 1), .int 0, .int bt]))) := ⟨_, rfl⟩
  refine z_heap (h' := zh1) ze2.symm ?_
  have zK3 := up_at ze2
  refine z_vret X E dX6_clear_5 (by omega) (by omega) ⟨?_, ?_, ?_⟩
  · rfl
  · first | (rw [ze2]; done) | (rw [ze2]; simp only [up_up]; done) | (rw [ze2]; funext zz; simp only [va_up]; (repeat' split) <;> first | rfl | (exfalso; omega) | simp_all)
  · rfl
set_option maxHeartbeats 4000000 in
set_option maxRecDepth 100000 in
theorem c_Row_add {κ : Wc} {l : Launch} {h : Mm} {n : Nat} {r : Nat} {k : Nat} {bt : Int32} {v : Int32} {N : Nat} {f : Nat → Int32} (K0 : h r = some (.inr (6, [.ref (r + 1), .int (nI k), .int bt]))) (K1 : h (r + 1) = arI κ N f) (p1 : k < N) (p2 : N ≤ 1000) : Con κ l yX6_add cX6_add 2 none 1 0 0 [.ref r, .int v] h n (fun q h' n' => q = none ∧ h' = va_up (va_up h r (some (.inr (6, [.ref (r + 1), .int (nI (k + 1)), .int bt])))) (r + 1) (arI κ N (upd f k v)) ∧ n' = n) := by
  refine Con.of mk_X6_add (Nat.le_of_ble_eq_true rfl) (fun G hG X E => ?_)
  subst hG
  refine z_ls (ls' := [(0, .ref r), (1, .int v)]) rfl ?_
  refine z_aload_n X 0 dX6_add_0 rfl ?_
  refine z_get X fl_X6_19_6 dX6_add_1 K0 rfl ?_
  refine z_aload_n X 0 dX6_add_4 rfl ?_
  refine z_get X fl_X6_13_6 dX6_add_5 K0 rfl ?_
  refine z_alen (t := 0) (v := nI N) X dX6_add_8 K1 rfl rfl ?_
  refine z_icmp_ge X 32 dX6_add_9 (by decide) (fun zc1 => ?_) (fun zc1 => ?_)
  · try replace zc1 := (nI_leI (a := N) (b := k) (by omega) (by omega)).mp zc1
    omega
  · try replace zc1 := mt (nI_leI (a := N) (b := k) (by omega) (by omega)).mpr zc1
    refine z_aload_n X 0 dX6_add_12 rfl ?_
    refine z_get X fl_X6_13_6 dX6_add_13 K0 rfl ?_
    refine z_aload_n X 0 dX6_add_16 rfl ?_
    refine z_get X fl_X6_19_6 dX6_add_17 K0 rfl ?_
    refine z_iload_n X 1 dX6_add_20 rfl ?_
    refine z_iast X dX6_add_21 K1 (vp_in_nI (n := k) (by omega) (by omega)) (congrArg (fun z => va_up h (r + 1) (arI κ N (upd f z v))) (nI_clamp (n := k) (by omega))) ?_
    obtain ⟨zh2, ze3⟩ : ∃ z : Mm, z = va_up h (r + 1) (arI κ N (upd f k v)) := ⟨_, rfl⟩
    refine z_heap (h' := zh2) ze3.symm ?_
    have zK4 := up_off ze3 (show r ≠ r + 1 by omega) K0
    have zK5 := up_at ze3
    refine z_aload_n X 0 dX6_add_22 rfl ?_
    refine z_dup X dX6_add_23 rfl ?_
    refine z_get X fl_X6_19_6 dX6_add_24 zK4 rfl ?_
    refine z_iconst (v := 1) X dX6_add_27 (by decide) ?_
    refine z_iadd X dX6_add_28 ?_
    refine z_toe (y := nI (k + 1)) (nI_add (k) (1)) ?_
    refine z_put X fp_X6_19_6 dX6_add_29 zK4 (by first | rfl | decide) (by first | rfl | decide) (Nat.le_of_ble_eq_true rfl) rfl ?_
    obtain ⟨zh6, ze7⟩ : ∃ z : Mm, z = va_up zh2 r (some (.inr (6, [.ref (r + 1), .int (nI (k + 1)), .int bt]))) := ⟨_, rfl⟩
    refine z_heap (h' := zh6) ze7.symm ?_
    have zK8 := up_at ze7
    have zK9 := up_off ze7 (show r + 1 ≠ r by omega) zK5
    refine z_vret X E dX6_add_32 (by omega) (by omega) ⟨?_, ?_, ?_⟩
    · rfl
    · first | (rw [ze7, ze3]; done) | (rw [ze7, ze3]; simp only [up_up]; done) | (rw [ze7, ze3]; funext zz; simp only [va_up]; (repeat' split) <;> first | rfl | (exfalso; omega) | simp_all)
    · rfl
set_option maxHeartbeats 4000000 in
set_option maxRecDepth 100000 in
theorem c_fill {κ : Wc} {l : Launch} {h : Mm} {n : Nat} {a : Nat} {v : Int32} {N : Nat} {f : Nat → Int32} (K0 : h a = arI κ N f) (p2 : N ≤ 1000) : Con κ l yJ7_fill_53178 cJ7_fill_53178 4 none 1 0 0 [.ref a, .int v] h n (fun q h' n' => q = none ∧ h' = va_up h a (arI κ N (fun _ => v)) ∧ n' = n) := by
  refine Con.of mk_J7_fill_53178 (Nat.le_of_ble_eq_true rfl) (fun G hG X E => ?_)
  subst hG
  refine z_ls (ls' := [(0, .ref a), (1, .int v)]) rfl ?_
  refine z_iconst (v := 0) X dJ7_fill_53178_0 (by decide) ?_
  refine z_istore_n (ls' := [(2, .int 0), (0, .ref a), (1, .int v)]) X dJ7_fill_53178_1 (by decide) rfl ?_
  refine z_aload_n X 1 dJ7_fill_53178_2 rfl ?_
  refine z_alen (t := 0) (v := nI N) X dJ7_fill_53178_3 K0 rfl rfl ?_
  refine z_istore_n (ls' := [(3, .int (nI N)), (2, .int 0), (0, .ref a), (1, .int v)]) X dJ7_fill_53178_4 (by decide) rfl ?_
  have L5 : ∀ (jj : Nat) (hh5 : Mm)  (i : Nat) (g : Nat → Int32), (N - i < jj) → (hh5 = va_up h a (arI κ N g)) → (hi : i ≤ N) → (hg : ∀ k, k < i → g k = v) → Z κ G 4 5 [(0, .ref a), (1, .int v), (2, .int (nI i)), (3, .int (nI N))] [] hh5 n 0 (0) := by
    intro jj
    induction jj with
    | zero => intro hh5 i g hmu; exact absurd hmu (Nat.not_lt_zero _)
    | succ jj ih5 =>
      intro hh5 i g hmu he5 hi hg
      have zK1 : hh5 a = arI κ N g := by rw [he5]; exact va_up_self _ _ _
      refine z_iload_n X 2 dJ7_fill_53178_5 rfl ?_
      refine z_iload_n X 3 dJ7_fill_53178_6 rfl ?_
      refine z_icmp_ge X 20 dJ7_fill_53178_7 (by decide) (fun zc2 => ?_) (fun zc2 => ?_)
      · try replace zc2 := (nI_leI (a := N) (b := i) (by omega) (by omega)).mp zc2
        refine z_ext (g := fun _ => v) zK1 (fun z hz => hg z (by omega)) ?_
        obtain ⟨zh3, ze4⟩ : ∃ z : Mm, z = va_up hh5 a (arI κ N (fun _ => v)) := ⟨_, rfl⟩
        refine z_heap (h' := zh3) ze4.symm ?_
        have zK5 := up_at ze4
        refine z_vret X E dJ7_fill_53178_20 (by omega) (by omega) ⟨?_, ?_, ?_⟩
        · rfl
        · first | (rw [ze4, he5]; done) | (rw [ze4, he5]; simp only [up_up]; done) | (rw [ze4, he5]; funext zz; simp only [va_up]; (repeat' split) <;> first | rfl | (exfalso; omega) | simp_all)
        · rfl
      · try replace zc2 := mt (nI_leI (a := N) (b := i) (by omega) (by omega)).mpr zc2
        refine z_aload_n X 0 dJ7_fill_53178_10 rfl ?_
        refine z_iload_n X 2 dJ7_fill_53178_11 rfl ?_
        refine z_iload_n X 1 dJ7_fill_53178_12 rfl ?_
        refine z_iast X dJ7_fill_53178_13 zK1 (vp_in_nI (n := i) (by omega) (by omega)) (congrArg (fun z => va_up hh5 a (arI κ N (upd g z v))) (nI_clamp (n := i) (by omega))) ?_
        obtain ⟨zh6, ze7⟩ : ∃ z : Mm, z = va_up hh5 a (arI κ N (upd g i v)) := ⟨_, rfl⟩
        refine z_heap (h' := zh6) ze7.symm ?_
        have zK8 := up_at ze7
        refine z_iinc (v := nI (i + 1)) (ls' := [(2, .int (nI (i + 1))), (0, .ref a), (1, .int v), (3, .int (nI N))]) X 2 dJ7_fill_53178_14 rfl (nI_1 (i)) (by decide) rfl ?_
        refine z_goto X 5 dJ7_fill_53178_17 (by decide) ?_
        refine z_sub (ls' := [(0, .ref a), (1, .int v), (2, .int (nI (i + 1))), (3, .int (nI N))]) [1, 2, 0, 3] rfl ?_
        exact ih5 _ (i + 1) (upd g i v) (by omega) (by first | (rw [ze7, he5]; done) | (rw [ze7, he5]; simp only [up_up]; done) | (rw [ze7, he5]; funext zz; simp only [va_up]; (repeat' split) <;> first | rfl | (exfalso; omega) | simp_all)) (by first | assumption | rfl | omega) (by intro z hz; by_cases hzi : z = i; (subst hzi; exact pk_us); exact (pk_un hzi).trans (hg z (by omega)))
  refine z_sub (ls' := [(0, .ref a), (1, .int v), (2, .int 0), (3, .int (nI N))]) [2, 3, 1, 0] rfl ?_
  exact L5 _ _ 0 f (Nat.lt_succ_self _) (by first | rfl | (rw [up_same _ _ K0]) | (funext zz; simp only [va_up]; (repeat' split) <;> first | rfl | (exfalso; omega) | simp_all)) (by first | assumption | rfl | omega) (by intro z hz; omega)
def sumN (f : Nat → Int32) : Nat → Int32
  | 0 => 0
  | n + 1 => sumN f n + f n
set_option maxHeartbeats 4000000 in
set_option maxRecDepth 100000 in
theorem c_Row_sum {κ : Wc} {l : Launch} {h : Mm} {n : Nat} {r : Nat} {k : Nat} {bt : Int32} {N : Nat} {f : Nat → Int32} (K0 : h r = some (.inr (6, [.ref (r + 1), .int (nI k), .int bt]))) (K1 : h (r + 1) = arI κ N f) (p1 : k ≤ N) (p2 : N ≤ 1000) : Con κ l yX6_sum cX6_sum 3 (some .int) 1 0 0 [.ref r] h n (fun q h' n' => q = some (.int (sumN f k)) ∧ h' = h ∧ n' = n) := by
  refine Con.of mk_X6_sum (Nat.le_of_ble_eq_true rfl) (fun G hG X E => ?_)
  subst hG
  refine z_ls (ls' := [(0, .ref r)]) rfl ?_
  refine z_iconst (v := 0) X dX6_sum_0 (by decide) ?_
  refine z_istore_n (ls' := [(1, .int 0), (0, .ref r)]) X dX6_sum_1 (by decide) rfl ?_
  refine z_iconst (v := 0) X dX6_sum_2 (by decide) ?_
  refine z_istore_n (ls' := [(2, .int 0), (1, .int 0), (0, .ref r)]) X dX6_sum_3 (by decide) rfl ?_
  have L4 : ∀ (jj : Nat)  (i : Nat), (k - i < jj) → (hi : i ≤ k) → Z κ G 3 4 [(0, .ref r), (1, .int (sumN f i)), (2, .int (nI i))] [] h n 0 (0) := by
    intro jj
    induction jj with
    | zero => intro  i hmu; exact absurd hmu (Nat.not_lt_zero _)
    | succ jj ih4 =>
      intro  i hmu  hi
      refine z_iload_n X 2 dX6_sum_4 rfl ?_
      refine z_aload_n X 0 dX6_sum_5 rfl ?_
      refine z_get X fl_X6_19_6 dX6_sum_6 K0 rfl ?_
      refine z_icmp_ge X 27 dX6_sum_9 (by decide) (fun zc3 => ?_) (fun zc3 => ?_)
      · try replace zc3 := (nI_leI (a := k) (b := i) (by omega) (by omega)).mp zc3
        refine z_iload_n X 1 dX6_sum_27 rfl ?_
        refine z_iret X E dX6_sum_28 (by omega) (by omega) ⟨?_, ?_, ?_⟩
        · rw [show i = k by omega]
        · first | rfl | (funext zz; simp only [va_up]; (repeat' split) <;> first | rfl | (exfalso; omega) | simp_all)
        · rfl
      · try replace zc3 := mt (nI_leI (a := k) (b := i) (by omega) (by omega)).mpr zc3
        refine z_iload_n X 1 dX6_sum_12 rfl ?_
        refine z_aload_n X 0 dX6_sum_13 rfl ?_
        refine z_get X fl_X6_13_6 dX6_sum_14 K0 rfl ?_
        refine z_iload_n X 2 dX6_sum_17 rfl ?_
        refine z_iald2 (v := f i) X dX6_sum_18 K1 (vp_in_nI (n := i) (by omega) (by omega)) (congrArg f (nI_clamp (n := i) (by omega))) ?_
        refine z_iadd X dX6_sum_19 ?_
        refine z_istore_n (ls' := [(1, .int ((sumN f i) + (f i))), (0, .ref r), (2, .int (nI i))]) X dX6_sum_20 (by decide) rfl ?_
        refine z_iinc (v := nI (i + 1)) (ls' := [(2, .int (nI (i + 1))), (1, .int ((sumN f i) + (f i))), (0, .ref r)]) X 2 dX6_sum_21 rfl (nI_1 (i)) (by decide) rfl ?_
        refine z_goto X 4 dX6_sum_24 (by decide) ?_
        refine z_sub (ls' := [(0, .ref r), (1, .int ((sumN f i) + (f i))), (2, .int (nI (i + 1)))]) [2, 1, 0] rfl ?_
        exact ih4 (i + 1) (by omega) (by first | assumption | rfl | omega)
  refine z_sub (ls' := [(0, .ref r), (1, .int 0), (2, .int 0)]) [2, 1, 0] rfl ?_
  exact L4 _ 0 (Nat.lt_succ_self _) (by first | assumption | rfl | omega)
/-- the first place from i on, of j places, at which f and g differ; else the place behind them -/
def funl (f g : Nat → Int32) : Nat → Nat → Nat
  | i, 0 => i
  | i, j + 1 => if f i = g i then funl f g (i + 1) j else i
def unl (f g : Nat → Int32) (k k' : Nat) : Int32 := if funl f g 0 (min k k') < min k k' then nI (funl f g 0 (min k k')) else if k = k' then -1 else nI (min k k')
theorem funl_le (f g : Nat → Int32) : ∀ (j i : Nat), i ≤ funl f g i j ∧ funl f g i j ≤ i + j := by
  intro j
  induction j with
  | zero => intro i; exact ⟨Nat.le_refl _, Nat.le_refl _⟩
  | succ j ih =>
    intro i
    unfold funl
    split
    · have := ih (i + 1); omega
    · omega
theorem funl_step {f g : Nat → Int32} {i b : Nat} (hi : i < b) (h : f i = g i) : funl f g i (b - i) = funl f g (i + 1) (b - (i + 1)) := by
  rw [show b - i = (b - (i + 1)) + 1 by omega, funl, if_pos h]
theorem funl_stop {f g : Nat → Int32} {i b : Nat} (hi : i < b) (h : ¬ f i = g i) : funl f g i (b - i) = i := by
  rw [show b - i = (b - (i + 1)) + 1 by omega, funl, if_neg h]
theorem nI_min {a b : Nat} (ha : a < 2 ^ 31) (hb : b < 2 ^ 31) : (if nI b < nI a then nI b else nI a) = nI (min a b) := by
  by_cases h : b < a
  · rw [if_pos ((nI_ltI hb ha).mpr h), Nat.min_eq_right (by omega)]
  · rw [if_neg (mt (nI_ltI hb ha).mp h), Nat.min_eq_left (by omega)]
theorem nI_max {a b : Nat} (ha : a < 2 ^ 31) (hb : b < 2 ^ 31) : (if nI a < nI b then nI b else nI a) = nI (max a b) := by
  by_cases h : a < b
  · rw [if_pos ((nI_ltI ha hb).mpr h), Nat.max_eq_right (by omega)]
  · rw [if_neg (mt (nI_ltI ha hb).mp h), Nat.max_eq_left (by omega)]
set_option maxHeartbeats 4000000 in
set_option maxRecDepth 100000 in
theorem c_Row_firstUnlike {κ : Wc} {l : Launch} {h : Mm} {n : Nat} {r : Nat} {r2 : Nat} {k : Nat} {k2 : Nat} {bt : Int32} {bt2 : Int32} {N : Nat} {f : Nat → Int32} {N2 : Nat} {f2 : Nat → Int32} (K0 : h r = some (.inr (6, [.ref (r + 1), .int (nI k), .int bt]))) (K1 : h (r + 1) = arI κ N f) (K2 : h r2 = some (.inr (6, [.ref (r2 + 1), .int (nI k2), .int bt2]))) (K3 : h (r2 + 1) = arI κ N2 f2) (p1 : k ≤ N) (p2 : N ≤ 1000) (p3 : k2 ≤ N2) (p4 : N2 ≤ 1000) : Con κ l yX6_firstUnlike cX6_firstUnlike 4 (some .int) 2 0 0 [.ref r, .ref r2] h n (fun q h' n' => q = some (.int (unl f f2 k k2)) ∧ h' = h ∧ n' = n) := by
  refine Con.of mk_X6_firstUnlike (Nat.le_of_ble_eq_true rfl) (fun G hG X E => ?_)
  subst hG
  refine z_ls (ls' := [(0, .ref r), (1, .ref r2)]) rfl ?_
  refine z_aload_n X 0 dX6_firstUnlike_0 rfl ?_
  refine z_get X fl_X6_19_6 dX6_firstUnlike_1 K0 rfl ?_
  refine z_aload_n X 1 dX6_firstUnlike_4 rfl ?_
  refine z_get X fl_X6_19_6 dX6_firstUnlike_5 K2 rfl ?_
  refine z_mmin X dX6_firstUnlike_8 wd_763 wd_296 wd_63 wd_297 (Nat.le_of_ble_eq_true rfl) (Nat.le_of_ble_eq_true rfl) (Nat.le_of_ble_eq_true rfl) (Nat.le_of_ble_eq_true rfl) ?_
  refine z_toe (y := nI (min k k2)) (nI_min (by omega) (by omega)) ?_
  refine z_istore_n (ls' := [(2, .int (nI (min k k2))), (0, .ref r), (1, .ref r2)]) X dX6_firstUnlike_11 (by decide) rfl ?_
  refine z_iconst (v := 0) X dX6_firstUnlike_12 (by decide) ?_
  refine z_istore_n (ls' := [(3, .int 0), (2, .int (nI (min k k2))), (0, .ref r), (1, .ref r2)]) X dX6_firstUnlike_13 (by decide) rfl ?_
  have L14 : ∀ (jj : Nat)  (i : Nat), (min k k2 - i < jj) → (hi : i ≤ min k k2) → (hf : funl f f2 0 (min k k2) = funl f f2 i (min k k2 - i)) → Z κ G 4 14 [(0, .ref r), (1, .ref r2), (2, .int (nI (min k k2))), (3, .int (nI i))] [] h n 0 (0) := by
    intro jj
    induction jj with
    | zero => intro  i hmu; exact absurd hmu (Nat.not_lt_zero _)
    | succ jj ih14 =>
      intro  i hmu  hi hf
      refine z_iload_n X 3 dX6_firstUnlike_14 rfl ?_
      refine z_iload_n X 2 dX6_firstUnlike_15 rfl ?_
      refine z_icmp_ge X 42 dX6_firstUnlike_16 (by decide) (fun zc5 => ?_) (fun zc5 => ?_)
      · try replace zc5 := (nI_leI (a := min k k2) (b := i) (by omega) (by omega)).mp zc5
        refine z_aload_n X 0 dX6_firstUnlike_42 rfl ?_
        refine z_get X fl_X6_19_6 dX6_firstUnlike_43 K0 rfl ?_
        refine z_aload_n X 1 dX6_firstUnlike_46 rfl ?_
        refine z_get X fl_X6_19_6 dX6_firstUnlike_47 K2 rfl ?_
        refine z_icmp_ne X 57 dX6_firstUnlike_50 (by decide) (fun zc6 => ?_) (fun zc6 => ?_)
        · try replace zc6 := mt (nI_eq (a := k) (b := k2) (by omega) (by omega)).mpr zc6
          refine z_iload_n X 2 dX6_firstUnlike_57 rfl ?_
          refine z_iret X E dX6_firstUnlike_58 (by omega) (by omega) ⟨?_, ?_, ?_⟩
          · rw [unl, hf, show i = min k k2 by omega, Nat.sub_self, funl, if_neg (Nat.lt_irrefl _)]; first | rw [if_pos (by omega)] | rw [if_neg (by omega)]
          · first | rfl | (funext zz; simp only [va_up]; (repeat' split) <;> first | rfl | (exfalso; omega) | simp_all)
          · rfl
        · try replace zc6 := (nI_eq (a := k) (b := k2) (by omega) (by omega)).mp zc6
          refine z_iconst (v := -1) X dX6_firstUnlike_53 (by decide) ?_
          refine z_goto X 58 dX6_firstUnlike_54 (by decide) ?_
          refine z_iret X E dX6_firstUnlike_58 (by omega) (by omega) ⟨?_, ?_, ?_⟩
          · rw [unl, hf, show i = min k k2 by omega, Nat.sub_self, funl, if_neg (Nat.lt_irrefl _)]; first | rw [if_pos (by omega)] | rw [if_neg (by omega)]
          · first | rfl | (funext zz; simp only [va_up]; (repeat' split) <;> first | rfl | (exfalso; omega) | simp_all)
          · rfl
      · try replace zc5 := mt (nI_leI (a := min k k2) (b := i) (by omega) (by omega)).mpr zc5
        refine z_aload_n X 0 dX6_firstUnlike_19 rfl ?_
        refine z_get X fl_X6_13_6 dX6_firstUnlike_20 K0 rfl ?_
        refine z_iload_n X 3 dX6_firstUnlike_23 rfl ?_
        refine z_iald2 (v := f i) X dX6_firstUnlike_24 K1 (vp_in_nI (n := i) (by omega) (by omega)) (congrArg f (nI_clamp (n := i) (by omega))) ?_
        refine z_aload_n X 1 dX6_firstUnlike_25 rfl ?_
        refine z_get X fl_X6_13_6 dX6_firstUnlike_26 K2 rfl ?_
        refine z_iload_n X 3 dX6_firstUnlike_29 rfl ?_
        refine z_iald2 (v := f2 i) X dX6_firstUnlike_30 K3 (vp_in_nI (n := i) (by omega) (by omega)) (congrArg f2 (nI_clamp (n := i) (by omega))) ?_
        refine z_icmp_eq X 36 dX6_firstUnlike_31 (by decide) (fun zc7 => ?_) (fun zc7 => ?_)
        · refine z_iinc (v := nI (i + 1)) (ls' := [(3, .int (nI (i + 1))), (0, .ref r), (1, .ref r2), (2, .int (nI (min k k2)))]) X 3 dX6_firstUnlike_36 rfl (nI_1 (i)) (by decide) rfl ?_
          refine z_goto X 14 dX6_firstUnlike_39 (by decide) ?_
          refine z_sub (ls' := [(0, .ref r), (1, .ref r2), (2, .int (nI (min k k2))), (3, .int (nI (i + 1)))]) [1, 2, 3, 0] rfl ?_
          exact ih14 (i + 1) (by omega) (by first | assumption | rfl | omega) (by rw [hf]; exact funl_step (by omega) (by assumption))
        · refine z_iload_n X 3 dX6_firstUnlike_34 rfl ?_
          refine z_iret X E dX6_firstUnlike_35 (by omega) (by omega) ⟨?_, ?_, ?_⟩
          · rw [unl, hf, funl_stop (by omega) (by assumption), if_pos (by omega)]
          · first | rfl | (funext zz; simp only [va_up]; (repeat' split) <;> first | rfl | (exfalso; omega) | simp_all)
          · rfl
  refine z_sub (ls' := [(0, .ref r), (1, .ref r2), (2, .int (nI (min k k2))), (3, .int 0)]) [2, 3, 1, 0] rfl ?_
  exact L14 _ 0 (Nat.lt_succ_self _) (by first | assumption | rfl | omega) (by first | assumption | rfl | omega)
set_option maxHeartbeats 4000000 in
set_option maxRecDepth 100000 in
theorem c_Row_become {κ : Wc} {l : Launch} {h : Mm} {n : Nat} {r : Nat} {r2 : Nat} {k : Nat} {k2 : Nat} {bt : Int32} {bt2 : Int32} {N : Nat} {f : Nat → Int32} {f2 : Nat → Int32} (K0 : h r = some (.inr (6, [.ref (r + 1), .int (nI k), .int bt]))) (K1 : h (r + 1) = arI κ N f) (K2 : h r2 = some (.inr (6, [.ref (r2 + 1), .int (nI k2), .int bt2]))) (K3 : h (r2 + 1) = arI κ N f2) (p1 : k ≤ N) (p2 : N ≤ 1000) (p3 : k2 ≤ N) (p5 : r + 1 < r2 ∨ r2 + 1 < r) : Con κ l yX6_become cX6_become 2 none 2 0 0 [.ref r, .ref r2] h n (fun q h' n' => q = none ∧ h' = va_up (va_up h r (some (.inr (6, [.ref (r + 1), .int (nI k2), .int bt])))) (r + 1) (arI κ N (va_cpy f2 f 0 0 k2)) ∧ n' = n) := by
  refine Con.of mk_X6_become (Nat.le_of_ble_eq_true rfl) (fun G hG X E => ?_)
  subst hG
  refine z_ls (ls' := [(0, .ref r), (1, .ref r2)]) rfl ?_
  refine z_aload_n X 0 dX6_become_0 rfl ?_
  refine z_aload_n X 1 dX6_become_1 rfl ?_
  refine z_get X fl_X6_19_6 dX6_become_2 K2 rfl ?_
  refine z_aload_n X 0 dX6_become_5 rfl ?_
  refine z_get X fl_X6_13_6 dX6_become_6 K0 rfl ?_
  refine z_alen (t := 0) (v := nI N) X dX6_become_9 K1 rfl rfl ?_
  refine z_mmin X dX6_become_10 wd_763 wd_296 wd_63 wd_297 (Nat.le_of_ble_eq_true rfl) (Nat.le_of_ble_eq_true rfl) (Nat.le_of_ble_eq_true rfl) (Nat.le_of_ble_eq_true rfl) ?_
  refine z_toe (y := nI k2) (by rw [nI_min (by omega) (by omega), Nat.min_eq_left p3]) ?_
  refine z_put X fp_X6_19_6 dX6_become_13 K0 (by first | rfl | decide) (by first | rfl | decide) (Nat.le_of_ble_eq_true rfl) rfl ?_
  obtain ⟨zh1, ze2⟩ : ∃ z : Mm, z = va_up h r (some (.inr (6, [.ref (r + 1), .int (nI k2), .int bt]))) := ⟨_, rfl⟩
  refine z_heap (h' := zh1) ze2.symm ?_
  have zK3 := up_at ze2
  have zK4 := up_off ze2 (show r + 1 ≠ r by omega) K1
  have zK5 := up_off ze2 (show r2 ≠ r by omega) K2
  have zK6 := up_off ze2 (show r2 + 1 ≠ r by omega) K3
  refine z_aload_n X 1 dX6_become_16 rfl ?_
  refine z_get X fl_X6_13_6 dX6_become_17 zK5 rfl ?_
  refine z_iconst (v := 0) X dX6_become_20 (by decide) ?_
  refine z_aload_n X 0 dX6_become_21 rfl ?_
  refine z_get X fl_X6_13_6 dX6_become_22 zK3 rfl ?_
  refine z_iconst (v := 0) X dX6_become_25 (by decide) ?_
  refine z_aload_n X 0 dX6_become_26 rfl ?_
  refine z_get X fl_X6_19_6 dX6_become_27 zK3 rfl ?_
  refine z_copy X dX6_become_30 wd_908 wd_102 wd_101 wd_61 zK6 zK4 (by decide) (by decide) (nI_pos (by omega)) (by rw [nI_clamp (by omega)]; show 0 + k2 ≤ N; omega) (by rw [nI_clamp (by omega)]; show 0 + k2 ≤ N; omega) (Nat.le_of_ble_eq_true rfl) (Nat.le_of_ble_eq_true rfl) (by rw [nI_clamp (by omega)] <;> rfl) ?_
  obtain ⟨zh7, ze8⟩ : ∃ z : Mm, z = va_up zh1 (r + 1) (arI κ N (va_cpy f2 f 0 0 k2)) := ⟨_, rfl⟩
  refine z_heap (h' := zh7) ze8.symm ?_
  have zK9 := up_off ze8 (show r ≠ r + 1 by omega) zK3
  have zK10 := up_at ze8
  have zK11 := up_off ze8 (show r2 ≠ r + 1 by omega) zK5
  have zK12 := up_off ze8 (show r2 + 1 ≠ r + 1 by omega) zK6
  refine z_vret X E dX6_become_33 (by omega) (by omega) ⟨?_, ?_, ?_⟩
  · rfl
  · first | (rw [ze8, ze2]; done) | (rw [ze8, ze2]; simp only [up_up]; done) | (rw [ze8, ze2]; funext zz; simp only [va_up]; (repeat' split) <;> first | rfl | (exfalso; omega) | simp_all)
  · rfl
theorem sp_iff {k : Nat} {i j : Int32} (h : k ≤ 1000) : (¬ i < 0 ∧ ¬ j < 0 ∧ ¬ nI k < i ∧ ¬ nI k - i < j) ↔ (0 ≤ i.toInt ∧ 0 ≤ j.toInt ∧ i.toInt + j.toInt ≤ k) := by
  have hk := i_nI (n := k) (by omega)
  have h1 := i_hi i
  have h2 := i_hi j
  simp only [i_lt, show (0 : Int32).toInt = 0 by decide, hk]
  by_cases hi : i.toInt < 0
  · omega
  · have hs : (nI k - i).toInt = (k : Int) - i.toInt := by (rw [i_sub] <;> rw [hk] <;> omega)
    rw [hs]
    omega
set_option maxHeartbeats 4000000 in
set_option maxRecDepth 100000 in
theorem c_Row_spans {κ : Wc} {l : Launch} {h : Mm} {n : Nat} {r : Nat} {k : Nat} {bt : Int32} {i : Int32} {j : Int32} (K0 : h r = some (.inr (6, [.ref (r + 1), .int (nI k), .int bt]))) (p2 : k ≤ 1000) : Con κ l yX6_spans cX6_spans 3 (some .boolean) 1 0 0 [.ref r, .int i, .int j] h n (fun q h' n' => (q = some (.int (b2i (0 ≤ i.toInt ∧ 0 ≤ j.toInt ∧ i.toInt + j.toInt ≤ k)))) ∧ h' = h ∧ n' = n) := by
  refine Con.of mk_X6_spans (Nat.le_of_ble_eq_true rfl) (fun G hG X E => ?_)
  subst hG
  refine z_ls (ls' := [(0, .ref r), (1, .int i), (2, .int j)]) rfl ?_
  refine z_iload_n X 1 dX6_spans_0 rfl ?_
  refine z_if_lt X 30 dX6_spans_1 (by decide) (fun zc1 => ?_) (fun zc1 => ?_)
  · refine z_iconst (v := 0) X dX6_spans_30 (by decide) ?_
    refine z_zret X E dX6_spans_31 (by first | rfl | exact b2i_nar _) (by omega) (by omega) ⟨?_, ?_, ?_⟩
    · first | (refine congrArg (fun z => some (Value.int z)) (b2i_1 ((sp_iff p2).mp ?_)).symm; simp_all; done) | (refine congrArg (fun z => some (Value.int z)) (b2i_0 (mt (sp_iff p2).mpr ?_)).symm; simp_all; done)
    · first | rfl | (funext zz; simp only [va_up]; (repeat' split) <;> first | rfl | (exfalso; omega) | simp_all)
    · rfl
  · refine z_iload_n X 2 dX6_spans_4 rfl ?_
    refine z_if_lt X 30 dX6_spans_5 (by decide) (fun zc2 => ?_) (fun zc2 => ?_)
    · refine z_iconst (v := 0) X dX6_spans_30 (by decide) ?_
      refine z_zret X E dX6_spans_31 (by first | rfl | exact b2i_nar _) (by omega) (by omega) ⟨?_, ?_, ?_⟩
      · first | (refine congrArg (fun z => some (Value.int z)) (b2i_1 ((sp_iff p2).mp ?_)).symm; simp_all; done) | (refine congrArg (fun z => some (Value.int z)) (b2i_0 (mt (sp_iff p2).mpr ?_)).symm; simp_all; done)
      · first | rfl | (funext zz; simp only [va_up]; (repeat' split) <;> first | rfl | (exfalso; omega) | simp_all)
      · rfl
    · refine z_iload_n X 1 dX6_spans_8 rfl ?_
      refine z_aload_n X 0 dX6_spans_9 rfl ?_
      refine z_get X fl_X6_19_6 dX6_spans_10 K0 rfl ?_
      refine z_icmp_gt X 30 dX6_spans_13 (by decide) (fun zc3 => ?_) (fun zc3 => ?_)
      · refine z_iconst (v := 0) X dX6_spans_30 (by decide) ?_
        refine z_zret X E dX6_spans_31 (by first | rfl | exact b2i_nar _) (by omega) (by omega) ⟨?_, ?_, ?_⟩
        · first | (refine congrArg (fun z => some (Value.int z)) (b2i_1 ((sp_iff p2).mp ?_)).symm; simp_all; done) | (refine congrArg (fun z => some (Value.int z)) (b2i_0 (mt (sp_iff p2).mpr ?_)).symm; simp_all; done)
        · first | rfl | (funext zz; simp only [va_up]; (repeat' split) <;> first | rfl | (exfalso; omega) | simp_all)
        · rfl
      · refine z_iload_n X 2 dX6_spans_16 rfl ?_
        refine z_aload_n X 0 dX6_spans_17 rfl ?_
        refine z_get X fl_X6_19_6 dX6_spans_18 K0 rfl ?_
        refine z_iload_n X 1 dX6_spans_21 rfl ?_
        refine z_isub X dX6_spans_22 ?_
        refine z_icmp_gt X 30 dX6_spans_23 (by decide) (fun zc4 => ?_) (fun zc4 => ?_)
        · refine z_iconst (v := 0) X dX6_spans_30 (by decide) ?_
          refine z_zret X E dX6_spans_31 (by first | rfl | exact b2i_nar _) (by omega) (by omega) ⟨?_, ?_, ?_⟩
          · first | (refine congrArg (fun z => some (Value.int z)) (b2i_1 ((sp_iff p2).mp ?_)).symm; simp_all; done) | (refine congrArg (fun z => some (Value.int z)) (b2i_0 (mt (sp_iff p2).mpr ?_)).symm; simp_all; done)
          · first | rfl | (funext zz; simp only [va_up]; (repeat' split) <;> first | rfl | (exfalso; omega) | simp_all)
          · rfl
        · refine z_iconst (v := 1) X dX6_spans_26 (by decide) ?_
          refine z_goto X 31 dX6_spans_27 (by decide) ?_
          refine z_zret X E dX6_spans_31 (by first | rfl | exact b2i_nar _) (by omega) (by omega) ⟨?_, ?_, ?_⟩
          · first | (refine congrArg (fun z => some (Value.int z)) (b2i_1 ((sp_iff p2).mp ?_)).symm; simp_all; done) | (refine congrArg (fun z => some (Value.int z)) (b2i_0 (mt (sp_iff p2).mpr ?_)).symm; simp_all; done)
          · first | rfl | (funext zz; simp only [va_up]; (repeat' split) <;> first | rfl | (exfalso; omega) | simp_all)
          · rfl
def narB (bt x : Int32) : Int32 := if bt.toInt = 8 then x.toInt8.toInt32 else if bt.toInt = 16 then x.toInt16.toInt32 else x
def rowSet (k : Nat) (f : Nat → Int32) (bt i x : Int32) : Nat → Int32 := if 0 ≤ i.toInt ∧ i.toInt < k then upd f i.toNatClampNeg (narB bt x) else f
set_option maxHeartbeats 4000000 in
set_option maxRecDepth 100000 in
theorem c_Row_store {κ : Wc} {l : Launch} {h : Mm} {n : Nat} {r : Nat} {k : Nat} {bt : Int32} {i : Int32} {v : Int32} {N : Nat} {f : Nat → Int32} (K0 : h r = some (.inr (6, [.ref (r + 1), .int (nI k), .int bt]))) (K1 : h (r + 1) = arI κ N f) (p1 : k ≤ N) (p2 : N ≤ 1000) : Con κ l yX6_store cX6_store 3 none 2 0 0 [.ref r, .int i, .int v] h n (fun q h' n' => q = none ∧ h' = va_up h (r + 1) (arI κ N (rowSet k f bt i v)) ∧ n' = n) := by
  refine Con.of mk_X6_store (Nat.le_of_ble_eq_true rfl) (fun G hG X E => ?_)
  subst hG
  refine z_ls (ls' := [(0, .ref r), (1, .int i), (2, .int v)]) rfl ?_
  refine z_iload_n X 1 dX6_store_0 rfl ?_
  refine z_iconst (v := 0) X dX6_store_1 (by decide) ?_
  refine z_aload_n X 0 dX6_store_2 rfl ?_
  refine z_get X fl_X6_19_6 dX6_store_3 K0 rfl ?_
  refine z_iconst (v := 1) X dX6_store_6 (by decide) ?_
  refine z_isub X dX6_store_7 ?_
  refine z_callSN (host := "IcicleRings") X (c_within (κ := κ) (n := n) (v := (i)) (lo := (0)) (hi := ((nI k) - 1))  ) mk_X11_within dX6_store_8 (by decide +kernel) wd_257 rfl rfl (Nat.le_of_ble_eq_true rfl) (Nat.le_of_ble_eq_true rfl) (Nat.le_of_ble_eq_true rfl) (by omega) (by omega) (fun q zh1 zm3 zp4 => ?_)
  obtain ⟨rfl, ze2, zn5⟩ := zp4
  subst zm3
  subst zh1
  refine z_st (st' := [.int (b2i ((0 : Int32).toInt ≤ (i : Int32).toInt ∧ (i : Int32).toInt ≤ ((nI k) - 1 : Int32).toInt))]) rfl ?_
  refine z_toe (y := b2i (0 ≤ i.toInt ∧ i.toInt ≤ ((k : Nat) : Int) - 1)) (by simp only [i_m1 (n := k) (by omega), show (0 : Int32).toInt = 0 by decide]) ?_
  refine z_if_eq X 49 dX6_store_11 (by decide) (fun zc6 => ?_) (fun zc6 => ?_)
  · replace zc6 := b2i_f zc6
    skip
    refine z_vret X E dX6_store_49 (by omega) (by omega) ⟨?_, ?_, ?_⟩
    · rfl
    · rw [rowSet, if_neg (by omega)]; exact (up_same _ _ K1).symm
    · rfl
  · replace zc6 := b2i_t zc6
    skip
    refine z_aload_n X 0 dX6_store_14 rfl ?_
    refine z_get X fl_X6_13_6 dX6_store_15 K0 rfl ?_
    refine z_iload_n X 1 dX6_store_18 rfl ?_
    refine z_aload_n X 0 dX6_store_19 rfl ?_
    refine z_get X fl_X6_23_6 dX6_store_20 K0 rfl ?_
    refine z_bipush (v := 8) X dX6_store_23 (by decide) ?_
    refine z_icmp_ne X 33 dX6_store_25 (by decide) (fun zc7 => ?_) (fun zc7 => ?_)
    · refine z_aload_n X 0 dX6_store_33 rfl ?_
      refine z_get X fl_X6_23_6 dX6_store_34 K0 rfl ?_
      refine z_bipush (v := 16) X dX6_store_37 (by decide) ?_
      refine z_icmp_ne X 47 dX6_store_39 (by decide) (fun zc8 => ?_) (fun zc8 => ?_)
      · refine z_iload_n X 2 dX6_store_47 rfl ?_
        refine z_iast X dX6_store_48 K1 (vin_of (by omega) (by omega)) (rfl) ?_
        obtain ⟨zh9, ze10⟩ : ∃ z : Mm, z = va_up h (r + 1) (arI κ N (upd f i.toNatClampNeg v)) := ⟨_, rfl⟩
        refine z_heap (h' := zh9) ze10.symm ?_
        have zK11 := up_off ze10 (show r ≠ r + 1 by omega) K0
        have zK12 := up_at ze10
        refine z_vret X E dX6_store_49 (by omega) (by omega) ⟨?_, ?_, ?_⟩
        · rfl
        · rw [ze10, rowSet, if_pos (by omega), narB]; (simp only [i_eq, show (8 : Int32).toInt = 8 by decide, show (16 : Int32).toInt = 16 by decide] at *); first | rw [if_pos (by omega)] | rw [if_neg (by omega), if_pos (by omega)] | rw [if_neg (by omega), if_neg (by omega)]
        · rfl
      · refine z_iload_n X 2 dX6_store_42 rfl ?_
        refine z_i2s X dX6_store_43 rfl ?_
        refine z_goto X 48 dX6_store_44 (by decide) ?_
        refine z_iast X dX6_store_48 K1 (vin_of (by omega) (by omega)) (rfl) ?_
        obtain ⟨zh13, ze14⟩ : ∃ z : Mm, z = va_up h (r + 1) (arI κ N (upd f i.toNatClampNeg v.toInt16.toInt32)) := ⟨_, rfl⟩
        refine z_heap (h' := zh13) ze14.symm ?_
        have zK15 := up_off ze14 (show r ≠ r + 1 by omega) K0
        have zK16 := up_at ze14
        refine z_vret X E dX6_store_49 (by omega) (by omega) ⟨?_, ?_, ?_⟩
        · rfl
        · rw [ze14, rowSet, if_pos (by omega), narB]; (simp only [i_eq, show (8 : Int32).toInt = 8 by decide, show (16 : Int32).toInt = 16 by decide] at *); first | rw [if_pos (by omega)] | rw [if_neg (by omega), if_pos (by omega)] | rw [if_neg (by omega), if_neg (by omega)]
        · rfl
    · refine z_iload_n X 2 dX6_store_28 rfl ?_
      refine z_i2b X dX6_store_29 rfl ?_
      refine z_goto X 48 dX6_store_30 (by decide) ?_
      refine z_iast X dX6_store_48 K1 (vin_of (by omega) (by omega)) (rfl) ?_
      obtain ⟨zh17, ze18⟩ : ∃ z : Mm, z = va_up h (r + 1) (arI κ N (upd f i.toNatClampNeg v.toInt8.toInt32)) := ⟨_, rfl⟩
      refine z_heap (h' := zh17) ze18.symm ?_
      have zK19 := up_off ze18 (show r ≠ r + 1 by omega) K0
      have zK20 := up_at ze18
      refine z_vret X E dX6_store_49 (by omega) (by omega) ⟨?_, ?_, ?_⟩
      · rfl
      · rw [ze18, rowSet, if_pos (by omega), narB]; (simp only [i_eq, show (8 : Int32).toInt = 8 by decide, show (16 : Int32).toInt = 16 by decide] at *); first | rw [if_pos (by omega)] | rw [if_neg (by omega), if_pos (by omega)] | rw [if_neg (by omega), if_neg (by omega)]
      · rfl
set_option maxHeartbeats 4000000 in
set_option maxRecDepth 100000 in
theorem c_Row_reset {κ : Wc} {l : Launch} {h : Mm} {n : Nat} {r : Nat} {k : Nat} {j : Nat} {bt : Int32} {b2 : Int32} {N : Nat} {f : Nat → Int32} (K0 : h r = some (.inr (6, [.ref (r + 1), .int (nI k), .int bt]))) (K1 : h (r + 1) = arI κ N f) (p1 : j ≤ N) (p2 : N ≤ 1000) : Con κ l yX6_reset cX6_reset 3 none 2 0 0 [.ref r, .int b2, .int (nI j)] h n (fun q h' n' => q = none ∧ h' = va_up (va_up h r (some (.inr (6, [.ref (r + 1), .int (nI j), .int b2])))) (r + 1) (arI κ N (fun _ => 0)) ∧ n' = n) := by
  refine Con.of mk_X6_reset (Nat.le_of_ble_eq_true rfl) (fun G hG X E => ?_)
  subst hG
  refine z_ls (ls' := [(0, .ref r), (1, .int b2), (2, .int (nI j))]) rfl ?_
  refine z_aload_n X 0 dX6_reset_0 rfl ?_
  refine z_iload_n X 1 dX6_reset_1 rfl ?_
  refine z_put X fp_X6_23_6 dX6_reset_2 K0 (by first | rfl | decide) (by first | rfl | decide) (Nat.le_of_ble_eq_true rfl) rfl ?_
  obtain ⟨zh1, ze2⟩ : ∃ z : Mm, z = va_up h r (some (.inr (6, [.ref (r + 1), .int (nI k), .int b2]))) := ⟨_, rfl⟩
  refine z_heap (h' := zh1) ze2.symm ?_
  have zK3 := up_at ze2
  have zK4 := up_off ze2 (show r + 1 ≠ r by omega) K1
  refine z_aload_n X 0 dX6_reset_5 rfl ?_
  refine z_iconst (v := 0) X dX6_reset_6 (by decide) ?_
  refine z_iload_n X 2 dX6_reset_7 rfl ?_
  refine z_aload_n X 0 dX6_reset_8 rfl ?_
  refine z_get X fl_X6_13_6 dX6_reset_9 zK3 rfl ?_
  refine z_alen (t := 0) (v := nI N) X dX6_reset_12 zK4 rfl rfl ?_
  refine z_mmin X dX6_reset_13 wd_763 wd_296 wd_63 wd_297 (Nat.le_of_ble_eq_true rfl) (Nat.le_of_ble_eq_true rfl) (Nat.le_of_ble_eq_true rfl) (Nat.le_of_ble_eq_true rfl) ?_
  refine z_toe (y := nI j) (by rw [nI_min (by omega) (by omega), Nat.min_eq_left p1]) ?_
  refine z_mmax X dX6_reset_16 wd_172 wd_173 wd_63 wd_174 (Nat.le_of_ble_eq_true rfl) (Nat.le_of_ble_eq_true rfl) (Nat.le_of_ble_eq_true rfl) (Nat.le_of_ble_eq_true rfl) ?_
  refine z_toe (y := nI j) ((nI_max (a := 0) (by omega) (by omega)).trans (by rw [Nat.zero_max])) ?_
  refine z_put X fp_X6_19_6 dX6_reset_19 zK3 (by first | rfl | decide) (by first | rfl | decide) (Nat.le_of_ble_eq_true rfl) rfl ?_
  obtain ⟨zh5, ze6⟩ : ∃ z : Mm, z = va_up zh1 r (some (.inr (6, [.ref (r + 1), .int (nI j), .int b2]))) := ⟨_, rfl⟩
  refine z_heap (h' := zh5) ze6.symm ?_
  have zK7 := up_at ze6
  have zK8 := up_off ze6 (show r + 1 ≠ r by omega) zK4
  refine z_aload_n X 0 dX6_reset_22 rfl ?_
  refine z_get X fl_X6_13_6 dX6_reset_23 zK7 rfl ?_
  refine z_iconst (v := 0) X dX6_reset_26 (by decide) ?_
  refine z_callS X (c_fill (κ := κ) (n := n) (a := (r + 1)) (v := (0)) (N := (N)) (f := (f)) zK8 (by first | assumption | omega)) mk_J7_fill_53178 dX6_reset_27 wd_871 wd_872 rfl rfl (Nat.le_of_ble_eq_true rfl) (Nat.le_of_ble_eq_true rfl) (Nat.le_of_ble_eq_true rfl) (by omega) (by omega) (fun q zh9 zm11 zp12 => ?_)
  obtain ⟨rfl, ze10, zn13⟩ := zp12
  subst zm11
  refine z_st (st' := []) rfl ?_
  have zK14 : zh9 r = some (.inr (6, [.ref (r + 1), .int (nI j), .int b2])) := by rw [ze10]; rw [va_up_ne _ _ (show r ≠ r + 1 by omega)]; exact zK7
  have zK15 : zh9 (r + 1) = arI κ N (fun _ => 0) := by rw [ze10]; exact va_up_self _ _ _
  refine z_vret X E dX6_reset_30 (by omega) (by omega) ⟨?_, ?_, ?_⟩
  · rfl
  · first | (rw [ze10, ze6, ze2]; done) | (rw [ze10, ze6, ze2]; simp only [up_up]; done) | (rw [ze10, ze6, ze2]; funext zz; simp only [va_up]; (repeat' split) <;> first | rfl | (exfalso; omega) | simp_all)
  · rfl
set_option maxHeartbeats 4000000 in
set_option maxRecDepth 100000 in
theorem c_Row_init {κ : Wc} {l : Launch} {h : Mm} {r : Nat} {b : Int32} {N : Nat} (K0 : h r = some (.inr (6, [.null, .int 0, .int 0]))) (p2 : N ≤ 1000) : Con κ l yX6_init cX6_init 3 none 1 1 N [.ref r, .int (nI N), .int b] h (r + 1) (fun q h' n' => q = none ∧ h' = va_up (va_up h r (some (.inr (6, [.ref (r + 1), .int 0, .int b])))) (r + 1) (arI κ N (fun _ => 0)) ∧ n' = r + 2) := by
  refine Con.of mk_X6_init (Nat.le_of_ble_eq_true rfl) (fun G hG X E => ?_)
  subst hG
  refine z_ls (ls' := [(0, .ref r), (1, .int (nI N)), (2, .int b)]) rfl ?_
  refine z_aload_n X 0 dX6_init_0 rfl ?_
  refine z_objInit X dX6_init_1 wd_171 wd_80 wd_81 (Nat.le_of_ble_eq_true rfl) (Nat.le_of_ble_eq_true rfl) ?_
  refine z_aload_n X 0 dX6_init_4 rfl ?_
  refine z_iload_n X 1 dX6_init_5 rfl ?_
  refine z_iconst (v := 0) X dX6_init_6 (by decide) ?_
  refine z_mmax X dX6_init_7 wd_172 wd_173 wd_63 wd_174 (Nat.le_of_ble_eq_true rfl) (Nat.le_of_ble_eq_true rfl) (Nat.le_of_ble_eq_true rfl) (Nat.le_of_ble_eq_true rfl) ?_
  refine z_toe (y := nI N) ((nI_max (a := N) (b := 0) (by omega) (by omega)).trans (by rw [Nat.max_zero])) ?_
  refine z_newa (N := N) X dX6_init_10 wd_165 (nI_pos (by omega)) (nI_clamp (by omega)) (by omega) (by omega) (by omega) ?_
  obtain ⟨zh1, ze2⟩ : ∃ z : Mm, z = va_up h (r + 1) (arI κ N (fun _ => 0)) := ⟨_, rfl⟩
  refine z_heap (h' := zh1) ze2.symm ?_
  have zK3 := up_off ze2 (show r ≠ r + 1 by omega) K0
  have zK4 := up_at ze2
  refine z_putF X E fp_X6_13_6 dX6_init_12 zK3 (by first | rfl | decide) (by first | rfl | decide) (Nat.le_of_ble_eq_true rfl) rfl ?_
  obtain ⟨zh5, ze6⟩ : ∃ z : Mm, z = va_up zh1 r (some (.inr (6, [.ref (r + 1), .int 0, .int 0]))) := ⟨_, rfl⟩
  refine z_heap (h' := zh5) ze6.symm ?_
  have zK7 := up_at ze6
  have zK8 := up_off ze6 (show r + 1 ≠ r by omega) zK4
  refine z_aload_n X 0 dX6_init_15 rfl ?_
  refine z_iconst (v := 0) X dX6_init_16 (by decide) ?_
  refine z_put X fp_X6_19_6 dX6_init_17 zK7 (by first | rfl | decide) (by first | rfl | decide) (Nat.le_of_ble_eq_true rfl) rfl ?_
  obtain ⟨zh9, ze10⟩ : ∃ z : Mm, z = va_up zh5 r (some (.inr (6, [.ref (r + 1), .int 0, .int 0]))) := ⟨_, rfl⟩
  refine z_heap (h' := zh9) ze10.symm ?_
  have zK11 := up_at ze10
  have zK12 := up_off ze10 (show r + 1 ≠ r by omega) zK8
  refine z_aload_n X 0 dX6_init_20 rfl ?_
  refine z_iload_n X 2 dX6_init_21 rfl ?_
  refine z_put X fp_X6_23_6 dX6_init_22 zK11 (by first | rfl | decide) (by first | rfl | decide) (Nat.le_of_ble_eq_true rfl) rfl ?_
  obtain ⟨zh13, ze14⟩ : ∃ z : Mm, z = va_up zh9 r (some (.inr (6, [.ref (r + 1), .int 0, .int b]))) := ⟨_, rfl⟩
  refine z_heap (h' := zh13) ze14.symm ?_
  have zK15 := up_at ze14
  have zK16 := up_off ze14 (show r + 1 ≠ r by omega) zK12
  refine z_vret X E dX6_init_25 (by omega) (by omega) ⟨?_, ?_, ?_⟩
  · rfl
  · first | (rw [ze14, ze10, ze6, ze2]; done) | (rw [ze14, ze10, ze6, ze2]; simp only [up_up]; done) | (rw [ze14, ze10, ze6, ze2]; funext zz; simp only [va_up]; (repeat' split) <;> first | rfl | (exfalso; omega) | simp_all)
  · rfl
