/-! texts: reading them -/
theorem okS_n {x : Int32} (h : -x ≤ 0) : okS x := Or.inl h
theorem okS_t : okS (-116) := Or.inr (Or.inl (by decide))
theorem okS_w : okS (-119) := Or.inr (Or.inr (Or.inl (by decide)))
theorem okS_c : okS (-99) := Or.inr (Or.inr (Or.inr (Or.inl (by decide))))
theorem okS_b : okS (-33) := Or.inr (Or.inr (Or.inr (Or.inr (Or.inl (by decide)))))
theorem okS_o {c : Int32} (h : isOp c) : okS (-c) := Or.inr (Or.inr (Or.inr (Or.inr (Or.inr (by rw [neg_neg']; exact h)))))
/-- what a reading of the class has done, held against the reference's working out -/
def PaR (F : EvF) (b : Nat → Int32) (nn p k : Nat) (L : List Int32) (p' : Nat) (f' : Option Nat) (k' : Nat) : Prop := p ≤ p' ∧ p' ≤ nn ∧ p + L.length ≤ p' ∧ (f' = none ∨ f' = some p') ∧ (f' = none → k' = k) ∧ (∀ x, x ∈ L → okS x) ∧ ∀ nm : Nat → Int32, ∃ v : Int32, F b nn nm (p, none, k) = (v, p', f', k') ∧ (f' = none → Good nm L v)
theorem tk_out {b : Nat → Int32} {nn p : Nat} {f : Option Nat} (h : ¬ p < nn) : tk b nn p f = -1 := if_neg (fun q => h q.1)
theorem tk_flt {b : Nat → Int32} {nn p : Nat} {f : Option Nat} (h : ¬ f = none) : tk b nn p f = -1 := if_neg (fun q => h q.2)
theorem tk_yes {b : Nat → Int32} {nn p : Nat} (h : p < nn) : tk b nn p none = b p := if_pos ⟨h, rfl⟩
theorem at_tk {b : Nat → Int32} {nn p : Nat} (h : p < nn) (hn : nn ≤ 50) : rowAt nn b (nI p) = tk b nn p none := by
  rw [tk_yes h, rowAt, i_nI (by omega), nI_clamp (by omega), if_pos (by omega)]
theorem mem_app3 {L M : List Int32} {c : Int32} (h1 : ∀ x, x ∈ L → okS x) (h2 : ∀ x, x ∈ M → okS x) (h3 : okS c) : ∀ x, x ∈ L ++ M ++ [c] → okS x := by
  intro x hx
  rcases List.mem_append.mp hx with h | h
  · exact (List.mem_append.mp h).elim (h1 x) (h2 x)
  · rw [List.mem_singleton.mp h]; exact h3
theorem mem_app2 {L : List Int32} {c : Int32} (h1 : ∀ x, x ∈ L → okS x) (h3 : okS c) : ∀ x, x ∈ L ++ [c] → okS x := by
  intro x hx
  rcases List.mem_append.mp hx with h | h
  · exact h1 x h
  · rw [List.mem_singleton.mp h]; exact h3
theorem mem_one {c : Int32} (h3 : okS c) : ∀ x, x ∈ [c] → okS x := by
  intro x hx
  rw [List.mem_singleton.mp hx]; exact h3
theorem mem_nil : ∀ x : Int32, x ∈ ([] : List Int32) → okS x := fun x h => absurd h List.not_mem_nil
set_option maxHeartbeats 4000000 in
set_option maxRecDepth 100000 in
theorem t_sees {κ : Wc} {l : Launch} {h : Mm} {n : Nat} {t : Nat} {r : Nat} {nn : Nat} {p : Nat} {b : Nat → Int32} {tp : Int32} {bits : Int32} {s0 : Int32} {c : Int32} (K0 : h t = some (.inr (9, [.ref (t + 1), .ref (t + 2), .int s0, .int (nI p), .int tp]))) (K1 : h r = some (.inr (6, [.ref (r + 1), .int (nI nn), .int bits]))) (K2 : h (r + 1) = arI κ 50 b) (e1 : nn ≤ 50) (e2 : p ≤ nn) (e9 : ¬ c = -1) : Con κ l yX9_sees cX9_sees 3 (some .boolean) 3 0 0 [.ref t, .ref r, .int c] h n (fun q h' n' => q = some (.int (b2i (tk b nn p none = c))) ∧ h' = h ∧ n' = n) := by
  refine Con.of mk_X9_sees (Nat.le_of_ble_eq_true rfl) (fun G hG X E => ?_)
  subst hG
  refine z_ls (ls' := [(0, .ref t), (1, .ref r), (2, .int c)]) rfl ?_
  refine z_aload_n X 0 dX9_sees_0 rfl ?_
  refine z_get X fl_X9_22_9 dX9_sees_1 K0 rfl ?_
  refine z_aload_n X 1 dX9_sees_4 rfl ?_
  refine z_get X fl_X9_32_6 dX9_sees_5 K1 rfl ?_
  refine z_icmp_ge X 27 dX9_sees_8 (by decide) (fun zc1 => ?_) (fun zc1 => ?_)
  · try replace zc1 := (nI_leI (a := nn) (b := p) (by omega) (by omega)).mp zc1
    refine z_iconst (v := 0) X dX9_sees_27 (by decide) ?_
    refine z_zret X E dX9_sees_28 (by first | rfl | exact b2i_nar _) (by omega) (by omega) ⟨?_, ?_, ?_⟩
    · first | rw [b2i_1 (by assumption)] | rw [b2i_0 (by assumption)] | rw [b2i_0 (by rw [tk_out (by omega)]; exact fun q => e9 q.symm)]
    · first | rfl | (funext zz; simp only [va_up]; (repeat' split) <;> first | rfl | (exfalso; omega) | simp_all)
    · rfl
  · try replace zc1 := mt (nI_leI (a := nn) (b := p) (by omega) (by omega)).mpr zc1
    refine z_aload_n X 1 dX9_sees_11 rfl ?_
    refine z_aload_n X 0 dX9_sees_12 rfl ?_
    refine z_get X fl_X9_22_9 dX9_sees_13 K0 rfl ?_
    refine z_callV X (c_Row_at (κ := κ) (n := n) (r := (r)) (k := (nn)) (bt := (bits)) (i := (nI p)) (N := (50)) (f := (b)) K1 K2 (by first | assumption | omega) (by first | assumption | omega)) mk_X6_at dX9_sees_16 wd_561 wd_299 wd_300 rfl K1 rfl rfl rfl (Nat.le_of_ble_eq_true rfl) (Nat.le_of_ble_eq_true rfl) (Nat.le_of_ble_eq_true rfl) (by omega) (by omega) (fun q zh2 zm4 zp5 => ?_)
    obtain ⟨rfl, ze3, zn6⟩ := zp5
    subst zm4
    subst zh2
    refine z_st (st' := [.int (rowAt nn b (nI p))]) rfl ?_
    refine z_toe (y := tk b nn p none) (at_tk (by omega) e1) ?_
    refine z_iload_n X 2 dX9_sees_19 rfl ?_
    refine z_icmp_ne X 27 dX9_sees_20 (by decide) (fun zc7 => ?_) (fun zc7 => ?_)
    · refine z_iconst (v := 0) X dX9_sees_27 (by decide) ?_
      refine z_zret X E dX9_sees_28 (by first | rfl | exact b2i_nar _) (by omega) (by omega) ⟨?_, ?_, ?_⟩
      · first | rw [b2i_1 (by assumption)] | rw [b2i_0 (by assumption)] | rw [b2i_0 (by rw [tk_out (by omega)]; exact fun q => e9 q.symm)]
      · first | rfl | (funext zz; simp only [va_up]; (repeat' split) <;> first | rfl | (exfalso; omega) | simp_all)
      · rfl
    · refine z_iconst (v := 1) X dX9_sees_23 (by decide) ?_
      refine z_goto X 28 dX9_sees_24 (by decide) ?_
      refine z_zret X E dX9_sees_28 (by first | rfl | exact b2i_nar _) (by omega) (by omega) ⟨?_, ?_, ?_⟩
      · first | rw [b2i_1 (by assumption)] | rw [b2i_0 (by assumption)] | rw [b2i_0 (by rw [tk_out (by omega)]; exact fun q => e9 q.symm)]
      · first | rfl | (funext zz; simp only [va_up]; (repeat' split) <;> first | rfl | (exfalso; omega) | simp_all)
      · rfl
set_option maxHeartbeats 4000000 in
set_option maxRecDepth 100000 in
theorem t_seesTimes {κ : Wc} {l : Launch} {h : Mm} {n : Nat} {t : Nat} {r : Nat} {nn : Nat} {p : Nat} {b : Nat → Int32} {tp : Int32} {bits : Int32} {s0 : Int32} (K0 : h t = some (.inr (9, [.ref (t + 1), .ref (t + 2), .int s0, .int (nI p), .int tp]))) (K1 : h r = some (.inr (6, [.ref (r + 1), .int (nI nn), .int bits]))) (K2 : h (r + 1) = arI κ 50 b) (e1 : nn ≤ 50) (e2 : p ≤ nn) : Con κ l yX9_seesTimes cX9_seesTimes 2 (some .boolean) 4 0 0 [.ref t, .ref r] h n (fun q h' n' => q = some (.int (b2i (tk b nn p none = 42 ∨ tk b nn p none = 47 ∨ tk b nn p none = 37))) ∧ h' = h ∧ n' = n) := by
  refine Con.of mk_X9_seesTimes (Nat.le_of_ble_eq_true rfl) (fun G hG X E => ?_)
  subst hG
  refine z_ls (ls' := [(0, .ref t), (1, .ref r)]) rfl ?_
  refine z_aload_n X 0 dX9_seesTimes_0 rfl ?_
  refine z_aload_n X 1 dX9_seesTimes_1 rfl ?_
  refine z_bipush (v := 42) X dX9_seesTimes_2 (by decide) ?_
  refine z_callV X (t_sees (κ := κ) (n := n) (t := (t)) (r := (r)) (nn := (nn)) (p := (p)) (b := (b)) (tp := (tp)) (bits := (bits)) (s0 := (s0)) (c := (42)) K0 K1 K2 (by first | assumption | omega) (by first | assumption | omega) (by decide)) mk_X9_sees dX9_seesTimes_4 wd_571 wd_573 wd_14 rfl K0 rfl rfl rfl (Nat.le_of_ble_eq_true rfl) (Nat.le_of_ble_eq_true rfl) (Nat.le_of_ble_eq_true rfl) (by omega) (by omega) (fun q zh1 zm3 zp4 => ?_)
  obtain ⟨rfl, ze2, zn5⟩ := zp4
  subst zm3
  subst zh1
  refine z_st (st' := [.int (b2i (tk b nn p none = 42))]) rfl ?_
  refine z_if_ne X 30 dX9_seesTimes_7 (by decide) (fun zc6 => ?_) (fun zc6 => ?_)
  · replace zc6 := b2i_t zc6
    refine z_iconst (v := 1) X dX9_seesTimes_30 (by decide) ?_
    refine z_goto X 35 dX9_seesTimes_31 (by decide) ?_
    refine z_zret X E dX9_seesTimes_35 (by first | rfl | exact b2i_nar _) (by omega) (by omega) ⟨?_, ?_, ?_⟩
    · first | rw [b2i_1 (by first | exact Or.inl (by assumption) | exact Or.inr (Or.inl (by assumption)) | exact Or.inr (Or.inr (by assumption)))] | rw [b2i_0 (by simp only [not_or]; exact ⟨by assumption, by assumption, by assumption⟩)]
    · first | rfl | (funext zz; simp only [va_up]; (repeat' split) <;> first | rfl | (exfalso; omega) | simp_all)
    · rfl
  · replace zc6 := b2i_f zc6
    refine z_aload_n X 0 dX9_seesTimes_10 rfl ?_
    refine z_aload_n X 1 dX9_seesTimes_11 rfl ?_
    refine z_bipush (v := 47) X dX9_seesTimes_12 (by decide) ?_
    refine z_callV X (t_sees (κ := κ) (n := n) (t := (t)) (r := (r)) (nn := (nn)) (p := (p)) (b := (b)) (tp := (tp)) (bits := (bits)) (s0 := (s0)) (c := (47)) K0 K1 K2 (by first | assumption | omega) (by first | assumption | omega) (by decide)) mk_X9_sees dX9_seesTimes_14 wd_571 wd_573 wd_14 rfl K0 rfl rfl rfl (Nat.le_of_ble_eq_true rfl) (Nat.le_of_ble_eq_true rfl) (Nat.le_of_ble_eq_true rfl) (by omega) (by omega) (fun q zh7 zm9 zp10 => ?_)
    obtain ⟨rfl, ze8, zn11⟩ := zp10
    subst zm9
    subst zh7
    refine z_st (st' := [.int (b2i (tk b nn p none = 47))]) rfl ?_
    refine z_if_ne X 30 dX9_seesTimes_17 (by decide) (fun zc12 => ?_) (fun zc12 => ?_)
    · replace zc12 := b2i_t zc12
      refine z_iconst (v := 1) X dX9_seesTimes_30 (by decide) ?_
      refine z_goto X 35 dX9_seesTimes_31 (by decide) ?_
      refine z_zret X E dX9_seesTimes_35 (by first | rfl | exact b2i_nar _) (by omega) (by omega) ⟨?_, ?_, ?_⟩
      · first | rw [b2i_1 (by first | exact Or.inl (by assumption) | exact Or.inr (Or.inl (by assumption)) | exact Or.inr (Or.inr (by assumption)))] | rw [b2i_0 (by simp only [not_or]; exact ⟨by assumption, by assumption, by assumption⟩)]
      · first | rfl | (funext zz; simp only [va_up]; (repeat' split) <;> first | rfl | (exfalso; omega) | simp_all)
      · rfl
    · replace zc12 := b2i_f zc12
      refine z_aload_n X 0 dX9_seesTimes_20 rfl ?_
      refine z_aload_n X 1 dX9_seesTimes_21 rfl ?_
      refine z_bipush (v := 37) X dX9_seesTimes_22 (by decide) ?_
      refine z_callV X (t_sees (κ := κ) (n := n) (t := (t)) (r := (r)) (nn := (nn)) (p := (p)) (b := (b)) (tp := (tp)) (bits := (bits)) (s0 := (s0)) (c := (37)) K0 K1 K2 (by first | assumption | omega) (by first | assumption | omega) (by decide)) mk_X9_sees dX9_seesTimes_24 wd_571 wd_573 wd_14 rfl K0 rfl rfl rfl (Nat.le_of_ble_eq_true rfl) (Nat.le_of_ble_eq_true rfl) (Nat.le_of_ble_eq_true rfl) (by omega) (by omega) (fun q zh13 zm15 zp16 => ?_)
      obtain ⟨rfl, ze14, zn17⟩ := zp16
      subst zm15
      subst zh13
      refine z_st (st' := [.int (b2i (tk b nn p none = 37))]) rfl ?_
      refine z_if_eq X 34 dX9_seesTimes_27 (by decide) (fun zc18 => ?_) (fun zc18 => ?_)
      · replace zc18 := b2i_f zc18
        refine z_iconst (v := 0) X dX9_seesTimes_34 (by decide) ?_
        refine z_zret X E dX9_seesTimes_35 (by first | rfl | exact b2i_nar _) (by omega) (by omega) ⟨?_, ?_, ?_⟩
        · first | rw [b2i_1 (by first | exact Or.inl (by assumption) | exact Or.inr (Or.inl (by assumption)) | exact Or.inr (Or.inr (by assumption)))] | rw [b2i_0 (by simp only [not_or]; exact ⟨by assumption, by assumption, by assumption⟩)]
        · first | rfl | (funext zz; simp only [va_up]; (repeat' split) <;> first | rfl | (exfalso; omega) | simp_all)
        · rfl
      · replace zc18 := b2i_t zc18
        refine z_iconst (v := 1) X dX9_seesTimes_30 (by decide) ?_
        refine z_goto X 35 dX9_seesTimes_31 (by decide) ?_
        refine z_zret X E dX9_seesTimes_35 (by first | rfl | exact b2i_nar _) (by omega) (by omega) ⟨?_, ?_, ?_⟩
        · first | rw [b2i_1 (by first | exact Or.inl (by assumption) | exact Or.inr (Or.inl (by assumption)) | exact Or.inr (Or.inr (by assumption)))] | rw [b2i_0 (by simp only [not_or]; exact ⟨by assumption, by assumption, by assumption⟩)]
        · first | rfl | (funext zz; simp only [va_up]; (repeat' split) <;> first | rfl | (exfalso; omega) | simp_all)
        · rfl
set_option maxHeartbeats 4000000 in
set_option maxRecDepth 100000 in
theorem t_seesDigit {κ : Wc} {l : Launch} {h : Mm} {n : Nat} {t : Nat} {r : Nat} {nn : Nat} {p : Nat} {b : Nat → Int32} {tp : Int32} {bits : Int32} {s0 : Int32} (K0 : h t = some (.inr (9, [.ref (t + 1), .ref (t + 2), .int s0, .int (nI p), .int tp]))) (K1 : h r = some (.inr (6, [.ref (r + 1), .int (nI nn), .int bits]))) (K2 : h (r + 1) = arI κ 50 b) (e1 : nn ≤ 50) (e2 : p ≤ nn) : Con κ l yX9_seesDigit cX9_seesDigit 2 (some .boolean) 3 0 0 [.ref t, .ref r] h n (fun q h' n' => (q = some (.int (b2i (48 ≤ (tk b nn p none).toInt ∧ (tk b nn p none).toInt ≤ 57)))) ∧ h' = h ∧ n' = n) := by
  refine Con.of mk_X9_seesDigit (Nat.le_of_ble_eq_true rfl) (fun G hG X E => ?_)
  subst hG
  refine z_ls (ls' := [(0, .ref t), (1, .ref r)]) rfl ?_
  refine z_aload_n X 0 dX9_seesDigit_0 rfl ?_
  refine z_get X fl_X9_22_9 dX9_seesDigit_1 K0 rfl ?_
  refine z_aload_n X 1 dX9_seesDigit_4 rfl ?_
  refine z_get X fl_X9_32_6 dX9_seesDigit_5 K1 rfl ?_
  refine z_icmp_ge X 33 dX9_seesDigit_8 (by decide) (fun zc1 => ?_) (fun zc1 => ?_)
  · try replace zc1 := (nI_leI (a := nn) (b := p) (by omega) (by omega)).mp zc1
    refine z_iconst (v := 0) X dX9_seesDigit_33 (by decide) ?_
    refine z_zret X E dX9_seesDigit_34 (by first | rfl | exact b2i_nar _) (by omega) (by omega) ⟨?_, ?_, ?_⟩
    · first | rw [b2i_1 (by assumption)] | rw [b2i_0 (by assumption)] | rw [b2i_0 (by rw [tk_out (by omega)]; decide)]
    · first | rfl | (funext zz; simp only [va_up]; (repeat' split) <;> first | rfl | (exfalso; omega) | simp_all)
    · rfl
  · try replace zc1 := mt (nI_leI (a := nn) (b := p) (by omega) (by omega)).mpr zc1
    refine z_aload_n X 1 dX9_seesDigit_11 rfl ?_
    refine z_aload_n X 0 dX9_seesDigit_12 rfl ?_
    refine z_get X fl_X9_22_9 dX9_seesDigit_13 K0 rfl ?_
    refine z_callV X (c_Row_at (κ := κ) (n := n) (r := (r)) (k := (nn)) (bt := (bits)) (i := (nI p)) (N := (50)) (f := (b)) K1 K2 (by first | assumption | omega) (by first | assumption | omega)) mk_X6_at dX9_seesDigit_16 wd_561 wd_299 wd_300 rfl K1 rfl rfl rfl (Nat.le_of_ble_eq_true rfl) (Nat.le_of_ble_eq_true rfl) (Nat.le_of_ble_eq_true rfl) (by omega) (by omega) (fun q zh2 zm4 zp5 => ?_)
    obtain ⟨rfl, ze3, zn6⟩ := zp5
    subst zm4
    subst zh2
    refine z_st (st' := [.int (rowAt nn b (nI p))]) rfl ?_
    refine z_toe (y := tk b nn p none) (at_tk (by omega) e1) ?_
    refine z_bipush (v := 48) X dX9_seesDigit_19 (by decide) ?_
    refine z_bipush (v := 57) X dX9_seesDigit_21 (by decide) ?_
    refine z_callSN (host := "IcicleRings") X (c_within (κ := κ) (n := n) (v := (tk b nn p none)) (lo := (48)) (hi := (57))  ) mk_X11_within dX9_seesDigit_23 (by decide +kernel) wd_257 rfl rfl (Nat.le_of_ble_eq_true rfl) (Nat.le_of_ble_eq_true rfl) (Nat.le_of_ble_eq_true rfl) (by omega) (by omega) (fun q zh7 zm9 zp10 => ?_)
    obtain ⟨rfl, ze8, zn11⟩ := zp10
    subst zm9
    subst zh7
    refine z_st (st' := [.int (b2i ((48 : Int32).toInt ≤ (tk b nn p none : Int32).toInt ∧ (tk b nn p none : Int32).toInt ≤ (57 : Int32).toInt))]) rfl ?_
    refine z_toe (y := b2i (48 ≤ (tk b nn p none).toInt ∧ (tk b nn p none).toInt ≤ 57)) (by simp only [show (48 : Int32).toInt = 48 by decide, show (57 : Int32).toInt = 57 by decide]) ?_
    refine z_if_eq X 33 dX9_seesDigit_26 (by decide) (fun zc12 => ?_) (fun zc12 => ?_)
    · replace zc12 := b2i_f zc12
      refine z_iconst (v := 0) X dX9_seesDigit_33 (by decide) ?_
      refine z_zret X E dX9_seesDigit_34 (by first | rfl | exact b2i_nar _) (by omega) (by omega) ⟨?_, ?_, ?_⟩
      · first | rw [b2i_1 (by assumption)] | rw [b2i_0 (by assumption)] | rw [b2i_0 (by rw [tk_out (by omega)]; decide)]
      · first | rfl | (funext zz; simp only [va_up]; (repeat' split) <;> first | rfl | (exfalso; omega) | simp_all)
      · rfl
    · replace zc12 := b2i_t zc12
      refine z_iconst (v := 1) X dX9_seesDigit_29 (by decide) ?_
      refine z_goto X 34 dX9_seesDigit_30 (by decide) ?_
      refine z_zret X E dX9_seesDigit_34 (by first | rfl | exact b2i_nar _) (by omega) (by omega) ⟨?_, ?_, ?_⟩
      · first | rw [b2i_1 (by assumption)] | rw [b2i_0 (by assumption)] | rw [b2i_0 (by rw [tk_out (by omega)]; decide)]
      · first | rfl | (funext zz; simp only [va_up]; (repeat' split) <;> first | rfl | (exfalso; omega) | simp_all)
      · rfl
set_option maxHeartbeats 4000000 in
set_option maxRecDepth 100000 in
theorem t_step {κ : Wc} {l : Launch} {h : Mm} {n : Nat} {t : Nat} {sz : Nat} {st : Nat → Int32} {pl : Int32} {tp : Int32} {v : Int32} (K0 : h t = some (.inr (9, [.ref (t + 1), .ref (t + 2), .int (nI sz), .int pl, .int tp]))) (K1 : h (t + 1) = arI κ 50 st) (e1 : sz < 50) : Con κ l yX9_step cX9_step 2 none 1 0 0 [.ref t, .int v] h n (fun q h' n' => q = none ∧ h' = va_up (va_up h t (some (.inr (9, [.ref (t + 1), .ref (t + 2), .int (nI (sz + 1)), .int pl, .int tp])))) (t + 1) (arI κ 50 (upd st sz v)) ∧ n' = n) := by
  refine Con.of mk_X9_step (Nat.le_of_ble_eq_true rfl) (fun G hG X E => ?_)
  subst hG
  refine z_ls (ls' := [(0, .ref t), (1, .int v)]) rfl ?_
  refine z_aload_n X 0 dX9_step_0 rfl ?_
  refine z_get X fl_X9_18_9 dX9_step_1 K0 rfl ?_
  refine z_aload_n X 0 dX9_step_4 rfl ?_
  refine z_get X fl_X9_9_9 dX9_step_5 K0 rfl ?_
  refine z_alen (t := 0) (v := nI 50) X dX9_step_8 K1 rfl rfl ?_
  refine z_icmp_ge X 32 dX9_step_9 (by decide) (fun zc1 => ?_) (fun zc1 => ?_)
  · try replace zc1 := (nI_leI (a := 50) (b := sz) (by omega) (by omega)).mp zc1
    omega
  · try replace zc1 := mt (nI_leI (a := 50) (b := sz) (by omega) (by omega)).mpr zc1
    refine z_aload_n X 0 dX9_step_12 rfl ?_
    refine z_get X fl_X9_9_9 dX9_step_13 K0 rfl ?_
    refine z_aload_n X 0 dX9_step_16 rfl ?_
    refine z_get X fl_X9_18_9 dX9_step_17 K0 rfl ?_
    refine z_iload_n X 1 dX9_step_20 rfl ?_
    refine z_iast X dX9_step_21 K1 (vp_in_nI (n := sz) (by omega) (by omega)) (congrArg (fun z => va_up h (t + 1) (arI κ 50 (upd st z v))) (nI_clamp (n := sz) (by omega))) ?_
    obtain ⟨zh2, ze3⟩ : ∃ z : Mm, z = va_up h (t + 1) (arI κ 50 (upd st sz v)) := ⟨_, rfl⟩
    refine z_heap (h' := zh2) ze3.symm ?_
    have zK4 := up_off ze3 (show t ≠ t + 1 by omega) K0
    have zK5 := up_at ze3
    refine z_aload_n X 0 dX9_step_22 rfl ?_
    refine z_dup X dX9_step_23 rfl ?_
    refine z_get X fl_X9_18_9 dX9_step_24 zK4 rfl ?_
    refine z_iconst (v := 1) X dX9_step_27 (by decide) ?_
    refine z_iadd X dX9_step_28 ?_
    refine z_toe (y := nI (sz + 1)) (nI_add (sz) (1)) ?_
    refine z_put X fp_X9_18_9 dX9_step_29 zK4 (by first | rfl | decide) (by first | rfl | decide) (Nat.le_of_ble_eq_true rfl) rfl ?_
    obtain ⟨zh6, ze7⟩ : ∃ z : Mm, z = va_up zh2 t (some (.inr (9, [.ref (t + 1), .ref (t + 2), .int (nI (sz + 1)), .int pl, .int tp]))) := ⟨_, rfl⟩
    refine z_heap (h' := zh6) ze7.symm ?_
    have zK8 := up_at ze7
    have zK9 := up_off ze7 (show t + 1 ≠ t by omega) zK5
    refine z_vret X E dX9_step_32 (by omega) (by omega) ⟨?_, ?_, ?_⟩
    · rfl
    · funext zz; by_cases zq1 : zz = t + 1; (rw [zq1, va_up_self]; exact zK9); by_cases zq0 : zz = t; (rw [zq0, va_up_ne _ _ (show t ≠ t + 1 by omega), va_up_self]; exact zK8); rw [va_up_ne _ _ zq1, va_up_ne _ _ zq0]; rw [ze7, ze3]; simp only [va_up, if_neg zq0, if_neg zq1]
    · rfl
theorem dig_b {v x : Int32} {g : Nat} (h : 0 ≤ v.toInt ∧ v.toInt < 10 ^ g) (hg : g < 4) (hx : 48 ≤ x.toInt ∧ x.toInt ≤ 57) : 0 ≤ (10 * v + x - 48).toInt ∧ (10 * v + x - 48).toInt < 10 ^ (g + 1) := by
  have hb : v.toInt < 1000 ∧ 10 ^ (g + 1) = 10 * (10 ^ g : Int) := by
    refine ⟨?_, by rw [Int.pow_succ, Int.mul_comm]⟩
    have h4 : g = 0 ∨ g = 1 ∨ g = 2 ∨ g = 3 := by omega
    rcases h4 with rfl | rfl | rfl | rfl <;> simp at h <;> omega
  have e10 : (10 : Int32).toInt = 10 := by decide
  have e48 : (48 : Int32).toInt = 48 := by decide
  have e1 : (10 * v).toInt = 10 * v.toInt := by rw [i_mul] <;> rw [e10] <;> omega
  have e2 : (10 * v + x).toInt = 10 * v.toInt + x.toInt := by rw [i_add] <;> rw [e1] <;> omega
  have e3 : (10 * v + x - 48).toInt = 10 * v.toInt + x.toInt - 48 := by rw [i_sub] <;> rw [e2, e48] <;> omega
  rw [e3, hb.2]
  omega
theorem neg_le0 {v : Int32} {g : Nat} (h : 0 ≤ v.toInt) : -v ≤ 0 := by
  rw [i_le, Int32.toInt_neg, Int.bmod_def, show (0 : Int32).toInt = 0 by decide]
  have a := i_hi v
  omega
set_option maxHeartbeats 4000000 in
set_option maxRecDepth 100000 in
theorem t_number {κ : Wc} {l : Launch} {h : Mm} {n : Nat} {t : Nat} {r : Nat} {nn : Nat} {p : Nat} {sz : Nat} {b : Nat → Int32} {st : Nat → Int32} {tp : Int32} {bits : Int32} (K0 : h t = some (.inr (9, [.ref (t + 1), .ref (t + 2), .int (nI sz), .int (nI p), .int tp]))) (K1 : h (t + 1) = arI κ 50 st) (K2 : h r = some (.inr (6, [.ref (r + 1), .int (nI nn), .int bits]))) (K3 : h (r + 1) = arI κ 50 b) (e1 : nn ≤ 50) (e2 : p ≤ nn) (e3 : sz ≤ p) (e5 : r + 1 < t ∨ t + 2 < r) (e6 : 48 ≤ (tk b nn p none).toInt ∧ (tk b nn p none).toInt ≤ 57) : Con κ l yX9_number cX9_number 4 none 4 0 0 [.ref t, .ref r] h n (fun q h' n' => ∃ p' : Nat, ∃ v' : Int32, q = none ∧ h' = va_up (va_up h t (some (.inr (9, [.ref (t + 1), .ref (t + 2), .int (nI (sz + 1)), .int (nI p'), .int tp])))) (t + 1) (arI κ 50 (upd st sz v')) ∧ n' = n ∧ digF b nn none 4 0 p = (v', p') ∧ (p < p' ∧ p' ≤ nn) ∧ 0 ≤ v'.toInt) := by
  refine Con.of mk_X9_number (Nat.le_of_ble_eq_true rfl) (fun G hG X E => ?_)
  subst hG
  refine z_ls (ls' := [(0, .ref t), (1, .ref r)]) rfl ?_
  refine z_iconst (v := 0) X dX9_number_0 (by decide) ?_
  refine z_istore_n (ls' := [(2, .int 0), (0, .ref t), (1, .ref r)]) X dX9_number_1 (by decide) rfl ?_
  refine z_iconst (v := 0) X dX9_number_2 (by decide) ?_
  refine z_istore_n (ls' := [(3, .int 0), (2, .int 0), (0, .ref t), (1, .ref r)]) X dX9_number_3 (by decide) rfl ?_
  have L4 : ∀ (jj : Nat) (hh4 : Mm)  (g : Nat) (v : Int32) (p2 : Nat), (4 - g < jj) → (hh4 = va_up h t (some (.inr (9, [.ref (t + 1), .ref (t + 2), .int (nI sz), .int (nI p2), .int tp])))) → (hg : g ≤ 4) → (hp : p2 = p + g) → (hp2 : p2 ≤ nn) → (hR : digF b nn none 4 0 p = digF b nn none (4 - g) v p2) → (hv : 0 ≤ v.toInt ∧ v.toInt < 10 ^ g) → Z κ G 4 4 [(0, .ref t), (1, .ref r), (2, .int v), (3, .int (nI g))] [] hh4 n 0 (0) := by
    intro jj
    induction jj with
    | zero => intro hh4 g v p2 hmu; exact absurd hmu (Nat.not_lt_zero _)
    | succ jj ih4 =>
      intro hh4 g v p2 hmu he4 hg hp hp2 hR hv
      have zK1 : hh4 t = some (.inr (9, [.ref (t + 1), .ref (t + 2), .int (nI sz), .int (nI p2), .int tp])) := by rw [he4]; exact va_up_self _ _ _
      have zK2 : hh4 (t + 1) = arI κ 50 st := by rw [he4]; rw [va_up_ne _ _ (show t + 1 ≠ t by omega)]; exact K1
      have zK3 : hh4 r = some (.inr (6, [.ref (r + 1), .int (nI nn), .int bits])) := by rw [he4]; rw [va_up_ne _ _ (show r ≠ t by omega)]; exact K2
      have zK4 : hh4 (r + 1) = arI κ 50 b := by rw [he4]; rw [va_up_ne _ _ (show r + 1 ≠ t by omega)]; exact K3
      refine z_iload_n X 3 dX9_number_4 rfl ?_
      refine z_iconst (v := 4) X dX9_number_5 (by decide) ?_
      refine z_icmp_ge X 50 dX9_number_6 (by decide) (fun zc5 => ?_) (fun zc5 => ?_)
      · try replace zc5 := (nI_leI (a := 4) (b := g) (by omega) (by omega)).mp zc5
        have hg0 : ¬ g = 0 := by omega
        refine z_aload_n X 0 dX9_number_50 rfl ?_
        refine z_iload_n X 2 dX9_number_51 rfl ?_
        refine z_callV X (t_step (κ := κ) (n := n) (t := (t)) (sz := (sz)) (st := (st)) (pl := (nI p2)) (tp := (tp)) (v := (v)) zK1 zK2 (by first | assumption | omega)) mk_X9_step dX9_number_52 wd_567 wd_569 wd_13 rfl zK1 rfl rfl rfl (Nat.le_of_ble_eq_true rfl) (Nat.le_of_ble_eq_true rfl) (Nat.le_of_ble_eq_true rfl) (by omega) (by omega) (fun q zh6 zm8 zp9 => ?_)
        obtain ⟨rfl, ze7, zn10⟩ := zp9
        subst zm8
        refine z_st (st' := []) rfl ?_
        have zK11 : zh6 t = some (.inr (9, [.ref (t + 1), .ref (t + 2), .int (nI (sz + 1)), .int ((nI p2)), .int tp])) := by rw [ze7]; rw [va_up_ne _ _ (show t ≠ t + 1 by omega)]; exact va_up_self _ _ _
        have zK12 : zh6 (t + 1) = arI κ 50 (upd st sz v) := by rw [ze7]; exact va_up_self _ _ _
        have zK13 : zh6 r = some (.inr (6, [.ref (r + 1), .int (nI nn), .int bits])) := by rw [ze7]; rw [va_up_ne _ _ (show r ≠ t + 1 by omega)]; rw [va_up_ne _ _ (show r ≠ t by omega)]; exact zK3
        have zK14 : zh6 (r + 1) = arI κ 50 b := by rw [ze7]; rw [va_up_ne _ _ (show r + 1 ≠ t + 1 by omega)]; rw [va_up_ne _ _ (show r + 1 ≠ t by omega)]; exact zK4
        refine z_vret X E dX9_number_55 (by omega) (by omega) ⟨p2, v, ?_, ?_, ?_, ?_, ?_, ?_⟩
        · rfl
        · funext zz; by_cases zq1 : zz = t + 1; (rw [zq1, va_up_self]; exact zK12); by_cases zq0 : zz = t; (rw [zq0, va_up_ne _ _ (show t ≠ t + 1 by omega), va_up_self]; exact zK11); rw [va_up_ne _ _ zq1, va_up_ne _ _ zq0]; rw [ze7, he4]; simp only [va_up, if_neg zq0, if_neg zq1]
        · rfl
        · (have hdg : digF b nn none 4 0 p = (v, p2) := by (rw [hR]; first | exact digF_stop hrg | (rw [show 4 - g = 0 by omega]; rfl))); exact hdg
        · omega
        · exact hv.1
      · try replace zc5 := mt (nI_leI (a := 4) (b := g) (by omega) (by omega)).mpr zc5
        refine z_aload_n X 0 dX9_number_9 rfl ?_
        refine z_aload_n X 1 dX9_number_10 rfl ?_
        refine z_callV X (t_seesDigit (κ := κ) (n := n) (t := (t)) (r := (r)) (nn := (nn)) (p := (p2)) (b := (b)) (tp := (tp)) (bits := (bits)) (s0 := (nI sz)) zK1 zK3 zK4 (by first | assumption | omega) (by first | assumption | omega)) mk_X9_seesDigit dX9_number_11 wd_557 wd_559 wd_11 rfl zK1 rfl rfl rfl (Nat.le_of_ble_eq_true rfl) (Nat.le_of_ble_eq_true rfl) (Nat.le_of_ble_eq_true rfl) (by omega) (by omega) (fun q zh15 zm17 zp18 => ?_)
        obtain ⟨rfl, ze16, zn19⟩ := zp18
        subst zm17
        subst zh15
        refine z_st (st' := [.int (b2i (48 ≤ (tk b nn p2 none).toInt ∧ (tk b nn p2 none).toInt ≤ 57))]) rfl ?_
        refine z_if_eq X 50 dX9_number_14 (by decide) (fun zc20 => ?_) (fun zc20 => ?_)
        · replace zc20 := b2i_f zc20
          have hrg := zc20
          have hg0 : ¬ g = 0 := fun zq => hrg (by (rw [show p2 = p by omega]; exact e6))
          refine z_aload_n X 0 dX9_number_50 rfl ?_
          refine z_iload_n X 2 dX9_number_51 rfl ?_
          refine z_callV X (t_step (κ := κ) (n := n) (t := (t)) (sz := (sz)) (st := (st)) (pl := (nI p2)) (tp := (tp)) (v := (v)) zK1 zK2 (by first | assumption | omega)) mk_X9_step dX9_number_52 wd_567 wd_569 wd_13 rfl zK1 rfl rfl rfl (Nat.le_of_ble_eq_true rfl) (Nat.le_of_ble_eq_true rfl) (Nat.le_of_ble_eq_true rfl) (by omega) (by omega) (fun q zh21 zm23 zp24 => ?_)
          obtain ⟨rfl, ze22, zn25⟩ := zp24
          subst zm23
          refine z_st (st' := []) rfl ?_
          have zK26 : zh21 t = some (.inr (9, [.ref (t + 1), .ref (t + 2), .int (nI (sz + 1)), .int ((nI p2)), .int tp])) := by rw [ze22]; rw [va_up_ne _ _ (show t ≠ t + 1 by omega)]; exact va_up_self _ _ _
          have zK27 : zh21 (t + 1) = arI κ 50 (upd st sz v) := by rw [ze22]; exact va_up_self _ _ _
          have zK28 : zh21 r = some (.inr (6, [.ref (r + 1), .int (nI nn), .int bits])) := by rw [ze22]; rw [va_up_ne _ _ (show r ≠ t + 1 by omega)]; rw [va_up_ne _ _ (show r ≠ t by omega)]; exact zK3
          have zK29 : zh21 (r + 1) = arI κ 50 b := by rw [ze22]; rw [va_up_ne _ _ (show r + 1 ≠ t + 1 by omega)]; rw [va_up_ne _ _ (show r + 1 ≠ t by omega)]; exact zK4
          refine z_vret X E dX9_number_55 (by omega) (by omega) ⟨p2, v, ?_, ?_, ?_, ?_, ?_, ?_⟩
          · rfl
          · funext zz; by_cases zq1 : zz = t + 1; (rw [zq1, va_up_self]; exact zK27); by_cases zq0 : zz = t; (rw [zq0, va_up_ne _ _ (show t ≠ t + 1 by omega), va_up_self]; exact zK26); rw [va_up_ne _ _ zq1, va_up_ne _ _ zq0]; rw [ze22, he4]; simp only [va_up, if_neg zq0, if_neg zq1]
          · rfl
          · (have hdg : digF b nn none 4 0 p = (v, p2) := by (rw [hR]; first | exact digF_stop hrg | (rw [show 4 - g = 0 by omega]; rfl))); exact hdg
          · omega
          · exact hv.1
        · replace zc20 := b2i_t zc20
          have hrg := zc20
          have hin := tk_in (b := b) (n := nn) (p := p2) (f := none) (fun q => by rw [q] at hrg; exact absurd hrg.1 (by decide))
          refine z_iload_n X 2 dX9_number_17 rfl ?_
          refine z_bipush (v := 10) X dX9_number_18 (by decide) ?_
          refine z_imul X dX9_number_20 ?_
          refine z_toe (y := 10 * v) (Int32.mul_comm _ _) ?_
          refine z_aload_n X 1 dX9_number_21 rfl ?_
          refine z_aload_n X 0 dX9_number_22 rfl ?_
          refine z_get X fl_X9_22_9 dX9_number_23 zK1 rfl ?_
          refine z_callV X (c_Row_at (κ := κ) (n := n) (r := (r)) (k := (nn)) (bt := (bits)) (i := (nI p2)) (N := (50)) (f := (b)) zK3 zK4 (by first | assumption | omega) (by first | assumption | omega)) mk_X6_at dX9_number_26 wd_561 wd_299 wd_300 rfl zK3 rfl rfl rfl (Nat.le_of_ble_eq_true rfl) (Nat.le_of_ble_eq_true rfl) (Nat.le_of_ble_eq_true rfl) (by omega) (by omega) (fun q zh30 zm32 zp33 => ?_)
          obtain ⟨rfl, ze31, zn34⟩ := zp33
          subst zm32
          subst zh30
          refine z_st (st' := [.int (rowAt nn b (nI p2)), .int (10 * v)]) rfl ?_
          refine z_toe (y := tk b nn p2 none) (at_tk (tk_in (fun q => by rw [q] at hrg; exact absurd hrg.1 (by decide))).1 e1) ?_
          refine z_iadd X dX9_number_29 ?_
          refine z_bipush (v := 48) X dX9_number_30 (by decide) ?_
          refine z_isub X dX9_number_32 ?_
          refine z_istore_n (ls' := [(2, .int (((10 * v) + (tk b nn p2 none)) - 48)), (0, .ref t), (1, .ref r), (3, .int (nI g))]) X dX9_number_33 (by decide) rfl ?_
          refine z_aload_n X 1 dX9_number_34 rfl ?_
          refine z_dup X dX9_number_35 rfl ?_
          refine z_get X fl_X9_22_9 dX9_number_36 zK1 rfl ?_
          refine z_iconst (v := 1) X dX9_number_39 (by decide) ?_
          refine z_iadd X dX9_number_40 ?_
          refine z_toe (y := nI (p2 + 1)) (nI_add (p2) (1)) ?_
          refine z_put X fp_X9_22_9 dX9_number_41 zK1 (by first | rfl | decide) (by first | rfl | decide) (Nat.le_of_ble_eq_true rfl) rfl ?_
          obtain ⟨zh35, ze36⟩ : ∃ z : Mm, z = va_up hh4 t (some (.inr (9, [.ref (t + 1), .ref (t + 2), .int (nI sz), .int (nI (p2 + 1)), .int tp]))) := ⟨_, rfl⟩
          refine z_heap (h' := zh35) ze36.symm ?_
          have zK37 := up_at ze36
          have zK38 := up_off ze36 (show t + 1 ≠ t by omega) zK2
          have zK39 := up_off ze36 (show r ≠ t by omega) zK3
          have zK40 := up_off ze36 (show r + 1 ≠ t by omega) zK4
          refine z_iinc (v := nI (g + 1)) (ls' := [(3, .int (nI (g + 1))), (2, .int (((10 * v) + (tk b nn p2 none)) - 48)), (0, .ref t), (1, .ref r)]) X 3 dX9_number_44 rfl (nI_1 (g)) (by decide) rfl ?_
          refine z_goto X 4 dX9_number_47 (by decide) ?_
          refine z_sub (ls' := [(0, .ref t), (1, .ref r), (2, .int (((10 * v) + (tk b nn p2 none)) - 48)), (3, .int (nI (g + 1)))]) [2, 3, 1, 0] rfl ?_
          exact ih4 _ (g + 1) (((10 * v) + (tk b nn p2 none)) - 48) (p2 + 1) (by omega) (by funext zz; by_cases zq0 : zz = t; (rw [zq0, va_up_self]; exact zK37); rw [va_up_ne _ _ zq0]; rw [ze36, he4]; simp only [va_up, if_neg zq0]) (by first | assumption | rfl | omega) (by first | assumption | rfl | omega) (by first | assumption | rfl | omega) (by rw [hR]; exact digF_go (by omega) hrg) (by exact dig_b hv (by omega) hrg)
  refine z_sub (ls' := [(0, .ref t), (1, .ref r), (2, .int 0), (3, .int 0)]) [2, 3, 1, 0] rfl ?_
  exact L4 _ _ 0 0 p (Nat.lt_succ_self _) (by exact (up_same _ _ K0).symm) (by first | assumption | rfl | omega) (by first | assumption | rfl | omega) (by first | assumption | rfl | omega) (by rfl) (by decide)
def PaC (κ : Wc) (l : Launch) (y : MethodName) (bt : ByteArray) (mL dep j : Nat) (F : EvF) : Prop := ∀ (h : Mm) (n : Nat) (t : Nat) (r : Nat) (nn : Nat) (p : Nat) (sz : Nat) (k : Nat) (b : Nat → Int32) (st : Nat → Int32) (tp : Int32) (bits : Int32), h t = some (.inr (9, [.ref (t + 1), .ref (t + 2), .int (nI sz), .int (nI p), .int tp])) → h (t + 1) = arI κ 50 st → h r = some (.inr (6, [.ref (r + 1), .int (nI nn), .int bits])) → h (r + 1) = arI κ 50 b → (nn ≤ 50) → (p ≤ nn) → (sz ≤ p) → (k + j = 5) → (r + 1 < t ∨ t + 2 < r) → Con κ l y bt mL (some .boolean) dep 0 0 [.ref t, .ref r, .int (nI k)] h n (fun q h' n' => ∃ p' : Nat, ∃ L' : List Int32, ∃ f' : Option Nat, ∃ k' : Nat, q = some (.int (b2i (f' = none))) ∧ h' = va_up (va_up h t (some (.inr (9, [.ref (t + 1), .ref (t + 2), .int (nI (sz + L'.length)), .int (nI p'), .int tp])))) (t + 1) (arI κ 50 (wrs st sz L')) ∧ n' = n ∧ PaR F b nn p k L' p' f' k')
theorem PaC.use {κ : Wc} {l : Launch} {y : MethodName} {bt : ByteArray} {mL dep j : Nat} {F : EvF} (H : PaC κ l y bt mL dep j F) {h : Mm} {n : Nat} {t : Nat} {r : Nat} {nn : Nat} {p : Nat} {sz : Nat} {k : Nat} {b : Nat → Int32} {st : Nat → Int32} {tp : Int32} {bits : Int32} (K0 : h t = some (.inr (9, [.ref (t + 1), .ref (t + 2), .int (nI sz), .int (nI p), .int tp]))) (K1 : h (t + 1) = arI κ 50 st) (K2 : h r = some (.inr (6, [.ref (r + 1), .int (nI nn), .int bits]))) (K3 : h (r + 1) = arI κ 50 b) (e1 : nn ≤ 50) (e2 : p ≤ nn) (e3 : sz ≤ p) (e4 : k + j = 5) (e5 : r + 1 < t ∨ t + 2 < r) : Con κ l y bt mL (some .boolean) dep 0 0 [.ref t, .ref r, .int (nI k)] h n (fun q h' n' => ∃ p' : Nat, ∃ L' : List Int32, ∃ f' : Option Nat, ∃ k' : Nat, q = some (.int (b2i (f' = none))) ∧ h' = va_up (va_up h t (some (.inr (9, [.ref (t + 1), .ref (t + 2), .int (nI (sz + L'.length)), .int (nI p'), .int tp])))) (t + 1) (arI κ 50 (wrs st sz L')) ∧ n' = n ∧ PaR F b nn p k L' p' f' k') := H h n t r nn p sz k b st tp bits K0 K1 K2 K3 e1 e2 e3 e4 e5
def InC (κ : Wc) (l : Launch) (y : MethodName) (bt : ByteArray) (mL dep j : Nat) (F : EvF) : Prop := ∀ (h : Mm) (n : Nat) (t : Nat) (r : Nat) (nn : Nat) (p : Nat) (sz : Nat) (k : Nat) (b : Nat → Int32) (st : Nat → Int32) (tp : Int32) (bits : Int32), h t = some (.inr (9, [.ref (t + 1), .ref (t + 2), .int (nI sz), .int (nI p), .int tp])) → h (t + 1) = arI κ 50 st → h r = some (.inr (6, [.ref (r + 1), .int (nI nn), .int bits])) → h (r + 1) = arI κ 50 b → (nn ≤ 50) → (p ≤ nn) → (sz ≤ p) → (k + (j + 1) = 5) → (r + 1 < t ∨ t + 2 < r) → (tk b nn p none = 40) → Con κ l y bt mL (some .boolean) dep 0 0 [.ref t, .ref r, .int (nI (k + 1))] h n (fun q h' n' => ∃ p' : Nat, ∃ L' : List Int32, ∃ f' : Option Nat, ∃ k' : Nat, q = some (.int (b2i (f' = none))) ∧ h' = va_up (va_up h t (some (.inr (9, [.ref (t + 1), .ref (t + 2), .int (nI (sz + L'.length)), .int (nI p'), .int tp])))) (t + 1) (arI κ 50 (wrs st sz L')) ∧ n' = n ∧ PaR F b nn p k L' p' f' k')
theorem InC.use {κ : Wc} {l : Launch} {y : MethodName} {bt : ByteArray} {mL dep j : Nat} {F : EvF} (H : InC κ l y bt mL dep j F) {h : Mm} {n : Nat} {t : Nat} {r : Nat} {nn : Nat} {p : Nat} {sz : Nat} {k : Nat} {b : Nat → Int32} {st : Nat → Int32} {tp : Int32} {bits : Int32} (K0 : h t = some (.inr (9, [.ref (t + 1), .ref (t + 2), .int (nI sz), .int (nI p), .int tp]))) (K1 : h (t + 1) = arI κ 50 st) (K2 : h r = some (.inr (6, [.ref (r + 1), .int (nI nn), .int bits]))) (K3 : h (r + 1) = arI κ 50 b) (e1 : nn ≤ 50) (e2 : p ≤ nn) (e3 : sz ≤ p) (e4 : k + (j + 1) = 5) (e5 : r + 1 < t ∨ t + 2 < r) (e6 : tk b nn p none = 40) : Con κ l y bt mL (some .boolean) dep 0 0 [.ref t, .ref r, .int (nI (k + 1))] h n (fun q h' n' => ∃ p' : Nat, ∃ L' : List Int32, ∃ f' : Option Nat, ∃ k' : Nat, q = some (.int (b2i (f' = none))) ∧ h' = va_up (va_up h t (some (.inr (9, [.ref (t + 1), .ref (t + 2), .int (nI (sz + L'.length)), .int (nI p'), .int tp])))) (t + 1) (arI κ 50 (wrs st sz L')) ∧ n' = n ∧ PaR F b nn p k L' p' f' k') := H h n t r nn p sz k b st tp bits K0 K1 K2 K3 e1 e2 e3 e4 e5 e6
set_option maxHeartbeats 4000000 in
set_option maxRecDepth 100000 in
theorem pa_product {κ : Wc} {l : Launch} {j dd : Nat} {U : EvF} (hdd : 5 ≤ dd) (hU : PaC κ l yX9_single cX9_single 4 dd j U) : PaC κ l yX9_product cX9_product 6 (dd + 1) j (prodE U) := by
  intro h n t r nn p sz k b st tp bits K0 K1 K2 K3 e1 e2 e3 e4 e5
  refine Con.of mk_X9_product (Nat.le_of_ble_eq_true rfl) (fun G hG X E => ?_)
  subst hG
  refine z_ls (ls' := [(0, .ref t), (1, .ref r), (2, .int (nI k))]) rfl ?_
  refine z_aload_n X 0 dX9_product_0 rfl ?_
  refine z_aload_n X 1 dX9_product_1 rfl ?_
  refine z_iload_n X 2 dX9_product_2 rfl ?_
  refine z_callV X (PaC.use hU (κ := κ) (n := n) (t := (t)) (r := (r)) (nn := (nn)) (p := (p)) (sz := (sz)) (k := (k)) (b := (b)) (st := (st)) (tp := (tp)) (bits := (bits)) K0 K1 K2 K3 (by first | assumption | omega) (by first | assumption | omega) (by first | assumption | omega) (e4) (by first | assumption | omega)) mk_X9_single dX9_product_3 wd_553 wd_555 wd_10 rfl K0 rfl rfl rfl (Nat.le_of_ble_eq_true rfl) (by omega) (Nat.le_of_ble_eq_true rfl) (by omega) (by omega) (fun q zh5 zm7 zp8 => ?_)
  obtain ⟨p'1, L'2, f'3, k'4, rfl, ze6, zn10, zf9⟩ := zp8
  subst zm7
  refine z_st (st' := [.int (b2i (f'3 = none))]) rfl ?_
  have zK11 : zh5 t = some (.inr (9, [.ref (t + 1), .ref (t + 2), .int (nI (sz + (L'2 : _).length)), .int (nI p'1), .int tp])) := by rw [ze6]; rw [va_up_ne _ _ (show t ≠ t + 1 by omega)]; exact va_up_self _ _ _
  have zK12 : zh5 (t + 1) = arI κ 50 (wrs st sz L'2) := by rw [ze6]; exact va_up_self _ _ _
  have zK13 : zh5 r = some (.inr (6, [.ref (r + 1), .int (nI nn), .int bits])) := by rw [ze6]; rw [va_up_ne _ _ (show r ≠ t + 1 by omega)]; rw [va_up_ne _ _ (show r ≠ t by omega)]; exact K2
  have zK14 : zh5 (r + 1) = arI κ 50 b := by rw [ze6]; rw [va_up_ne _ _ (show r + 1 ≠ t + 1 by omega)]; rw [va_up_ne _ _ (show r + 1 ≠ t by omega)]; exact K3
  obtain ⟨ga0, gb0, gc0, gd0, ge0, gf0, gg0⟩ := id zf9
  refine z_istore_n (ls' := [(3, .int (b2i (f'3 = none))), (0, .ref t), (1, .ref r), (2, .int (nI k))]) X dX9_product_6 (by decide) rfl ?_
  refine z_iconst (v := 0) X dX9_product_7 (by decide) ?_
  refine z_istore (ls' := [(4, .int 0), (3, .int (b2i (f'3 = none))), (0, .ref t), (1, .ref r), (2, .int (nI k))]) X dX9_product_8 (by decide) rfl ?_
  have L10 : ∀ (jj : Nat) (hh10 : Mm)  (i : Nat) (u : Nat) (p2 : Nat) (L : List Int32) (f2 : Option Nat) (k2 : Nat), (nn + 1 - p2 < jj) → (hh10 = va_up (va_up h t (some (.inr (9, [.ref (t + 1), .ref (t + 2), .int (nI (sz + L.length)), .int (nI p2), .int tp])))) (t + 1) (arI κ 50 (wrs st sz L))) → (hi : p + i ≤ p2) → (hu : nn - p2 < u) → (g2 : p2 ≤ nn) → (g3 : p + L.length ≤ p2) → (g4 : f2 = none ∨ f2 = some p2) → (g5 : f2 = none → k2 = k) → (g6 : ∀ x, x ∈ L → okS x) → (hR : ∀ nm : Nat → Int32, ∃ v : Int32, prodE U b nn nm (p, none, k) = prodF b nn (U b nn nm) u v (p2, f2, k2) ∧ (f2 = none → Good nm L v)) → Z κ G 6 10 [(0, .ref t), (1, .ref r), (2, .int (nI k)), (3, .int (b2i (f2 = none))), (4, .int (nI i))] [] hh10 n 0 (0) := by
    intro jj
    induction jj with
    | zero => intro hh10 i u p2 L f2 k2 hmu; exact absurd hmu (Nat.not_lt_zero _)
    | succ jj ih10 =>
      intro hh10 i u p2 L f2 k2 hmu he10 hi hu g2 g3 g4 g5 g6 hR
      have zK15 : hh10 t = some (.inr (9, [.ref (t + 1), .ref (t + 2), .int (nI (sz + L.length)), .int (nI p2), .int tp])) := by rw [he10]; rw [va_up_ne _ _ (show t ≠ t + 1 by omega)]; exact va_up_self _ _ _
      have zK16 : hh10 (t + 1) = arI κ 50 (wrs st sz L) := by rw [he10]; exact va_up_self _ _ _
      have zK17 : hh10 r = some (.inr (6, [.ref (r + 1), .int (nI nn), .int bits])) := by rw [he10]; rw [va_up_ne _ _ (show r ≠ t + 1 by omega)]; rw [va_up_ne _ _ (show r ≠ t by omega)]; exact K2
      have zK18 : hh10 (r + 1) = arI κ 50 b := by rw [he10]; rw [va_up_ne _ _ (show r + 1 ≠ t + 1 by omega)]; rw [va_up_ne _ _ (show r + 1 ≠ t by omega)]; exact K3
      obtain ⟨u0, rfl⟩ : ∃ z, u = z + 1 := ⟨u - 1, by omega⟩
      refine z_iload X 4 dX9_product_10 rfl ?_
      refine z_bipush (v := 50) X dX9_product_12 (by decide) ?_
      refine z_icmp_ge X 69 dX9_product_14 (by decide) (fun zc19 => ?_) (fun zc19 => ?_)
      · try replace zc19 := (nI_leI (a := 50) (b := i) (by omega) (by omega)).mp zc19
        have hns : ¬ (tk b nn p2 f2 = 42 ∨ tk b nn p2 f2 = 47 ∨ tk b nn p2 f2 = 37) := by rw [tk_out (show ¬ p2 < nn by omega)]; decide
        refine z_iload_n X 3 dX9_product_69 rfl ?_
        refine z_zret X E dX9_product_70 (by first | rfl | exact b2i_nar _) (by omega) (by omega) ⟨p2, L, f2, k2, ?_, ?_, ?_, ?_⟩
        · rfl
        · funext zz; by_cases zq1 : zz = t + 1; (rw [zq1, va_up_self]; exact zK16); by_cases zq0 : zz = t; (rw [zq0, va_up_ne _ _ (show t ≠ t + 1 by omega), va_up_self]; exact zK15); rw [va_up_ne _ _ zq1, va_up_ne _ _ zq0]; rw [he10]; simp only [va_up, if_neg zq0, if_neg zq1]
        · rfl
        · exact ⟨by omega, g2, g3, g4, g5, g6, fun nm => (by (obtain ⟨v, ev, gv1⟩ := hR nm; exact ⟨v, ev.trans (prodF_stop hns), gv1⟩))⟩
      · try replace zc19 := mt (nI_leI (a := 50) (b := i) (by omega) (by omega)).mpr zc19
        refine z_iload_n X 3 dX9_product_17 rfl ?_
        refine z_if_eq X 69 dX9_product_18 (by decide) (fun zc20 => ?_) (fun zc20 => ?_)
        · replace zc20 := b2i_f zc20
          have hns : ¬ (tk b nn p2 f2 = 42 ∨ tk b nn p2 f2 = 47 ∨ tk b nn p2 f2 = 37) := by rw [tk_flt zc20]; decide
          refine z_iload_n X 3 dX9_product_69 rfl ?_
          refine z_zret X E dX9_product_70 (by first | rfl | exact b2i_nar _) (by omega) (by omega) ⟨p2, L, f2, k2, ?_, ?_, ?_, ?_⟩
          · rfl
          · funext zz; by_cases zq1 : zz = t + 1; (rw [zq1, va_up_self]; exact zK16); by_cases zq0 : zz = t; (rw [zq0, va_up_ne _ _ (show t ≠ t + 1 by omega), va_up_self]; exact zK15); rw [va_up_ne _ _ zq1, va_up_ne _ _ zq0]; rw [he10]; simp only [va_up, if_neg zq0, if_neg zq1]
          · rfl
          · exact ⟨by omega, g2, g3, g4, g5, g6, fun nm => (by (obtain ⟨v, ev, gv1⟩ := hR nm; exact ⟨v, ev.trans (prodF_stop hns), gv1⟩))⟩
        · replace zc20 := b2i_t zc20
          have hf2 := zc20
          refine z_aload_n X 0 dX9_product_21 rfl ?_
          refine z_aload_n X 1 dX9_product_22 rfl ?_
          refine z_callV X (t_seesTimes (κ := κ) (n := n) (t := (t)) (r := (r)) (nn := (nn)) (p := (p2)) (b := (b)) (tp := (tp)) (bits := (bits)) (s0 := (nI (sz + L.length))) zK15 zK17 zK18 (by first | assumption | omega) (by omega)) mk_X9_seesTimes dX9_product_23 wd_579 wd_581 wd_16 rfl zK15 rfl rfl rfl (Nat.le_of_ble_eq_true rfl) (by omega) (Nat.le_of_ble_eq_true rfl) (by omega) (by omega) (fun q zh21 zm23 zp24 => ?_)
          obtain ⟨rfl, ze22, zn25⟩ := zp24
          subst zm23
          subst zh21
          refine z_st (st' := [.int (b2i (tk b nn p2 none = 42 ∨ tk b nn p2 none = 47 ∨ tk b nn p2 none = 37))]) rfl ?_
          refine z_if_eq X 69 dX9_product_26 (by decide) (fun zc26 => ?_) (fun zc26 => ?_)
          · replace zc26 := b2i_f zc26
            have hns : ¬ (tk b nn p2 f2 = 42 ∨ tk b nn p2 f2 = 47 ∨ tk b nn p2 f2 = 37) := by rw [hf2]; exact zc26
            refine z_iload_n X 3 dX9_product_69 rfl ?_
            refine z_zret X E dX9_product_70 (by first | rfl | exact b2i_nar _) (by omega) (by omega) ⟨p2, L, f2, k2, ?_, ?_, ?_, ?_⟩
            · rfl
            · funext zz; by_cases zq1 : zz = t + 1; (rw [zq1, va_up_self]; exact zK16); by_cases zq0 : zz = t; (rw [zq0, va_up_ne _ _ (show t ≠ t + 1 by omega), va_up_self]; exact zK15); rw [va_up_ne _ _ zq1, va_up_ne _ _ zq0]; rw [he10]; simp only [va_up, if_neg zq0, if_neg zq1]
            · rfl
            · exact ⟨by omega, g2, g3, g4, g5, g6, fun nm => (by (obtain ⟨v, ev, gv1⟩ := hR nm; exact ⟨v, ev.trans (prodF_stop hns), gv1⟩))⟩
          · replace zc26 := b2i_t zc26
            have hsg : tk b nn p2 none = 42 ∨ tk b nn p2 none = 47 ∨ tk b nn p2 none = 37 := zc26
            have hin := tk_in (show ¬ tk b nn p2 none = -1 by rcases hsg with q | q | q <;> rw [q] <;> decide)
            have hop : isOp (tk b nn p2 none) := by rcases hsg with q | q | q <;> rw [q] <;> decide
            refine z_aload_n X 1 dX9_product_29 rfl ?_
            refine z_aload_n X 0 dX9_product_30 rfl ?_
            refine z_get X fl_X9_22_9 dX9_product_31 zK15 rfl ?_
            refine z_callV X (c_Row_at (κ := κ) (n := n) (r := (r)) (k := (nn)) (bt := (bits)) (i := (nI p2)) (N := (50)) (f := (b)) zK17 zK18 (by first | assumption | omega) (by first | assumption | omega)) mk_X6_at dX9_product_34 wd_561 wd_299 wd_300 rfl zK17 rfl rfl rfl (Nat.le_of_ble_eq_true rfl) (by omega) (Nat.le_of_ble_eq_true rfl) (by omega) (by omega) (fun q zh27 zm29 zp30 => ?_)
            obtain ⟨rfl, ze28, zn31⟩ := zp30
            subst zm29
            subst zh27
            refine z_st (st' := [.int (rowAt nn b (nI p2))]) rfl ?_
            refine z_toe (y := tk b nn p2 none) (at_tk hin.1 e1) ?_
            refine z_istore (ls' := [(5, .int (tk b nn p2 none)), (0, .ref t), (1, .ref r), (2, .int (nI k)), (3, .int (b2i (f2 = none))), (4, .int (nI i))]) X dX9_product_37 (by decide) rfl ?_
            refine z_aload_n X 1 dX9_product_39 rfl ?_
            refine z_dup X dX9_product_40 rfl ?_
            refine z_get X fl_X9_22_9 dX9_product_41 zK15 rfl ?_
            refine z_iconst (v := 1) X dX9_product_44 (by decide) ?_
            refine z_iadd X dX9_product_45 ?_
            refine z_toe (y := nI (p2 + 1)) (nI_add (p2) (1)) ?_
            refine z_put X fp_X9_22_9 dX9_product_46 zK15 (by first | rfl | decide) (by first | rfl | decide) (Nat.le_of_ble_eq_true rfl) rfl ?_
            obtain ⟨zh32, ze33⟩ : ∃ z : Mm, z = va_up hh10 t (some (.inr (9, [.ref (t + 1), .ref (t + 2), .int (nI (sz + L.length)), .int (nI (p2 + 1)), .int tp]))) := ⟨_, rfl⟩
            refine z_heap (h' := zh32) ze33.symm ?_
            have zK34 := up_at ze33
            have zK35 := up_off ze33 (show t + 1 ≠ t by omega) zK16
            have zK36 := up_off ze33 (show r ≠ t by omega) zK17
            have zK37 := up_off ze33 (show r + 1 ≠ t by omega) zK18
            refine z_aload_n X 1 dX9_product_49 rfl ?_
            refine z_aload_n X 2 dX9_product_50 rfl ?_
            refine z_iload_n X 3 dX9_product_51 rfl ?_
            refine z_callV X (PaC.use hU (κ := κ) (n := n) (t := (t)) (r := (r)) (nn := (nn)) (p := (p2 + 1)) (sz := (sz + L.length)) (k := (k)) (b := (b)) (st := (wrs st sz L)) (tp := (tp)) (bits := (bits)) zK34 zK35 zK36 zK37 (by first | assumption | omega) (by omega) (by omega) (e4) (by first | assumption | omega)) mk_X9_single dX9_product_52 wd_553 wd_555 wd_10 rfl zK34 rfl rfl rfl (Nat.le_of_ble_eq_true rfl) (by omega) (Nat.le_of_ble_eq_true rfl) (by omega) (by omega) (fun q zh42 zm44 zp45 => ?_)
            obtain ⟨p'38, L'39, f'40, k'41, rfl, ze43, zn47, zf46⟩ := zp45
            subst zm44
            refine z_st (st' := [.int (b2i (f'40 = none))]) rfl ?_
            have zK48 : zh42 t = some (.inr (9, [.ref (t + 1), .ref (t + 2), .int (nI ((sz + L.length) + (L'39 : _).length)), .int (nI p'38), .int tp])) := by rw [ze43]; rw [va_up_ne _ _ (show t ≠ t + 1 by omega)]; exact va_up_self _ _ _
            have zK49 : zh42 (t + 1) = arI κ 50 (wrs (wrs st sz L) (sz + L.length) L'39) := by rw [ze43]; exact va_up_self _ _ _
            have zK50 : zh42 r = some (.inr (6, [.ref (r + 1), .int (nI nn), .int bits])) := by rw [ze43]; rw [va_up_ne _ _ (show r ≠ t + 1 by omega)]; rw [va_up_ne _ _ (show r ≠ t by omega)]; exact zK36
            have zK51 : zh42 (r + 1) = arI κ 50 b := by rw [ze43]; rw [va_up_ne _ _ (show r + 1 ≠ t + 1 by omega)]; rw [va_up_ne _ _ (show r + 1 ≠ t by omega)]; exact zK37
            obtain ⟨ga1, gb1, gc1, gd1, ge1, gf1, gg1⟩ := id zf46
            refine z_istore_n (ls' := [(3, .int (b2i (f'40 = none))), (5, .int (tk b nn p2 none)), (0, .ref t), (1, .ref r), (2, .int (nI k)), (4, .int (nI i))]) X dX9_product_55 (by decide) rfl ?_
            refine z_aload_n X 2 dX9_product_56 rfl ?_
            refine z_iload X 1 dX9_product_57 rfl ?_
            refine z_ineg X dX9_product_59 ?_
            refine z_callV X (t_step (κ := κ) (n := n) (t := (t)) (sz := ((sz + L.length) + (L'39 : _).length)) (st := (wrs (wrs st sz L) (sz + L.length) L'39)) (pl := (nI p'38)) (tp := (tp)) (v := (-(tk b nn p2 none))) zK48 zK49 (by omega)) mk_X9_step dX9_product_60 wd_567 wd_569 wd_13 rfl zK48 rfl rfl rfl (Nat.le_of_ble_eq_true rfl) (by omega) (Nat.le_of_ble_eq_true rfl) (by omega) (by omega) (fun q zh52 zm54 zp55 => ?_)
            obtain ⟨rfl, ze53, zn56⟩ := zp55
            subst zm54
            refine z_st (st' := []) rfl ?_
            have zK57 : zh52 t = some (.inr (9, [.ref (t + 1), .ref (t + 2), .int (nI (((sz + L.length) + (L'39 : _).length) + 1)), .int ((nI p'38)), .int tp])) := by rw [ze53]; rw [va_up_ne _ _ (show t ≠ t + 1 by omega)]; exact va_up_self _ _ _
            have zK58 : zh52 (t + 1) = arI κ 50 (upd (wrs (wrs st sz L) (sz + L.length) L'39) ((sz + L.length) + (L'39 : _).length) (-(tk b nn p2 none))) := by rw [ze53]; exact va_up_self _ _ _
            have zK59 : zh52 r = some (.inr (6, [.ref (r + 1), .int (nI nn), .int bits])) := by rw [ze53]; rw [va_up_ne _ _ (show r ≠ t + 1 by omega)]; rw [va_up_ne _ _ (show r ≠ t by omega)]; exact zK50
            have zK60 : zh52 (r + 1) = arI κ 50 b := by rw [ze53]; rw [va_up_ne _ _ (show r + 1 ≠ t + 1 by omega)]; rw [va_up_ne _ _ (show r + 1 ≠ t by omega)]; exact zK51
            refine z_iinc (v := nI (i + 1)) (ls' := [(4, .int (nI (i + 1))), (3, .int (b2i (f'40 = none))), (5, .int (tk b nn p2 none)), (0, .ref t), (1, .ref r), (2, .int (nI k))]) X 5 dX9_product_63 rfl (nI_1 (i)) (by decide) rfl ?_
            refine z_goto X 10 dX9_product_66 (by decide) ?_
            refine z_sub (ls' := [(0, .ref t), (1, .ref r), (2, .int (nI k)), (3, .int (b2i (f'40 = none))), (4, .int (nI (i + 1)))]) [3, 4, 5, 1, 0] rfl ?_
            exact ih10 _ (i + 1) u0 p'38 (L ++ L'39 ++ [-(tk b nn p2 none)]) f'40 k'41 (by omega) (by rw [show wrs st sz (L ++ L'39 ++ [-(tk b nn p2 none)]) = upd (wrs (wrs st sz L) (sz + L.length) L'39) (sz + L.length + L'39.length) (-(tk b nn p2 none)) from (by rw [wrs_app, wrs_app, List.length_append]; exact congrArg (fun z => upd _ z _) (by omega)), show sz + (L ++ L'39 ++ [-(tk b nn p2 none)]).length = sz + L.length + L'39.length + 1 from (by simp only [List.length_append, List.length_cons, List.length_nil]; omega)]; funext zz; by_cases zq1 : zz = t + 1; (rw [zq1, va_up_self]; exact zK58); by_cases zq0 : zz = t; (rw [zq0, va_up_ne _ _ (show t ≠ t + 1 by omega), va_up_self]; exact zK57); rw [va_up_ne _ _ zq1, va_up_ne _ _ zq0]; rw [ze53, ze43, ze33, he10]; simp only [va_up, if_neg zq0, if_neg zq1]) (by first | assumption | rfl | omega) (by first | assumption | rfl | omega) (by first | assumption | rfl | omega) (by simp only [List.length_append, List.length_cons, List.length_nil]; omega) (by exact gd1) (by exact ge1) (by exact mem_app3 g6 gf1 (okS_o hop)) (by intro nm; obtain ⟨v, ev, gv1⟩ := hR nm; obtain ⟨w, ew, gw⟩ := gg1 nm; exact ⟨opP (tk b nn p2 none) v w, ev.trans ((prodF_go (b := b) (n := nn) (u := U b nn nm) (i := u0) (v := v) (w := w) (s := (p2, f2, k2)) (s' := (p'38, f'40, k'41)) (by rw [hf2]; exact hsg) (by (show U b nn nm (p2 + 1, f2, k2) = _; rw [hf2, g5 hf2]; exact ew))).trans (congrArg (fun zz => prodF b nn (U b nn nm) u0 (opP (tk b nn p2 zz) v w) (p'38, f'40, k'41)) hf2)), fun zq => (by (rw [← wkO_P hsg]; exact Good_bin (gv1 hf2) (gw zq) hop))⟩)
  refine z_sub (ls' := [(0, .ref t), (1, .ref r), (2, .int (nI k)), (3, .int (b2i (f'3 = none))), (4, .int 0)]) [2, 3, 4, 1, 0] rfl ?_
  exact L10 _ _ 0 51 p'1 L'2 f'3 k'4 (Nat.lt_succ_self _) (by funext zz; by_cases zq1 : zz = t + 1; (rw [zq1, va_up_self]; exact zK12); by_cases zq0 : zz = t; (rw [zq0, va_up_ne _ _ (show t ≠ t + 1 by omega), va_up_self]; exact zK11); rw [va_up_ne _ _ zq1, va_up_ne _ _ zq0]; rw [ze6]; simp only [va_up, if_neg zq0, if_neg zq1]) (by first | assumption | rfl | omega) (by first | assumption | rfl | omega) (by first | assumption | rfl | omega) (by first | assumption | rfl | omega) (by exact gd0) (by exact ge0) (by exact gf0) (by intro nm; obtain ⟨v, ev, gv1⟩ := gg0 nm; exact ⟨v, by unfold prodE; rw [ev], gv1⟩)
set_option maxHeartbeats 4000000 in
set_option maxRecDepth 100000 in
theorem pa_sum {κ : Wc} {l : Launch} {j dd : Nat} {U : EvF} (hdd : 5 ≤ dd) (hU : PaC κ l yX9_product cX9_product 6 dd j U) : PaC κ l yX9_sum cX9_sum 6 (dd + 1) j (sumE U) := by
  intro h n t r nn p sz k b st tp bits K0 K1 K2 K3 e1 e2 e3 e4 e5
  refine Con.of mk_X9_sum (Nat.le_of_ble_eq_true rfl) (fun G hG X E => ?_)
  subst hG
  refine z_ls (ls' := [(0, .ref t), (1, .ref r), (2, .int (nI k))]) rfl ?_
  refine z_aload_n X 0 dX9_sum_0 rfl ?_
  refine z_aload_n X 1 dX9_sum_1 rfl ?_
  refine z_iload_n X 2 dX9_sum_2 rfl ?_
  refine z_callV X (PaC.use hU (κ := κ) (n := n) (t := (t)) (r := (r)) (nn := (nn)) (p := (p)) (sz := (sz)) (k := (k)) (b := (b)) (st := (st)) (tp := (tp)) (bits := (bits)) K0 K1 K2 K3 (by first | assumption | omega) (by first | assumption | omega) (by first | assumption | omega) (e4) (by first | assumption | omega)) mk_X9_product dX9_sum_3 wd_549 wd_551 wd_9 rfl K0 rfl rfl rfl (Nat.le_of_ble_eq_true rfl) (by omega) (Nat.le_of_ble_eq_true rfl) (by omega) (by omega) (fun q zh5 zm7 zp8 => ?_)
  obtain ⟨p'1, L'2, f'3, k'4, rfl, ze6, zn10, zf9⟩ := zp8
  subst zm7
  refine z_st (st' := [.int (b2i (f'3 = none))]) rfl ?_
  have zK11 : zh5 t = some (.inr (9, [.ref (t + 1), .ref (t + 2), .int (nI (sz + (L'2 : _).length)), .int (nI p'1), .int tp])) := by rw [ze6]; rw [va_up_ne _ _ (show t ≠ t + 1 by omega)]; exact va_up_self _ _ _
  have zK12 : zh5 (t + 1) = arI κ 50 (wrs st sz L'2) := by rw [ze6]; exact va_up_self _ _ _
  have zK13 : zh5 r = some (.inr (6, [.ref (r + 1), .int (nI nn), .int bits])) := by rw [ze6]; rw [va_up_ne _ _ (show r ≠ t + 1 by omega)]; rw [va_up_ne _ _ (show r ≠ t by omega)]; exact K2
  have zK14 : zh5 (r + 1) = arI κ 50 b := by rw [ze6]; rw [va_up_ne _ _ (show r + 1 ≠ t + 1 by omega)]; rw [va_up_ne _ _ (show r + 1 ≠ t by omega)]; exact K3
  obtain ⟨ga0, gb0, gc0, gd0, ge0, gf0, gg0⟩ := id zf9
  refine z_istore_n (ls' := [(3, .int (b2i (f'3 = none))), (0, .ref t), (1, .ref r), (2, .int (nI k))]) X dX9_sum_6 (by decide) rfl ?_
  refine z_iconst (v := 0) X dX9_sum_7 (by decide) ?_
  refine z_istore (ls' := [(4, .int 0), (3, .int (b2i (f'3 = none))), (0, .ref t), (1, .ref r), (2, .int (nI k))]) X dX9_sum_8 (by decide) rfl ?_
  have L10 : ∀ (jj : Nat) (hh10 : Mm)  (i : Nat) (u : Nat) (p2 : Nat) (L : List Int32) (f2 : Option Nat) (k2 : Nat), (nn + 1 - p2 < jj) → (hh10 = va_up (va_up h t (some (.inr (9, [.ref (t + 1), .ref (t + 2), .int (nI (sz + L.length)), .int (nI p2), .int tp])))) (t + 1) (arI κ 50 (wrs st sz L))) → (hi : p + i ≤ p2) → (hu : nn - p2 < u) → (g2 : p2 ≤ nn) → (g3 : p + L.length ≤ p2) → (g4 : f2 = none ∨ f2 = some p2) → (g5 : f2 = none → k2 = k) → (g6 : ∀ x, x ∈ L → okS x) → (hR : ∀ nm : Nat → Int32, ∃ v : Int32, sumE U b nn nm (p, none, k) = sumF b nn (U b nn nm) u v (p2, f2, k2) ∧ (f2 = none → Good nm L v)) → Z κ G 6 10 [(0, .ref t), (1, .ref r), (2, .int (nI k)), (3, .int (b2i (f2 = none))), (4, .int (nI i))] [] hh10 n 0 (0) := by
    intro jj
    induction jj with
    | zero => intro hh10 i u p2 L f2 k2 hmu; exact absurd hmu (Nat.not_lt_zero _)
    | succ jj ih10 =>
      intro hh10 i u p2 L f2 k2 hmu he10 hi hu g2 g3 g4 g5 g6 hR
      have zK15 : hh10 t = some (.inr (9, [.ref (t + 1), .ref (t + 2), .int (nI (sz + L.length)), .int (nI p2), .int tp])) := by rw [he10]; rw [va_up_ne _ _ (show t ≠ t + 1 by omega)]; exact va_up_self _ _ _
      have zK16 : hh10 (t + 1) = arI κ 50 (wrs st sz L) := by rw [he10]; exact va_up_self _ _ _
      have zK17 : hh10 r = some (.inr (6, [.ref (r + 1), .int (nI nn), .int bits])) := by rw [he10]; rw [va_up_ne _ _ (show r ≠ t + 1 by omega)]; rw [va_up_ne _ _ (show r ≠ t by omega)]; exact K2
      have zK18 : hh10 (r + 1) = arI κ 50 b := by rw [he10]; rw [va_up_ne _ _ (show r + 1 ≠ t + 1 by omega)]; rw [va_up_ne _ _ (show r + 1 ≠ t by omega)]; exact K3
      obtain ⟨u0, rfl⟩ : ∃ z, u = z + 1 := ⟨u - 1, by omega⟩
      refine z_iload X 4 dX9_sum_10 rfl ?_
      refine z_bipush (v := 50) X dX9_sum_12 (by decide) ?_
      refine z_icmp_ge X 81 dX9_sum_14 (by decide) (fun zc19 => ?_) (fun zc19 => ?_)
      · try replace zc19 := (nI_leI (a := 50) (b := i) (by omega) (by omega)).mp zc19
        have hns : ¬ (tk b nn p2 f2 = 43 ∨ tk b nn p2 f2 = 45) := by rw [tk_out (show ¬ p2 < nn by omega)]; decide
        refine z_iload_n X 3 dX9_sum_81 rfl ?_
        refine z_zret X E dX9_sum_82 (by first | rfl | exact b2i_nar _) (by omega) (by omega) ⟨p2, L, f2, k2, ?_, ?_, ?_, ?_⟩
        · rfl
        · funext zz; by_cases zq1 : zz = t + 1; (rw [zq1, va_up_self]; exact zK16); by_cases zq0 : zz = t; (rw [zq0, va_up_ne _ _ (show t ≠ t + 1 by omega), va_up_self]; exact zK15); rw [va_up_ne _ _ zq1, va_up_ne _ _ zq0]; rw [he10]; simp only [va_up, if_neg zq0, if_neg zq1]
        · rfl
        · exact ⟨by omega, g2, g3, g4, g5, g6, fun nm => (by (obtain ⟨v, ev, gv1⟩ := hR nm; exact ⟨v, ev.trans (sumF_stop hns), gv1⟩))⟩
      · try replace zc19 := mt (nI_leI (a := 50) (b := i) (by omega) (by omega)).mpr zc19
        refine z_iload_n X 3 dX9_sum_17 rfl ?_
        refine z_if_eq X 81 dX9_sum_18 (by decide) (fun zc20 => ?_) (fun zc20 => ?_)
        · replace zc20 := b2i_f zc20
          have hns : ¬ (tk b nn p2 f2 = 43 ∨ tk b nn p2 f2 = 45) := by rw [tk_flt zc20]; decide
          refine z_iload_n X 3 dX9_sum_81 rfl ?_
          refine z_zret X E dX9_sum_82 (by first | rfl | exact b2i_nar _) (by omega) (by omega) ⟨p2, L, f2, k2, ?_, ?_, ?_, ?_⟩
          · rfl
          · funext zz; by_cases zq1 : zz = t + 1; (rw [zq1, va_up_self]; exact zK16); by_cases zq0 : zz = t; (rw [zq0, va_up_ne _ _ (show t ≠ t + 1 by omega), va_up_self]; exact zK15); rw [va_up_ne _ _ zq1, va_up_ne _ _ zq0]; rw [he10]; simp only [va_up, if_neg zq0, if_neg zq1]
          · rfl
          · exact ⟨by omega, g2, g3, g4, g5, g6, fun nm => (by (obtain ⟨v, ev, gv1⟩ := hR nm; exact ⟨v, ev.trans (sumF_stop hns), gv1⟩))⟩
        · replace zc20 := b2i_t zc20
          have hf2 := zc20
          refine z_aload_n X 0 dX9_sum_21 rfl ?_
          refine z_aload_n X 1 dX9_sum_22 rfl ?_
          refine z_bipush (v := 43) X dX9_sum_23 (by decide) ?_
          refine z_callV X (t_sees (κ := κ) (n := n) (t := (t)) (r := (r)) (nn := (nn)) (p := (p2)) (b := (b)) (tp := (tp)) (bits := (bits)) (s0 := (nI (sz + L.length))) (c := (43)) zK15 zK17 zK18 (by first | assumption | omega) (by omega) (by decide)) mk_X9_sees dX9_sum_25 wd_571 wd_573 wd_14 rfl zK15 rfl rfl rfl (Nat.le_of_ble_eq_true rfl) (by omega) (Nat.le_of_ble_eq_true rfl) (by omega) (by omega) (fun q zh21 zm23 zp24 => ?_)
          obtain ⟨rfl, ze22, zn25⟩ := zp24
          subst zm23
          subst zh21
          refine z_st (st' := [.int (b2i (tk b nn p2 none = 43))]) rfl ?_
          refine z_if_ne X 41 dX9_sum_28 (by decide) (fun zc26 => ?_) (fun zc26 => ?_)
          · replace zc26 := b2i_t zc26
            have hsg : tk b nn p2 none = 43 ∨ tk b nn p2 none = 45 := Or.inl zc26
            have hin := tk_in (show ¬ tk b nn p2 none = -1 by rcases hsg with q | q <;> rw [q] <;> decide)
            have hop : isOp (tk b nn p2 none) := by rcases hsg with q | q <;> rw [q] <;> decide
            refine z_aload_n X 1 dX9_sum_41 rfl ?_
            refine z_aload_n X 0 dX9_sum_42 rfl ?_
            refine z_get X fl_X9_22_9 dX9_sum_43 zK15 rfl ?_
            refine z_callV X (c_Row_at (κ := κ) (n := n) (r := (r)) (k := (nn)) (bt := (bits)) (i := (nI p2)) (N := (50)) (f := (b)) zK17 zK18 (by first | assumption | omega) (by first | assumption | omega)) mk_X6_at dX9_sum_46 wd_561 wd_299 wd_300 rfl zK17 rfl rfl rfl (Nat.le_of_ble_eq_true rfl) (by omega) (Nat.le_of_ble_eq_true rfl) (by omega) (by omega) (fun q zh27 zm29 zp30 => ?_)
            obtain ⟨rfl, ze28, zn31⟩ := zp30
            subst zm29
            subst zh27
            refine z_st (st' := [.int (rowAt nn b (nI p2))]) rfl ?_
            refine z_toe (y := tk b nn p2 none) (at_tk hin.1 e1) ?_
            refine z_istore (ls' := [(5, .int (tk b nn p2 none)), (0, .ref t), (1, .ref r), (2, .int (nI k)), (3, .int (b2i (f2 = none))), (4, .int (nI i))]) X dX9_sum_49 (by decide) rfl ?_
            refine z_aload_n X 1 dX9_sum_51 rfl ?_
            refine z_dup X dX9_sum_52 rfl ?_
            refine z_get X fl_X9_22_9 dX9_sum_53 zK15 rfl ?_
            refine z_iconst (v := 1) X dX9_sum_56 (by decide) ?_
            refine z_iadd X dX9_sum_57 ?_
            refine z_toe (y := nI (p2 + 1)) (nI_add (p2) (1)) ?_
            refine z_put X fp_X9_22_9 dX9_sum_58 zK15 (by first | rfl | decide) (by first | rfl | decide) (Nat.le_of_ble_eq_true rfl) rfl ?_
            obtain ⟨zh32, ze33⟩ : ∃ z : Mm, z = va_up hh10 t (some (.inr (9, [.ref (t + 1), .ref (t + 2), .int (nI (sz + L.length)), .int (nI (p2 + 1)), .int tp]))) := ⟨_, rfl⟩
            refine z_heap (h' := zh32) ze33.symm ?_
            have zK34 := up_at ze33
            have zK35 := up_off ze33 (show t + 1 ≠ t by omega) zK16
            have zK36 := up_off ze33 (show r ≠ t by omega) zK17
            have zK37 := up_off ze33 (show r + 1 ≠ t by omega) zK18
            refine z_aload_n X 1 dX9_sum_61 rfl ?_
            refine z_aload_n X 2 dX9_sum_62 rfl ?_
            refine z_iload_n X 3 dX9_sum_63 rfl ?_
            refine z_callV X (PaC.use hU (κ := κ) (n := n) (t := (t)) (r := (r)) (nn := (nn)) (p := (p2 + 1)) (sz := (sz + L.length)) (k := (k)) (b := (b)) (st := (wrs st sz L)) (tp := (tp)) (bits := (bits)) zK34 zK35 zK36 zK37 (by first | assumption | omega) (by omega) (by omega) (e4) (by first | assumption | omega)) mk_X9_product dX9_sum_64 wd_549 wd_551 wd_9 rfl zK34 rfl rfl rfl (Nat.le_of_ble_eq_true rfl) (by omega) (Nat.le_of_ble_eq_true rfl) (by omega) (by omega) (fun q zh42 zm44 zp45 => ?_)
            obtain ⟨p'38, L'39, f'40, k'41, rfl, ze43, zn47, zf46⟩ := zp45
            subst zm44
            refine z_st (st' := [.int (b2i (f'40 = none))]) rfl ?_
            have zK48 : zh42 t = some (.inr (9, [.ref (t + 1), .ref (t + 2), .int (nI ((sz + L.length) + (L'39 : _).length)), .int (nI p'38), .int tp])) := by rw [ze43]; rw [va_up_ne _ _ (show t ≠ t + 1 by omega)]; exact va_up_self _ _ _
            have zK49 : zh42 (t + 1) = arI κ 50 (wrs (wrs st sz L) (sz + L.length) L'39) := by rw [ze43]; exact va_up_self _ _ _
            have zK50 : zh42 r = some (.inr (6, [.ref (r + 1), .int (nI nn), .int bits])) := by rw [ze43]; rw [va_up_ne _ _ (show r ≠ t + 1 by omega)]; rw [va_up_ne _ _ (show r ≠ t by omega)]; exact zK36
            have zK51 : zh42 (r + 1) = arI κ 50 b := by rw [ze43]; rw [va_up_ne _ _ (show r + 1 ≠ t + 1 by omega)]; rw [va_up_ne _ _ (show r + 1 ≠ t by omega)]; exact zK37
            obtain ⟨ga1, gb1, gc1, gd1, ge1, gf1, gg1⟩ := id zf46
            refine z_istore_n (ls' := [(3, .int (b2i (f'40 = none))), (5, .int (tk b nn p2 none)), (0, .ref t), (1, .ref r), (2, .int (nI k)), (4, .int (nI i))]) X dX9_sum_67 (by decide) rfl ?_
            refine z_aload_n X 2 dX9_sum_68 rfl ?_
            refine z_iload X 1 dX9_sum_69 rfl ?_
            refine z_ineg X dX9_sum_71 ?_
            refine z_callV X (t_step (κ := κ) (n := n) (t := (t)) (sz := ((sz + L.length) + (L'39 : _).length)) (st := (wrs (wrs st sz L) (sz + L.length) L'39)) (pl := (nI p'38)) (tp := (tp)) (v := (-(tk b nn p2 none))) zK48 zK49 (by omega)) mk_X9_step dX9_sum_72 wd_567 wd_569 wd_13 rfl zK48 rfl rfl rfl (Nat.le_of_ble_eq_true rfl) (by omega) (Nat.le_of_ble_eq_true rfl) (by omega) (by omega) (fun q zh52 zm54 zp55 => ?_)
            obtain ⟨rfl, ze53, zn56⟩ := zp55
            subst zm54
            refine z_st (st' := []) rfl ?_
            have zK57 : zh52 t = some (.inr (9, [.ref (t + 1), .ref (t + 2), .int (nI (((sz + L.length) + (L'39 : _).length) + 1)), .int ((nI p'38)), .int tp])) := by rw [ze53]; rw [va_up_ne _ _ (show t ≠ t + 1 by omega)]; exact va_up_self _ _ _
            have zK58 : zh52 (t + 1) = arI κ 50 (upd (wrs (wrs st sz L) (sz + L.length) L'39) ((sz + L.length) + (L'39 : _).length) (-(tk b nn p2 none))) := by rw [ze53]; exact va_up_self _ _ _
            have zK59 : zh52 r = some (.inr (6, [.ref (r + 1), .int (nI nn), .int bits])) := by rw [ze53]; rw [va_up_ne _ _ (show r ≠ t + 1 by omega)]; rw [va_up_ne _ _ (show r ≠ t by omega)]; exact zK50
            have zK60 : zh52 (r + 1) = arI κ 50 b := by rw [ze53]; rw [va_up_ne _ _ (show r + 1 ≠ t + 1 by omega)]; rw [va_up_ne _ _ (show r + 1 ≠ t by omega)]; exact zK51
            refine z_iinc (v := nI (i + 1)) (ls' := [(4, .int (nI (i + 1))), (3, .int (b2i (f'40 = none))), (5, .int (tk b nn p2 none)), (0, .ref t), (1, .ref r), (2, .int (nI k))]) X 5 dX9_sum_75 rfl (nI_1 (i)) (by decide) rfl ?_
            refine z_goto X 10 dX9_sum_78 (by decide) ?_
            refine z_sub (ls' := [(0, .ref t), (1, .ref r), (2, .int (nI k)), (3, .int (b2i (f'40 = none))), (4, .int (nI (i + 1)))]) [3, 4, 5, 1, 0] rfl ?_
            exact ih10 _ (i + 1) u0 p'38 (L ++ L'39 ++ [-(tk b nn p2 none)]) f'40 k'41 (by omega) (by rw [show wrs st sz (L ++ L'39 ++ [-(tk b nn p2 none)]) = upd (wrs (wrs st sz L) (sz + L.length) L'39) (sz + L.length + L'39.length) (-(tk b nn p2 none)) from (by rw [wrs_app, wrs_app, List.length_append]; exact congrArg (fun z => upd _ z _) (by omega)), show sz + (L ++ L'39 ++ [-(tk b nn p2 none)]).length = sz + L.length + L'39.length + 1 from (by simp only [List.length_append, List.length_cons, List.length_nil]; omega)]; funext zz; by_cases zq1 : zz = t + 1; (rw [zq1, va_up_self]; exact zK58); by_cases zq0 : zz = t; (rw [zq0, va_up_ne _ _ (show t ≠ t + 1 by omega), va_up_self]; exact zK57); rw [va_up_ne _ _ zq1, va_up_ne _ _ zq0]; rw [ze53, ze43, ze33, he10]; simp only [va_up, if_neg zq0, if_neg zq1]) (by first | assumption | rfl | omega) (by first | assumption | rfl | omega) (by first | assumption | rfl | omega) (by simp only [List.length_append, List.length_cons, List.length_nil]; omega) (by exact gd1) (by exact ge1) (by exact mem_app3 g6 gf1 (okS_o hop)) (by intro nm; obtain ⟨v, ev, gv1⟩ := hR nm; obtain ⟨w, ew, gw⟩ := gg1 nm; exact ⟨opS (tk b nn p2 none) v w, ev.trans ((sumF_go (b := b) (n := nn) (u := U b nn nm) (i := u0) (v := v) (w := w) (s := (p2, f2, k2)) (s' := (p'38, f'40, k'41)) (by rw [hf2]; exact hsg) (by (show U b nn nm (p2 + 1, f2, k2) = _; rw [hf2, g5 hf2]; exact ew))).trans (congrArg (fun zz => sumF b nn (U b nn nm) u0 (opS (tk b nn p2 zz) v w) (p'38, f'40, k'41)) hf2)), fun zq => (by (rw [← wkO_S hsg]; exact Good_bin (gv1 hf2) (gw zq) hop))⟩)
          · replace zc26 := b2i_f zc26
            refine z_aload_n X 0 dX9_sum_31 rfl ?_
            refine z_aload_n X 1 dX9_sum_32 rfl ?_
            refine z_bipush (v := 45) X dX9_sum_33 (by decide) ?_
            refine z_callV X (t_sees (κ := κ) (n := n) (t := (t)) (r := (r)) (nn := (nn)) (p := (p2)) (b := (b)) (tp := (tp)) (bits := (bits)) (s0 := (nI (sz + L.length))) (c := (45)) zK15 zK17 zK18 (by first | assumption | omega) (by omega) (by decide)) mk_X9_sees dX9_sum_35 wd_571 wd_573 wd_14 rfl zK15 rfl rfl rfl (Nat.le_of_ble_eq_true rfl) (by omega) (Nat.le_of_ble_eq_true rfl) (by omega) (by omega) (fun q zh61 zm63 zp64 => ?_)
            obtain ⟨rfl, ze62, zn65⟩ := zp64
            subst zm63
            subst zh61
            refine z_st (st' := [.int (b2i (tk b nn p2 none = 45))]) rfl ?_
            refine z_if_eq X 81 dX9_sum_38 (by decide) (fun zc66 => ?_) (fun zc66 => ?_)
            · replace zc66 := b2i_f zc66
              have hns : ¬ (tk b nn p2 f2 = 43 ∨ tk b nn p2 f2 = 45) := by rw [hf2]; simp only [not_or]; exact ⟨by assumption, by assumption⟩
              refine z_iload_n X 3 dX9_sum_81 rfl ?_
              refine z_zret X E dX9_sum_82 (by first | rfl | exact b2i_nar _) (by omega) (by omega) ⟨p2, L, f2, k2, ?_, ?_, ?_, ?_⟩
              · rfl
              · funext zz; by_cases zq1 : zz = t + 1; (rw [zq1, va_up_self]; exact zK16); by_cases zq0 : zz = t; (rw [zq0, va_up_ne _ _ (show t ≠ t + 1 by omega), va_up_self]; exact zK15); rw [va_up_ne _ _ zq1, va_up_ne _ _ zq0]; rw [he10]; simp only [va_up, if_neg zq0, if_neg zq1]
              · rfl
              · exact ⟨by omega, g2, g3, g4, g5, g6, fun nm => (by (obtain ⟨v, ev, gv1⟩ := hR nm; exact ⟨v, ev.trans (sumF_stop hns), gv1⟩))⟩
            · replace zc66 := b2i_t zc66
              have hsg : tk b nn p2 none = 43 ∨ tk b nn p2 none = 45 := Or.inr zc66
              have hin := tk_in (show ¬ tk b nn p2 none = -1 by rcases hsg with q | q <;> rw [q] <;> decide)
              have hop : isOp (tk b nn p2 none) := by rcases hsg with q | q <;> rw [q] <;> decide
              refine z_aload_n X 1 dX9_sum_41 rfl ?_
              refine z_aload_n X 0 dX9_sum_42 rfl ?_
              refine z_get X fl_X9_22_9 dX9_sum_43 zK15 rfl ?_
              refine z_callV X (c_Row_at (κ := κ) (n := n) (r := (r)) (k := (nn)) (bt := (bits)) (i := (nI p2)) (N := (50)) (f := (b)) zK17 zK18 (by first | assumption | omega) (by first | assumption | omega)) mk_X6_at dX9_sum_46 wd_561 wd_299 wd_300 rfl zK17 rfl rfl rfl (Nat.le_of_ble_eq_true rfl) (by omega) (Nat.le_of_ble_eq_true rfl) (by omega) (by omega) (fun q zh67 zm69 zp70 => ?_)
              obtain ⟨rfl, ze68, zn71⟩ := zp70
              subst zm69
              subst zh67
              refine z_st (st' := [.int (rowAt nn b (nI p2))]) rfl ?_
              refine z_toe (y := tk b nn p2 none) (at_tk hin.1 e1) ?_
              refine z_istore (ls' := [(5, .int (tk b nn p2 none)), (0, .ref t), (1, .ref r), (2, .int (nI k)), (3, .int (b2i (f2 = none))), (4, .int (nI i))]) X dX9_sum_49 (by decide) rfl ?_
              refine z_aload_n X 1 dX9_sum_51 rfl ?_
              refine z_dup X dX9_sum_52 rfl ?_
              refine z_get X fl_X9_22_9 dX9_sum_53 zK15 rfl ?_
              refine z_iconst (v := 1) X dX9_sum_56 (by decide) ?_
              refine z_iadd X dX9_sum_57 ?_
              refine z_toe (y := nI (p2 + 1)) (nI_add (p2) (1)) ?_
              refine z_put X fp_X9_22_9 dX9_sum_58 zK15 (by first | rfl | decide) (by first | rfl | decide) (Nat.le_of_ble_eq_true rfl) rfl ?_
              obtain ⟨zh72, ze73⟩ : ∃ z : Mm, z = va_up hh10 t (some (.inr (9, [.ref (t + 1), .ref (t + 2), .int (nI (sz + L.length)), .int (nI (p2 + 1)), .int tp]))) := ⟨_, rfl⟩
              refine z_heap (h' := zh72) ze73.symm ?_
              have zK74 := up_at ze73
              have zK75 := up_off ze73 (show t + 1 ≠ t by omega) zK16
              have zK76 := up_off ze73 (show r ≠ t by omega) zK17
              have zK77 := up_off ze73 (show r + 1 ≠ t by omega) zK18
              refine z_aload_n X 1 dX9_sum_61 rfl ?_
              refine z_aload_n X 2 dX9_sum_62 rfl ?_
              refine z_iload_n X 3 dX9_sum_63 rfl ?_
              refine z_callV X (PaC.use hU (κ := κ) (n := n) (t := (t)) (r := (r)) (nn := (nn)) (p := (p2 + 1)) (sz := (sz + L.length)) (k := (k)) (b := (b)) (st := (wrs st sz L)) (tp := (tp)) (bits := (bits)) zK74 zK75 zK76 zK77 (by first | assumption | omega) (by omega) (by omega) (e4) (by first | assumption | omega)) mk_X9_product dX9_sum_64 wd_549 wd_551 wd_9 rfl zK74 rfl rfl rfl (Nat.le_of_ble_eq_true rfl) (by omega) (Nat.le_of_ble_eq_true rfl) (by omega) (by omega) (fun q zh82 zm84 zp85 => ?_)
              obtain ⟨p'78, L'79, f'80, k'81, rfl, ze83, zn87, zf86⟩ := zp85
              subst zm84
              refine z_st (st' := [.int (b2i (f'80 = none))]) rfl ?_
              have zK88 : zh82 t = some (.inr (9, [.ref (t + 1), .ref (t + 2), .int (nI ((sz + L.length) + (L'79 : _).length)), .int (nI p'78), .int tp])) := by rw [ze83]; rw [va_up_ne _ _ (show t ≠ t + 1 by omega)]; exact va_up_self _ _ _
              have zK89 : zh82 (t + 1) = arI κ 50 (wrs (wrs st sz L) (sz + L.length) L'79) := by rw [ze83]; exact va_up_self _ _ _
              have zK90 : zh82 r = some (.inr (6, [.ref (r + 1), .int (nI nn), .int bits])) := by rw [ze83]; rw [va_up_ne _ _ (show r ≠ t + 1 by omega)]; rw [va_up_ne _ _ (show r ≠ t by omega)]; exact zK76
              have zK91 : zh82 (r + 1) = arI κ 50 b := by rw [ze83]; rw [va_up_ne _ _ (show r + 1 ≠ t + 1 by omega)]; rw [va_up_ne _ _ (show r + 1 ≠ t by omega)]; exact zK77
              obtain ⟨ga1, gb1, gc1, gd1, ge1, gf1, gg1⟩ := id zf86
              refine z_istore_n (ls' := [(3, .int (b2i (f'80 = none))), (5, .int (tk b nn p2 none)), (0, .ref t), (1, .ref r), (2, .int (nI k)), (4, .int (nI i))]) X dX9_sum_67 (by decide) rfl ?_
              refine z_aload_n X 2 dX9_sum_68 rfl ?_
              refine z_iload X 1 dX9_sum_69 rfl ?_
              refine z_ineg X dX9_sum_71 ?_
              refine z_callV X (t_step (κ := κ) (n := n) (t := (t)) (sz := ((sz + L.length) + (L'79 : _).length)) (st := (wrs (wrs st sz L) (sz + L.length) L'79)) (pl := (nI p'78)) (tp := (tp)) (v := (-(tk b nn p2 none))) zK88 zK89 (by omega)) mk_X9_step dX9_sum_72 wd_567 wd_569 wd_13 rfl zK88 rfl rfl rfl (Nat.le_of_ble_eq_true rfl) (by omega) (Nat.le_of_ble_eq_true rfl) (by omega) (by omega) (fun q zh92 zm94 zp95 => ?_)
              obtain ⟨rfl, ze93, zn96⟩ := zp95
              subst zm94
              refine z_st (st' := []) rfl ?_
              have zK97 : zh92 t = some (.inr (9, [.ref (t + 1), .ref (t + 2), .int (nI (((sz + L.length) + (L'79 : _).length) + 1)), .int ((nI p'78)), .int tp])) := by rw [ze93]; rw [va_up_ne _ _ (show t ≠ t + 1 by omega)]; exact va_up_self _ _ _
              have zK98 : zh92 (t + 1) = arI κ 50 (upd (wrs (wrs st sz L) (sz + L.length) L'79) ((sz + L.length) + (L'79 : _).length) (-(tk b nn p2 none))) := by rw [ze93]; exact va_up_self _ _ _
              have zK99 : zh92 r = some (.inr (6, [.ref (r + 1), .int (nI nn), .int bits])) := by rw [ze93]; rw [va_up_ne _ _ (show r ≠ t + 1 by omega)]; rw [va_up_ne _ _ (show r ≠ t by omega)]; exact zK90
              have zK100 : zh92 (r + 1) = arI κ 50 b := by rw [ze93]; rw [va_up_ne _ _ (show r + 1 ≠ t + 1 by omega)]; rw [va_up_ne _ _ (show r + 1 ≠ t by omega)]; exact zK91
              refine z_iinc (v := nI (i + 1)) (ls' := [(4, .int (nI (i + 1))), (3, .int (b2i (f'80 = none))), (5, .int (tk b nn p2 none)), (0, .ref t), (1, .ref r), (2, .int (nI k))]) X 5 dX9_sum_75 rfl (nI_1 (i)) (by decide) rfl ?_
              refine z_goto X 10 dX9_sum_78 (by decide) ?_
              refine z_sub (ls' := [(0, .ref t), (1, .ref r), (2, .int (nI k)), (3, .int (b2i (f'80 = none))), (4, .int (nI (i + 1)))]) [3, 4, 5, 1, 0] rfl ?_
              exact ih10 _ (i + 1) u0 p'78 (L ++ L'79 ++ [-(tk b nn p2 none)]) f'80 k'81 (by omega) (by rw [show wrs st sz (L ++ L'79 ++ [-(tk b nn p2 none)]) = upd (wrs (wrs st sz L) (sz + L.length) L'79) (sz + L.length + L'79.length) (-(tk b nn p2 none)) from (by rw [wrs_app, wrs_app, List.length_append]; exact congrArg (fun z => upd _ z _) (by omega)), show sz + (L ++ L'79 ++ [-(tk b nn p2 none)]).length = sz + L.length + L'79.length + 1 from (by simp only [List.length_append, List.length_cons, List.length_nil]; omega)]; funext zz; by_cases zq1 : zz = t + 1; (rw [zq1, va_up_self]; exact zK98); by_cases zq0 : zz = t; (rw [zq0, va_up_ne _ _ (show t ≠ t + 1 by omega), va_up_self]; exact zK97); rw [va_up_ne _ _ zq1, va_up_ne _ _ zq0]; rw [ze93, ze83, ze73, he10]; simp only [va_up, if_neg zq0, if_neg zq1]) (by first | assumption | rfl | omega) (by first | assumption | rfl | omega) (by first | assumption | rfl | omega) (by simp only [List.length_append, List.length_cons, List.length_nil]; omega) (by exact gd1) (by exact ge1) (by exact mem_app3 g6 gf1 (okS_o hop)) (by intro nm; obtain ⟨v, ev, gv1⟩ := hR nm; obtain ⟨w, ew, gw⟩ := gg1 nm; exact ⟨opS (tk b nn p2 none) v w, ev.trans ((sumF_go (b := b) (n := nn) (u := U b nn nm) (i := u0) (v := v) (w := w) (s := (p2, f2, k2)) (s' := (p'78, f'80, k'81)) (by rw [hf2]; exact hsg) (by (show U b nn nm (p2 + 1, f2, k2) = _; rw [hf2, g5 hf2]; exact ew))).trans (congrArg (fun zz => sumF b nn (U b nn nm) u0 (opS (tk b nn p2 zz) v w) (p'78, f'80, k'81)) hf2)), fun zq => (by (rw [← wkO_S hsg]; exact Good_bin (gv1 hf2) (gw zq) hop))⟩)
  refine z_sub (ls' := [(0, .ref t), (1, .ref r), (2, .int (nI k)), (3, .int (b2i (f'3 = none))), (4, .int 0)]) [2, 3, 4, 1, 0] rfl ?_
  exact L10 _ _ 0 51 p'1 L'2 f'3 k'4 (Nat.lt_succ_self _) (by funext zz; by_cases zq1 : zz = t + 1; (rw [zq1, va_up_self]; exact zK12); by_cases zq0 : zz = t; (rw [zq0, va_up_ne _ _ (show t ≠ t + 1 by omega), va_up_self]; exact zK11); rw [va_up_ne _ _ zq1, va_up_ne _ _ zq0]; rw [ze6]; simp only [va_up, if_neg zq0, if_neg zq1]) (by first | assumption | rfl | omega) (by first | assumption | rfl | omega) (by first | assumption | rfl | omega) (by first | assumption | rfl | omega) (by exact gd0) (by exact ge0) (by exact gf0) (by intro nm; obtain ⟨v, ev, gv1⟩ := gg0 nm; exact ⟨v, by unfold sumE; rw [ev], gv1⟩)
set_option maxHeartbeats 4000000 in
set_option maxRecDepth 100000 in
theorem pa_allOf {κ : Wc} {l : Launch} {j dd : Nat} {U : EvF} (hdd : 5 ≤ dd) (hU : PaC κ l yX9_compared cX9_compared 5 dd j U) : PaC κ l yX9_allOf cX9_allOf 5 (dd + 1) j (bothE U) := by
  intro h n t r nn p sz k b st tp bits K0 K1 K2 K3 e1 e2 e3 e4 e5
  refine Con.of mk_X9_allOf (Nat.le_of_ble_eq_true rfl) (fun G hG X E => ?_)
  subst hG
  refine z_ls (ls' := [(0, .ref t), (1, .ref r), (2, .int (nI k))]) rfl ?_
  refine z_aload_n X 0 dX9_allOf_0 rfl ?_
  refine z_aload_n X 1 dX9_allOf_1 rfl ?_
  refine z_iload_n X 2 dX9_allOf_2 rfl ?_
  refine z_callV X (PaC.use hU (κ := κ) (n := n) (t := (t)) (r := (r)) (nn := (nn)) (p := (p)) (sz := (sz)) (k := (k)) (b := (b)) (st := (st)) (tp := (tp)) (bits := (bits)) K0 K1 K2 K3 (by first | assumption | omega) (by first | assumption | omega) (by first | assumption | omega) (e4) (by first | assumption | omega)) mk_X9_compared dX9_allOf_3 wd_541 wd_543 wd_7 rfl K0 rfl rfl rfl (Nat.le_of_ble_eq_true rfl) (by omega) (Nat.le_of_ble_eq_true rfl) (by omega) (by omega) (fun q zh5 zm7 zp8 => ?_)
  obtain ⟨p'1, L'2, f'3, k'4, rfl, ze6, zn10, zf9⟩ := zp8
  subst zm7
  refine z_st (st' := [.int (b2i (f'3 = none))]) rfl ?_
  have zK11 : zh5 t = some (.inr (9, [.ref (t + 1), .ref (t + 2), .int (nI (sz + (L'2 : _).length)), .int (nI p'1), .int tp])) := by rw [ze6]; rw [va_up_ne _ _ (show t ≠ t + 1 by omega)]; exact va_up_self _ _ _
  have zK12 : zh5 (t + 1) = arI κ 50 (wrs st sz L'2) := by rw [ze6]; exact va_up_self _ _ _
  have zK13 : zh5 r = some (.inr (6, [.ref (r + 1), .int (nI nn), .int bits])) := by rw [ze6]; rw [va_up_ne _ _ (show r ≠ t + 1 by omega)]; rw [va_up_ne _ _ (show r ≠ t by omega)]; exact K2
  have zK14 : zh5 (r + 1) = arI κ 50 b := by rw [ze6]; rw [va_up_ne _ _ (show r + 1 ≠ t + 1 by omega)]; rw [va_up_ne _ _ (show r + 1 ≠ t by omega)]; exact K3
  obtain ⟨ga0, gb0, gc0, gd0, ge0, gf0, gg0⟩ := id zf9
  refine z_istore_n (ls' := [(3, .int (b2i (f'3 = none))), (0, .ref t), (1, .ref r), (2, .int (nI k))]) X dX9_allOf_6 (by decide) rfl ?_
  refine z_iconst (v := 0) X dX9_allOf_7 (by decide) ?_
  refine z_istore (ls' := [(4, .int 0), (3, .int (b2i (f'3 = none))), (0, .ref t), (1, .ref r), (2, .int (nI k))]) X dX9_allOf_8 (by decide) rfl ?_
  have L10 : ∀ (jj : Nat) (hh10 : Mm)  (i : Nat) (u : Nat) (p2 : Nat) (L : List Int32) (f2 : Option Nat) (k2 : Nat), (nn + 1 - p2 < jj) → (hh10 = va_up (va_up h t (some (.inr (9, [.ref (t + 1), .ref (t + 2), .int (nI (sz + L.length)), .int (nI p2), .int tp])))) (t + 1) (arI κ 50 (wrs st sz L))) → (hi : p + i ≤ p2) → (hu : nn - p2 < u) → (g2 : p2 ≤ nn) → (g3 : p + L.length ≤ p2) → (g4 : f2 = none ∨ f2 = some p2) → (g5 : f2 = none → k2 = k) → (g6 : ∀ x, x ∈ L → okS x) → (hR : ∀ nm : Nat → Int32, ∃ v : Int32, bothE U b nn nm (p, none, k) = bothF b nn (U b nn nm) u v (p2, f2, k2) ∧ (f2 = none → Good nm L v)) → Z κ G 5 10 [(0, .ref t), (1, .ref r), (2, .int (nI k)), (3, .int (b2i (f2 = none))), (4, .int (nI i))] [] hh10 n 0 (0) := by
    intro jj
    induction jj with
    | zero => intro hh10 i u p2 L f2 k2 hmu; exact absurd hmu (Nat.not_lt_zero _)
    | succ jj ih10 =>
      intro hh10 i u p2 L f2 k2 hmu he10 hi hu g2 g3 g4 g5 g6 hR
      have zK15 : hh10 t = some (.inr (9, [.ref (t + 1), .ref (t + 2), .int (nI (sz + L.length)), .int (nI p2), .int tp])) := by rw [he10]; rw [va_up_ne _ _ (show t ≠ t + 1 by omega)]; exact va_up_self _ _ _
      have zK16 : hh10 (t + 1) = arI κ 50 (wrs st sz L) := by rw [he10]; exact va_up_self _ _ _
      have zK17 : hh10 r = some (.inr (6, [.ref (r + 1), .int (nI nn), .int bits])) := by rw [he10]; rw [va_up_ne _ _ (show r ≠ t + 1 by omega)]; rw [va_up_ne _ _ (show r ≠ t by omega)]; exact K2
      have zK18 : hh10 (r + 1) = arI κ 50 b := by rw [he10]; rw [va_up_ne _ _ (show r + 1 ≠ t + 1 by omega)]; rw [va_up_ne _ _ (show r + 1 ≠ t by omega)]; exact K3
      obtain ⟨u0, rfl⟩ : ∃ z, u = z + 1 := ⟨u - 1, by omega⟩
      refine z_iload X 4 dX9_allOf_10 rfl ?_
      refine z_bipush (v := 50) X dX9_allOf_12 (by decide) ?_
      refine z_icmp_ge X 60 dX9_allOf_14 (by decide) (fun zc19 => ?_) (fun zc19 => ?_)
      · try replace zc19 := (nI_leI (a := 50) (b := i) (by omega) (by omega)).mp zc19
        have hns : ¬ (tk b nn p2 f2 = 38) := by rw [tk_out (show ¬ p2 < nn by omega)]; decide
        refine z_iload_n X 3 dX9_allOf_60 rfl ?_
        refine z_zret X E dX9_allOf_61 (by first | rfl | exact b2i_nar _) (by omega) (by omega) ⟨p2, L, f2, k2, ?_, ?_, ?_, ?_⟩
        · rfl
        · funext zz; by_cases zq1 : zz = t + 1; (rw [zq1, va_up_self]; exact zK16); by_cases zq0 : zz = t; (rw [zq0, va_up_ne _ _ (show t ≠ t + 1 by omega), va_up_self]; exact zK15); rw [va_up_ne _ _ zq1, va_up_ne _ _ zq0]; rw [he10]; simp only [va_up, if_neg zq0, if_neg zq1]
        · rfl
        · exact ⟨by omega, g2, g3, g4, g5, g6, fun nm => (by (obtain ⟨v, ev, gv1⟩ := hR nm; exact ⟨v, ev.trans (bothF_stop hns), gv1⟩))⟩
      · try replace zc19 := mt (nI_leI (a := 50) (b := i) (by omega) (by omega)).mpr zc19
        refine z_iload_n X 3 dX9_allOf_17 rfl ?_
        refine z_if_eq X 60 dX9_allOf_18 (by decide) (fun zc20 => ?_) (fun zc20 => ?_)
        · replace zc20 := b2i_f zc20
          have hns : ¬ (tk b nn p2 f2 = 38) := by rw [tk_flt zc20]; decide
          refine z_iload_n X 3 dX9_allOf_60 rfl ?_
          refine z_zret X E dX9_allOf_61 (by first | rfl | exact b2i_nar _) (by omega) (by omega) ⟨p2, L, f2, k2, ?_, ?_, ?_, ?_⟩
          · rfl
          · funext zz; by_cases zq1 : zz = t + 1; (rw [zq1, va_up_self]; exact zK16); by_cases zq0 : zz = t; (rw [zq0, va_up_ne _ _ (show t ≠ t + 1 by omega), va_up_self]; exact zK15); rw [va_up_ne _ _ zq1, va_up_ne _ _ zq0]; rw [he10]; simp only [va_up, if_neg zq0, if_neg zq1]
          · rfl
          · exact ⟨by omega, g2, g3, g4, g5, g6, fun nm => (by (obtain ⟨v, ev, gv1⟩ := hR nm; exact ⟨v, ev.trans (bothF_stop hns), gv1⟩))⟩
        · replace zc20 := b2i_t zc20
          have hf2 := zc20
          refine z_aload_n X 0 dX9_allOf_21 rfl ?_
          refine z_aload_n X 1 dX9_allOf_22 rfl ?_
          refine z_bipush (v := 38) X dX9_allOf_23 (by decide) ?_
          refine z_callV X (t_sees (κ := κ) (n := n) (t := (t)) (r := (r)) (nn := (nn)) (p := (p2)) (b := (b)) (tp := (tp)) (bits := (bits)) (s0 := (nI (sz + L.length))) (c := (38)) zK15 zK17 zK18 (by first | assumption | omega) (by omega) (by decide)) mk_X9_sees dX9_allOf_25 wd_571 wd_573 wd_14 rfl zK15 rfl rfl rfl (Nat.le_of_ble_eq_true rfl) (by omega) (Nat.le_of_ble_eq_true rfl) (by omega) (by omega) (fun q zh21 zm23 zp24 => ?_)
          obtain ⟨rfl, ze22, zn25⟩ := zp24
          subst zm23
          subst zh21
          refine z_st (st' := [.int (b2i (tk b nn p2 none = 38))]) rfl ?_
          refine z_if_eq X 60 dX9_allOf_28 (by decide) (fun zc26 => ?_) (fun zc26 => ?_)
          · replace zc26 := b2i_f zc26
            have hns : ¬ (tk b nn p2 f2 = 38) := by rw [hf2]; exact zc26
            refine z_iload_n X 3 dX9_allOf_60 rfl ?_
            refine z_zret X E dX9_allOf_61 (by first | rfl | exact b2i_nar _) (by omega) (by omega) ⟨p2, L, f2, k2, ?_, ?_, ?_, ?_⟩
            · rfl
            · funext zz; by_cases zq1 : zz = t + 1; (rw [zq1, va_up_self]; exact zK16); by_cases zq0 : zz = t; (rw [zq0, va_up_ne _ _ (show t ≠ t + 1 by omega), va_up_self]; exact zK15); rw [va_up_ne _ _ zq1, va_up_ne _ _ zq0]; rw [he10]; simp only [va_up, if_neg zq0, if_neg zq1]
            · rfl
            · exact ⟨by omega, g2, g3, g4, g5, g6, fun nm => (by (obtain ⟨v, ev, gv1⟩ := hR nm; exact ⟨v, ev.trans (bothF_stop hns), gv1⟩))⟩
          · replace zc26 := b2i_t zc26
            have hsg : tk b nn p2 none = 38 := zc26
            have hin := tk_in (show ¬ tk b nn p2 none = -1 by rw [hsg]; decide)
            have hop : isOp (38) := by decide
            refine z_aload_n X 0 dX9_allOf_31 rfl ?_
            refine z_dup X dX9_allOf_32 rfl ?_
            refine z_get X fl_X9_22_9 dX9_allOf_33 zK15 rfl ?_
            refine z_iconst (v := 1) X dX9_allOf_36 (by decide) ?_
            refine z_iadd X dX9_allOf_37 ?_
            refine z_toe (y := nI (p2 + 1)) (nI_add (p2) (1)) ?_
            refine z_put X fp_X9_22_9 dX9_allOf_38 zK15 (by first | rfl | decide) (by first | rfl | decide) (Nat.le_of_ble_eq_true rfl) rfl ?_
            obtain ⟨zh27, ze28⟩ : ∃ z : Mm, z = va_up hh10 t (some (.inr (9, [.ref (t + 1), .ref (t + 2), .int (nI (sz + L.length)), .int (nI (p2 + 1)), .int tp]))) := ⟨_, rfl⟩
            refine z_heap (h' := zh27) ze28.symm ?_
            have zK29 := up_at ze28
            have zK30 := up_off ze28 (show t + 1 ≠ t by omega) zK16
            have zK31 := up_off ze28 (show r ≠ t by omega) zK17
            have zK32 := up_off ze28 (show r + 1 ≠ t by omega) zK18
            refine z_aload_n X 0 dX9_allOf_41 rfl ?_
            refine z_aload_n X 1 dX9_allOf_42 rfl ?_
            refine z_iload_n X 2 dX9_allOf_43 rfl ?_
            refine z_callV X (PaC.use hU (κ := κ) (n := n) (t := (t)) (r := (r)) (nn := (nn)) (p := (p2 + 1)) (sz := (sz + L.length)) (k := (k)) (b := (b)) (st := (wrs st sz L)) (tp := (tp)) (bits := (bits)) zK29 zK30 zK31 zK32 (by first | assumption | omega) (by omega) (by omega) (e4) (by first | assumption | omega)) mk_X9_compared dX9_allOf_44 wd_541 wd_543 wd_7 rfl zK29 rfl rfl rfl (Nat.le_of_ble_eq_true rfl) (by omega) (Nat.le_of_ble_eq_true rfl) (by omega) (by omega) (fun q zh37 zm39 zp40 => ?_)
            obtain ⟨p'33, L'34, f'35, k'36, rfl, ze38, zn42, zf41⟩ := zp40
            subst zm39
            refine z_st (st' := [.int (b2i (f'35 = none))]) rfl ?_
            have zK43 : zh37 t = some (.inr (9, [.ref (t + 1), .ref (t + 2), .int (nI ((sz + L.length) + (L'34 : _).length)), .int (nI p'33), .int tp])) := by rw [ze38]; rw [va_up_ne _ _ (show t ≠ t + 1 by omega)]; exact va_up_self _ _ _
            have zK44 : zh37 (t + 1) = arI κ 50 (wrs (wrs st sz L) (sz + L.length) L'34) := by rw [ze38]; exact va_up_self _ _ _
            have zK45 : zh37 r = some (.inr (6, [.ref (r + 1), .int (nI nn), .int bits])) := by rw [ze38]; rw [va_up_ne _ _ (show r ≠ t + 1 by omega)]; rw [va_up_ne _ _ (show r ≠ t by omega)]; exact zK31
            have zK46 : zh37 (r + 1) = arI κ 50 b := by rw [ze38]; rw [va_up_ne _ _ (show r + 1 ≠ t + 1 by omega)]; rw [va_up_ne _ _ (show r + 1 ≠ t by omega)]; exact zK32
            obtain ⟨ga1, gb1, gc1, gd1, ge1, gf1, gg1⟩ := id zf41
            refine z_istore_n (ls' := [(3, .int (b2i (f'35 = none))), (0, .ref t), (1, .ref r), (2, .int (nI k)), (4, .int (nI i))]) X dX9_allOf_47 (by decide) rfl ?_
            refine z_aload_n X 1 dX9_allOf_48 rfl ?_
            refine z_bipush (v := -38) X dX9_allOf_49 (by decide) ?_
            refine z_callV X (t_step (κ := κ) (n := n) (t := (t)) (sz := ((sz + L.length) + (L'34 : _).length)) (st := (wrs (wrs st sz L) (sz + L.length) L'34)) (pl := (nI p'33)) (tp := (tp)) (v := (-38)) zK43 zK44 (by omega)) mk_X9_step dX9_allOf_51 wd_567 wd_569 wd_13 rfl zK43 rfl rfl rfl (Nat.le_of_ble_eq_true rfl) (by omega) (Nat.le_of_ble_eq_true rfl) (by omega) (by omega) (fun q zh47 zm49 zp50 => ?_)
            obtain ⟨rfl, ze48, zn51⟩ := zp50
            subst zm49
            refine z_st (st' := []) rfl ?_
            have zK52 : zh47 t = some (.inr (9, [.ref (t + 1), .ref (t + 2), .int (nI (((sz + L.length) + (L'34 : _).length) + 1)), .int ((nI p'33)), .int tp])) := by rw [ze48]; rw [va_up_ne _ _ (show t ≠ t + 1 by omega)]; exact va_up_self _ _ _
            have zK53 : zh47 (t + 1) = arI κ 50 (upd (wrs (wrs st sz L) (sz + L.length) L'34) ((sz + L.length) + (L'34 : _).length) (-38)) := by rw [ze48]; exact va_up_self _ _ _
            have zK54 : zh47 r = some (.inr (6, [.ref (r + 1), .int (nI nn), .int bits])) := by rw [ze48]; rw [va_up_ne _ _ (show r ≠ t + 1 by omega)]; rw [va_up_ne _ _ (show r ≠ t by omega)]; exact zK45
            have zK55 : zh47 (r + 1) = arI κ 50 b := by rw [ze48]; rw [va_up_ne _ _ (show r + 1 ≠ t + 1 by omega)]; rw [va_up_ne _ _ (show r + 1 ≠ t by omega)]; exact zK46
            refine z_iinc (v := nI (i + 1)) (ls' := [(4, .int (nI (i + 1))), (3, .int (b2i (f'35 = none))), (0, .ref t), (1, .ref r), (2, .int (nI k))]) X 4 dX9_allOf_54 rfl (nI_1 (i)) (by decide) rfl ?_
            refine z_goto X 10 dX9_allOf_57 (by decide) ?_
            refine z_sub (ls' := [(0, .ref t), (1, .ref r), (2, .int (nI k)), (3, .int (b2i (f'35 = none))), (4, .int (nI (i + 1)))]) [2, 3, 4, 1, 0] rfl ?_
            exact ih10 _ (i + 1) u0 p'33 (L ++ L'34 ++ [-((38 : Int32))]) f'35 k'36 (by omega) (by rw [show wrs st sz (L ++ L'34 ++ [-((38 : Int32))]) = upd (wrs (wrs st sz L) (sz + L.length) L'34) (sz + L.length + L'34.length) (-((38 : Int32))) from (by rw [wrs_app, wrs_app, List.length_append]; exact congrArg (fun z => upd _ z _) (by omega)), show sz + (L ++ L'34 ++ [-((38 : Int32))]).length = sz + L.length + L'34.length + 1 from (by simp only [List.length_append, List.length_cons, List.length_nil]; omega)]; funext zz; by_cases zq1 : zz = t + 1; (rw [zq1, va_up_self]; exact zK53); by_cases zq0 : zz = t; (rw [zq0, va_up_ne _ _ (show t ≠ t + 1 by omega), va_up_self]; exact zK52); rw [va_up_ne _ _ zq1, va_up_ne _ _ zq0]; rw [ze48, ze38, ze28, he10]; simp only [va_up, if_neg zq0, if_neg zq1]) (by first | assumption | rfl | omega) (by first | assumption | rfl | omega) (by first | assumption | rfl | omega) (by simp only [List.length_append, List.length_cons, List.length_nil]; omega) (by exact gd1) (by exact ge1) (by exact mem_app3 g6 gf1 (okS_o hop)) (by intro nm; obtain ⟨v, ev, gv1⟩ := hR nm; obtain ⟨w, ew, gw⟩ := gg1 nm; exact ⟨opB v w, ev.trans ((bothF_go (b := b) (n := nn) (u := U b nn nm) (i := u0) (v := v) (w := w) (s := (p2, f2, k2)) (s' := (p'33, f'35, k'36)) (by rw [hf2]; exact hsg) (by (show U b nn nm (p2 + 1, f2, k2) = _; rw [hf2, g5 hf2]; exact ew))).trans (rfl)), fun zq => (by (exact Good_bin (c := (38 : Int32)) (gv1 hf2) (gw zq) hop))⟩)
  refine z_sub (ls' := [(0, .ref t), (1, .ref r), (2, .int (nI k)), (3, .int (b2i (f'3 = none))), (4, .int 0)]) [2, 3, 4, 1, 0] rfl ?_
  exact L10 _ _ 0 51 p'1 L'2 f'3 k'4 (Nat.lt_succ_self _) (by funext zz; by_cases zq1 : zz = t + 1; (rw [zq1, va_up_self]; exact zK12); by_cases zq0 : zz = t; (rw [zq0, va_up_ne _ _ (show t ≠ t + 1 by omega), va_up_self]; exact zK11); rw [va_up_ne _ _ zq1, va_up_ne _ _ zq0]; rw [ze6]; simp only [va_up, if_neg zq0, if_neg zq1]) (by first | assumption | rfl | omega) (by first | assumption | rfl | omega) (by first | assumption | rfl | omega) (by first | assumption | rfl | omega) (by exact gd0) (by exact ge0) (by exact gf0) (by intro nm; obtain ⟨v, ev, gv1⟩ := gg0 nm; exact ⟨v, by unfold bothE; rw [ev], gv1⟩)
set_option maxHeartbeats 4000000 in
set_option maxRecDepth 100000 in
theorem pa_anyOf {κ : Wc} {l : Launch} {j dd : Nat} {U : EvF} (hdd : 5 ≤ dd) (hU : PaC κ l yX9_allOf cX9_allOf 5 dd j U) : PaC κ l yX9_anyOf cX9_anyOf 5 (dd + 1) j (eithE U) := by
  intro h n t r nn p sz k b st tp bits K0 K1 K2 K3 e1 e2 e3 e4 e5
  refine Con.of mk_X9_anyOf (Nat.le_of_ble_eq_true rfl) (fun G hG X E => ?_)
  subst hG
  refine z_ls (ls' := [(0, .ref t), (1, .ref r), (2, .int (nI k))]) rfl ?_
  refine z_aload_n X 0 dX9_anyOf_0 rfl ?_
  refine z_aload_n X 1 dX9_anyOf_1 rfl ?_
  refine z_iload_n X 2 dX9_anyOf_2 rfl ?_
  refine z_callV X (PaC.use hU (κ := κ) (n := n) (t := (t)) (r := (r)) (nn := (nn)) (p := (p)) (sz := (sz)) (k := (k)) (b := (b)) (st := (st)) (tp := (tp)) (bits := (bits)) K0 K1 K2 K3 (by first | assumption | omega) (by first | assumption | omega) (by first | assumption | omega) (e4) (by first | assumption | omega)) mk_X9_allOf dX9_anyOf_3 wd_537 wd_539 wd_6 rfl K0 rfl rfl rfl (Nat.le_of_ble_eq_true rfl) (by omega) (Nat.le_of_ble_eq_true rfl) (by omega) (by omega) (fun q zh5 zm7 zp8 => ?_)
  obtain ⟨p'1, L'2, f'3, k'4, rfl, ze6, zn10, zf9⟩ := zp8
  subst zm7
  refine z_st (st' := [.int (b2i (f'3 = none))]) rfl ?_
  have zK11 : zh5 t = some (.inr (9, [.ref (t + 1), .ref (t + 2), .int (nI (sz + (L'2 : _).length)), .int (nI p'1), .int tp])) := by rw [ze6]; rw [va_up_ne _ _ (show t ≠ t + 1 by omega)]; exact va_up_self _ _ _
  have zK12 : zh5 (t + 1) = arI κ 50 (wrs st sz L'2) := by rw [ze6]; exact va_up_self _ _ _
  have zK13 : zh5 r = some (.inr (6, [.ref (r + 1), .int (nI nn), .int bits])) := by rw [ze6]; rw [va_up_ne _ _ (show r ≠ t + 1 by omega)]; rw [va_up_ne _ _ (show r ≠ t by omega)]; exact K2
  have zK14 : zh5 (r + 1) = arI κ 50 b := by rw [ze6]; rw [va_up_ne _ _ (show r + 1 ≠ t + 1 by omega)]; rw [va_up_ne _ _ (show r + 1 ≠ t by omega)]; exact K3
  obtain ⟨ga0, gb0, gc0, gd0, ge0, gf0, gg0⟩ := id zf9
  refine z_istore_n (ls' := [(3, .int (b2i (f'3 = none))), (0, .ref t), (1, .ref r), (2, .int (nI k))]) X dX9_anyOf_6 (by decide) rfl ?_
  refine z_iconst (v := 0) X dX9_anyOf_7 (by decide) ?_
  refine z_istore (ls' := [(4, .int 0), (3, .int (b2i (f'3 = none))), (0, .ref t), (1, .ref r), (2, .int (nI k))]) X dX9_anyOf_8 (by decide) rfl ?_
  have L10 : ∀ (jj : Nat) (hh10 : Mm)  (i : Nat) (u : Nat) (p2 : Nat) (L : List Int32) (f2 : Option Nat) (k2 : Nat), (nn + 1 - p2 < jj) → (hh10 = va_up (va_up h t (some (.inr (9, [.ref (t + 1), .ref (t + 2), .int (nI (sz + L.length)), .int (nI p2), .int tp])))) (t + 1) (arI κ 50 (wrs st sz L))) → (hi : p + i ≤ p2) → (hu : nn - p2 < u) → (g2 : p2 ≤ nn) → (g3 : p + L.length ≤ p2) → (g4 : f2 = none ∨ f2 = some p2) → (g5 : f2 = none → k2 = k) → (g6 : ∀ x, x ∈ L → okS x) → (hR : ∀ nm : Nat → Int32, ∃ v : Int32, eithE U b nn nm (p, none, k) = eithF b nn (U b nn nm) u v (p2, f2, k2) ∧ (f2 = none → Good nm L v)) → Z κ G 5 10 [(0, .ref t), (1, .ref r), (2, .int (nI k)), (3, .int (b2i (f2 = none))), (4, .int (nI i))] [] hh10 n 0 (0) := by
    intro jj
    induction jj with
    | zero => intro hh10 i u p2 L f2 k2 hmu; exact absurd hmu (Nat.not_lt_zero _)
    | succ jj ih10 =>
      intro hh10 i u p2 L f2 k2 hmu he10 hi hu g2 g3 g4 g5 g6 hR
      have zK15 : hh10 t = some (.inr (9, [.ref (t + 1), .ref (t + 2), .int (nI (sz + L.length)), .int (nI p2), .int tp])) := by rw [he10]; rw [va_up_ne _ _ (show t ≠ t + 1 by omega)]; exact va_up_self _ _ _
      have zK16 : hh10 (t + 1) = arI κ 50 (wrs st sz L) := by rw [he10]; exact va_up_self _ _ _
      have zK17 : hh10 r = some (.inr (6, [.ref (r + 1), .int (nI nn), .int bits])) := by rw [he10]; rw [va_up_ne _ _ (show r ≠ t + 1 by omega)]; rw [va_up_ne _ _ (show r ≠ t by omega)]; exact K2
      have zK18 : hh10 (r + 1) = arI κ 50 b := by rw [he10]; rw [va_up_ne _ _ (show r + 1 ≠ t + 1 by omega)]; rw [va_up_ne _ _ (show r + 1 ≠ t by omega)]; exact K3
      obtain ⟨u0, rfl⟩ : ∃ z, u = z + 1 := ⟨u - 1, by omega⟩
      refine z_iload X 4 dX9_anyOf_10 rfl ?_
      refine z_bipush (v := 50) X dX9_anyOf_12 (by decide) ?_
      refine z_icmp_ge X 60 dX9_anyOf_14 (by decide) (fun zc19 => ?_) (fun zc19 => ?_)
      · try replace zc19 := (nI_leI (a := 50) (b := i) (by omega) (by omega)).mp zc19
        have hns : ¬ (tk b nn p2 f2 = 124) := by rw [tk_out (show ¬ p2 < nn by omega)]; decide
        refine z_iload_n X 3 dX9_anyOf_60 rfl ?_
        refine z_zret X E dX9_anyOf_61 (by first | rfl | exact b2i_nar _) (by omega) (by omega) ⟨p2, L, f2, k2, ?_, ?_, ?_, ?_⟩
        · rfl
        · funext zz; by_cases zq1 : zz = t + 1; (rw [zq1, va_up_self]; exact zK16); by_cases zq0 : zz = t; (rw [zq0, va_up_ne _ _ (show t ≠ t + 1 by omega), va_up_self]; exact zK15); rw [va_up_ne _ _ zq1, va_up_ne _ _ zq0]; rw [he10]; simp only [va_up, if_neg zq0, if_neg zq1]
        · rfl
        · exact ⟨by omega, g2, g3, g4, g5, g6, fun nm => (by (obtain ⟨v, ev, gv1⟩ := hR nm; exact ⟨v, ev.trans (eithF_stop hns), gv1⟩))⟩
      · try replace zc19 := mt (nI_leI (a := 50) (b := i) (by omega) (by omega)).mpr zc19
        refine z_iload_n X 3 dX9_anyOf_17 rfl ?_
        refine z_if_eq X 60 dX9_anyOf_18 (by decide) (fun zc20 => ?_) (fun zc20 => ?_)
        · replace zc20 := b2i_f zc20
          have hns : ¬ (tk b nn p2 f2 = 124) := by rw [tk_flt zc20]; decide
          refine z_iload_n X 3 dX9_anyOf_60 rfl ?_
          refine z_zret X E dX9_anyOf_61 (by first | rfl | exact b2i_nar _) (by omega) (by omega) ⟨p2, L, f2, k2, ?_, ?_, ?_, ?_⟩
          · rfl
          · funext zz; by_cases zq1 : zz = t + 1; (rw [zq1, va_up_self]; exact zK16); by_cases zq0 : zz = t; (rw [zq0, va_up_ne _ _ (show t ≠ t + 1 by omega), va_up_self]; exact zK15); rw [va_up_ne _ _ zq1, va_up_ne _ _ zq0]; rw [he10]; simp only [va_up, if_neg zq0, if_neg zq1]
          · rfl
          · exact ⟨by omega, g2, g3, g4, g5, g6, fun nm => (by (obtain ⟨v, ev, gv1⟩ := hR nm; exact ⟨v, ev.trans (eithF_stop hns), gv1⟩))⟩
        · replace zc20 := b2i_t zc20
          have hf2 := zc20
          refine z_aload_n X 0 dX9_anyOf_21 rfl ?_
          refine z_aload_n X 1 dX9_anyOf_22 rfl ?_
          refine z_bipush (v := 124) X dX9_anyOf_23 (by decide) ?_
          refine z_callV X (t_sees (κ := κ) (n := n) (t := (t)) (r := (r)) (nn := (nn)) (p := (p2)) (b := (b)) (tp := (tp)) (bits := (bits)) (s0 := (nI (sz + L.length))) (c := (124)) zK15 zK17 zK18 (by first | assumption | omega) (by omega) (by decide)) mk_X9_sees dX9_anyOf_25 wd_571 wd_573 wd_14 rfl zK15 rfl rfl rfl (Nat.le_of_ble_eq_true rfl) (by omega) (Nat.le_of_ble_eq_true rfl) (by omega) (by omega) (fun q zh21 zm23 zp24 => ?_)
          obtain ⟨rfl, ze22, zn25⟩ := zp24
          subst zm23
          subst zh21
          refine z_st (st' := [.int (b2i (tk b nn p2 none = 124))]) rfl ?_
          refine z_if_eq X 60 dX9_anyOf_28 (by decide) (fun zc26 => ?_) (fun zc26 => ?_)
          · replace zc26 := b2i_f zc26
            have hns : ¬ (tk b nn p2 f2 = 124) := by rw [hf2]; exact zc26
            refine z_iload_n X 3 dX9_anyOf_60 rfl ?_
            refine z_zret X E dX9_anyOf_61 (by first | rfl | exact b2i_nar _) (by omega) (by omega) ⟨p2, L, f2, k2, ?_, ?_, ?_, ?_⟩
            · rfl
            · funext zz; by_cases zq1 : zz = t + 1; (rw [zq1, va_up_self]; exact zK16); by_cases zq0 : zz = t; (rw [zq0, va_up_ne _ _ (show t ≠ t + 1 by omega), va_up_self]; exact zK15); rw [va_up_ne _ _ zq1, va_up_ne _ _ zq0]; rw [he10]; simp only [va_up, if_neg zq0, if_neg zq1]
            · rfl
            · exact ⟨by omega, g2, g3, g4, g5, g6, fun nm => (by (obtain ⟨v, ev, gv1⟩ := hR nm; exact ⟨v, ev.trans (eithF_stop hns), gv1⟩))⟩
          · replace zc26 := b2i_t zc26
            have hsg : tk b nn p2 none = 124 := zc26
            have hin := tk_in (show ¬ tk b nn p2 none = -1 by rw [hsg]; decide)
            have hop : isOp (124) := by decide
            refine z_aload_n X 0 dX9_anyOf_31 rfl ?_
            refine z_dup X dX9_anyOf_32 rfl ?_
            refine z_get X fl_X9_22_9 dX9_anyOf_33 zK15 rfl ?_
            refine z_iconst (v := 1) X dX9_anyOf_36 (by decide) ?_
            refine z_iadd X dX9_anyOf_37 ?_
            refine z_toe (y := nI (p2 + 1)) (nI_add (p2) (1)) ?_
            refine z_put X fp_X9_22_9 dX9_anyOf_38 zK15 (by first | rfl | decide) (by first | rfl | decide) (Nat.le_of_ble_eq_true rfl) rfl ?_
            obtain ⟨zh27, ze28⟩ : ∃ z : Mm, z = va_up hh10 t (some (.inr (9, [.ref (t + 1), .ref (t + 2), .int (nI (sz + L.length)), .int (nI (p2 + 1)), .int tp]))) := ⟨_, rfl⟩
            refine z_heap (h' := zh27) ze28.symm ?_
            have zK29 := up_at ze28
            have zK30 := up_off ze28 (show t + 1 ≠ t by omega) zK16
            have zK31 := up_off ze28 (show r ≠ t by omega) zK17
            have zK32 := up_off ze28 (show r + 1 ≠ t by omega) zK18
            refine z_aload_n X 0 dX9_anyOf_41 rfl ?_
            refine z_aload_n X 1 dX9_anyOf_42 rfl ?_
            refine z_iload_n X 2 dX9_anyOf_43 rfl ?_
            refine z_callV X (PaC.use hU (κ := κ) (n := n) (t := (t)) (r := (r)) (nn := (nn)) (p := (p2 + 1)) (sz := (sz + L.length)) (k := (k)) (b := (b)) (st := (wrs st sz L)) (tp := (tp)) (bits := (bits)) zK29 zK30 zK31 zK32 (by first | assumption | omega) (by omega) (by omega) (e4) (by first | assumption | omega)) mk_X9_allOf dX9_anyOf_44 wd_537 wd_539 wd_6 rfl zK29 rfl rfl rfl (Nat.le_of_ble_eq_true rfl) (by omega) (Nat.le_of_ble_eq_true rfl) (by omega) (by omega) (fun q zh37 zm39 zp40 => ?_)
            obtain ⟨p'33, L'34, f'35, k'36, rfl, ze38, zn42, zf41⟩ := zp40
            subst zm39
            refine z_st (st' := [.int (b2i (f'35 = none))]) rfl ?_
            have zK43 : zh37 t = some (.inr (9, [.ref (t + 1), .ref (t + 2), .int (nI ((sz + L.length) + (L'34 : _).length)), .int (nI p'33), .int tp])) := by rw [ze38]; rw [va_up_ne _ _ (show t ≠ t + 1 by omega)]; exact va_up_self _ _ _
            have zK44 : zh37 (t + 1) = arI κ 50 (wrs (wrs st sz L) (sz + L.length) L'34) := by rw [ze38]; exact va_up_self _ _ _
            have zK45 : zh37 r = some (.inr (6, [.ref (r + 1), .int (nI nn), .int bits])) := by rw [ze38]; rw [va_up_ne _ _ (show r ≠ t + 1 by omega)]; rw [va_up_ne _ _ (show r ≠ t by omega)]; exact zK31
            have zK46 : zh37 (r + 1) = arI κ 50 b := by rw [ze38]; rw [va_up_ne _ _ (show r + 1 ≠ t + 1 by omega)]; rw [va_up_ne _ _ (show r + 1 ≠ t by omega)]; exact zK32
            obtain ⟨ga1, gb1, gc1, gd1, ge1, gf1, gg1⟩ := id zf41
            refine z_istore_n (ls' := [(3, .int (b2i (f'35 = none))), (0, .ref t), (1, .ref r), (2, .int (nI k)), (4, .int (nI i))]) X dX9_anyOf_47 (by decide) rfl ?_
            refine z_aload_n X 1 dX9_anyOf_48 rfl ?_
            refine z_bipush (v := -124) X dX9_anyOf_49 (by decide) ?_
            refine z_callV X (t_step (κ := κ) (n := n) (t := (t)) (sz := ((sz + L.length) + (L'34 : _).length)) (st := (wrs (wrs st sz L) (sz + L.length) L'34)) (pl := (nI p'33)) (tp := (tp)) (v := (-124)) zK43 zK44 (by omega)) mk_X9_step dX9_anyOf_51 wd_567 wd_569 wd_13 rfl zK43 rfl rfl rfl (Nat.le_of_ble_eq_true rfl) (by omega) (Nat.le_of_ble_eq_true rfl) (by omega) (by omega) (fun q zh47 zm49 zp50 => ?_)
            obtain ⟨rfl, ze48, zn51⟩ := zp50
            subst zm49
            refine z_st (st' := []) rfl ?_
            have zK52 : zh47 t = some (.inr (9, [.ref (t + 1), .ref (t + 2), .int (nI (((sz + L.length) + (L'34 : _).length) + 1)), .int ((nI p'33)), .int tp])) := by rw [ze48]; rw [va_up_ne _ _ (show t ≠ t + 1 by omega)]; exact va_up_self _ _ _
            have zK53 : zh47 (t + 1) = arI κ 50 (upd (wrs (wrs st sz L) (sz + L.length) L'34) ((sz + L.length) + (L'34 : _).length) (-124)) := by rw [ze48]; exact va_up_self _ _ _
            have zK54 : zh47 r = some (.inr (6, [.ref (r + 1), .int (nI nn), .int bits])) := by rw [ze48]; rw [va_up_ne _ _ (show r ≠ t + 1 by omega)]; rw [va_up_ne _ _ (show r ≠ t by omega)]; exact zK45
            have zK55 : zh47 (r + 1) = arI κ 50 b := by rw [ze48]; rw [va_up_ne _ _ (show r + 1 ≠ t + 1 by omega)]; rw [va_up_ne _ _ (show r + 1 ≠ t by omega)]; exact zK46
            refine z_iinc (v := nI (i + 1)) (ls' := [(4, .int (nI (i + 1))), (3, .int (b2i (f'35 = none))), (0, .ref t), (1, .ref r), (2, .int (nI k))]) X 4 dX9_anyOf_54 rfl (nI_1 (i)) (by decide) rfl ?_
            refine z_goto X 10 dX9_anyOf_57 (by decide) ?_
            refine z_sub (ls' := [(0, .ref t), (1, .ref r), (2, .int (nI k)), (3, .int (b2i (f'35 = none))), (4, .int (nI (i + 1)))]) [2, 3, 4, 1, 0] rfl ?_
            exact ih10 _ (i + 1) u0 p'33 (L ++ L'34 ++ [-((124 : Int32))]) f'35 k'36 (by omega) (by rw [show wrs st sz (L ++ L'34 ++ [-((124 : Int32))]) = upd (wrs (wrs st sz L) (sz + L.length) L'34) (sz + L.length + L'34.length) (-((124 : Int32))) from (by rw [wrs_app, wrs_app, List.length_append]; exact congrArg (fun z => upd _ z _) (by omega)), show sz + (L ++ L'34 ++ [-((124 : Int32))]).length = sz + L.length + L'34.length + 1 from (by simp only [List.length_append, List.length_cons, List.length_nil]; omega)]; funext zz; by_cases zq1 : zz = t + 1; (rw [zq1, va_up_self]; exact zK53); by_cases zq0 : zz = t; (rw [zq0, va_up_ne _ _ (show t ≠ t + 1 by omega), va_up_self]; exact zK52); rw [va_up_ne _ _ zq1, va_up_ne _ _ zq0]; rw [ze48, ze38, ze28, he10]; simp only [va_up, if_neg zq0, if_neg zq1]) (by first | assumption | rfl | omega) (by first | assumption | rfl | omega) (by first | assumption | rfl | omega) (by simp only [List.length_append, List.length_cons, List.length_nil]; omega) (by exact gd1) (by exact ge1) (by exact mem_app3 g6 gf1 (okS_o hop)) (by intro nm; obtain ⟨v, ev, gv1⟩ := hR nm; obtain ⟨w, ew, gw⟩ := gg1 nm; exact ⟨opE v w, ev.trans ((eithF_go (b := b) (n := nn) (u := U b nn nm) (i := u0) (v := v) (w := w) (s := (p2, f2, k2)) (s' := (p'33, f'35, k'36)) (by rw [hf2]; exact hsg) (by (show U b nn nm (p2 + 1, f2, k2) = _; rw [hf2, g5 hf2]; exact ew))).trans (rfl)), fun zq => (by (exact Good_bin (c := (124 : Int32)) (gv1 hf2) (gw zq) hop))⟩)
  refine z_sub (ls' := [(0, .ref t), (1, .ref r), (2, .int (nI k)), (3, .int (b2i (f'3 = none))), (4, .int 0)]) [2, 3, 4, 1, 0] rfl ?_
  exact L10 _ _ 0 51 p'1 L'2 f'3 k'4 (Nat.lt_succ_self _) (by funext zz; by_cases zq1 : zz = t + 1; (rw [zq1, va_up_self]; exact zK12); by_cases zq0 : zz = t; (rw [zq0, va_up_ne _ _ (show t ≠ t + 1 by omega), va_up_self]; exact zK11); rw [va_up_ne _ _ zq1, va_up_ne _ _ zq0]; rw [ze6]; simp only [va_up, if_neg zq0, if_neg zq1]) (by first | assumption | rfl | omega) (by first | assumption | rfl | omega) (by first | assumption | rfl | omega) (by first | assumption | rfl | omega) (by exact gd0) (by exact ge0) (by exact gf0) (by intro nm; obtain ⟨v, ev, gv1⟩ := gg0 nm; exact ⟨v, by unfold eithE; rw [ev], gv1⟩)
set_option maxHeartbeats 4000000 in
set_option maxRecDepth 100000 in
theorem pa_compared {κ : Wc} {l : Launch} {j dd : Nat} {U : EvF} (hdd : 5 ≤ dd) (hU : PaC κ l yX9_sum cX9_sum 6 dd j U) : PaC κ l yX9_compared cX9_compared 5 (dd + 1) j (cmpE U) := by
  intro h n t r nn p sz k b st tp bits K0 K1 K2 K3 e1 e2 e3 e4 e5
  refine Con.of mk_X9_compared (Nat.le_of_ble_eq_true rfl) (fun G hG X E => ?_)
  subst hG
  refine z_ls (ls' := [(0, .ref t), (1, .ref r), (2, .int (nI k))]) rfl ?_
  refine z_aload_n X 0 dX9_compared_0 rfl ?_
  refine z_aload_n X 1 dX9_compared_1 rfl ?_
  refine z_iload_n X 2 dX9_compared_2 rfl ?_
  refine z_callV X (PaC.use hU (κ := κ) (n := n) (t := (t)) (r := (r)) (nn := (nn)) (p := (p)) (sz := (sz)) (k := (k)) (b := (b)) (st := (st)) (tp := (tp)) (bits := (bits)) K0 K1 K2 K3 (by first | assumption | omega) (by first | assumption | omega) (by first | assumption | omega) (e4) (by first | assumption | omega)) mk_X9_sum dX9_compared_3 wd_545 wd_547 wd_8 rfl K0 rfl rfl rfl (Nat.le_of_ble_eq_true rfl) (by omega) (Nat.le_of_ble_eq_true rfl) (by omega) (by omega) (fun q zh5 zm7 zp8 => ?_)
  obtain ⟨p'1, L'2, f'3, k'4, rfl, ze6, zn10, zf9⟩ := zp8
  subst zm7
  refine z_st (st' := [.int (b2i (f'3 = none))]) rfl ?_
  have zK11 : zh5 t = some (.inr (9, [.ref (t + 1), .ref (t + 2), .int (nI (sz + (L'2 : _).length)), .int (nI p'1), .int tp])) := by rw [ze6]; rw [va_up_ne _ _ (show t ≠ t + 1 by omega)]; exact va_up_self _ _ _
  have zK12 : zh5 (t + 1) = arI κ 50 (wrs st sz L'2) := by rw [ze6]; exact va_up_self _ _ _
  have zK13 : zh5 r = some (.inr (6, [.ref (r + 1), .int (nI nn), .int bits])) := by rw [ze6]; rw [va_up_ne _ _ (show r ≠ t + 1 by omega)]; rw [va_up_ne _ _ (show r ≠ t by omega)]; exact K2
  have zK14 : zh5 (r + 1) = arI κ 50 b := by rw [ze6]; rw [va_up_ne _ _ (show r + 1 ≠ t + 1 by omega)]; rw [va_up_ne _ _ (show r + 1 ≠ t by omega)]; exact K3
  obtain ⟨ga0, gb0, gc0, gd0, ge0, gf0, gg0⟩ := id zf9
  refine z_istore_n (ls' := [(3, .int (b2i (f'3 = none))), (0, .ref t), (1, .ref r), (2, .int (nI k))]) X dX9_compared_6 (by decide) rfl ?_
  refine z_iload_n X 0 dX9_compared_7 rfl ?_
  refine z_if_eq X 75 dX9_compared_8 (by decide) (fun zc15 => ?_) (fun zc15 => ?_)
  · replace zc15 := b2i_f zc15
    refine z_iload_n X 0 dX9_compared_75 rfl ?_
    refine z_zret X E dX9_compared_76 (by first | rfl | exact b2i_nar _) (by omega) (by omega) ⟨p'1, L'2, f'3, k'4, ?_, ?_, ?_, ?_⟩
    · rfl
    · funext zz; by_cases zq1 : zz = t + 1; (rw [zq1, va_up_self]; exact zK12); by_cases zq0 : zz = t; (rw [zq0, va_up_ne _ _ (show t ≠ t + 1 by omega), va_up_self]; exact zK11); rw [va_up_ne _ _ zq1, va_up_ne _ _ zq0]; rw [ze6]; simp only [va_up, if_neg zq0, if_neg zq1]
    · rfl
    · exact ⟨ga0, gb0, gc0, gd0, ge0, gf0, fun nm => (by (obtain ⟨v, ev, gv1⟩ := gg0 nm; exact ⟨v, cmpE_stop (s' := (p'1, f'3, k'4)) ev (by (rw [tk_flt (by assumption)]; decide)), gv1⟩))⟩
  · replace zc15 := b2i_t zc15
    have hf0 := zc15
    refine z_aload_n X 1 dX9_compared_11 rfl ?_
    refine z_aload_n X 2 dX9_compared_12 rfl ?_
    refine z_bipush (v := 60) X dX9_compared_13 (by decide) ?_
    refine z_callV X (t_sees (κ := κ) (n := n) (t := (t)) (r := (r)) (nn := (nn)) (p := (p'1)) (b := (b)) (tp := (tp)) (bits := (bits)) (s0 := (nI (sz + (L'2 : _).length))) (c := (60)) zK11 zK13 zK14 (by first | assumption | omega) (by omega) (by decide)) mk_X9_sees dX9_compared_15 wd_571 wd_573 wd_14 rfl zK11 rfl rfl rfl (Nat.le_of_ble_eq_true rfl) (by omega) (Nat.le_of_ble_eq_true rfl) (by omega) (by omega) (fun q zh16 zm18 zp19 => ?_)
    obtain ⟨rfl, ze17, zn20⟩ := zp19
    subst zm18
    subst zh16
    refine z_st (st' := [.int (b2i (tk b nn p'1 none = 60))]) rfl ?_
    refine z_if_ne X 41 dX9_compared_18 (by decide) (fun zc21 => ?_) (fun zc21 => ?_)
    · replace zc21 := b2i_t zc21
      have hsg : tk b nn p'1 none = 60 ∨ tk b nn p'1 none = 61 ∨ tk b nn p'1 none = 62 := Or.inl (by assumption)
      have hin := tk_in (show ¬ tk b nn p'1 none = -1 by rcases hsg with q | q | q <;> rw [q] <;> decide)
      have hop : isOp (tk b nn p'1 none) := by rcases hsg with q | q | q <;> rw [q] <;> decide
      refine z_aload_n X 2 dX9_compared_41 rfl ?_
      refine z_aload_n X 1 dX9_compared_42 rfl ?_
      refine z_get X fl_X9_22_9 dX9_compared_43 zK11 rfl ?_
      refine z_callV X (c_Row_at (κ := κ) (n := n) (r := (r)) (k := (nn)) (bt := (bits)) (i := (nI p'1)) (N := (50)) (f := (b)) zK13 zK14 (by first | assumption | omega) (by first | assumption | omega)) mk_X6_at dX9_compared_46 wd_561 wd_299 wd_300 rfl zK13 rfl rfl rfl (Nat.le_of_ble_eq_true rfl) (by omega) (Nat.le_of_ble_eq_true rfl) (by omega) (by omega) (fun q zh22 zm24 zp25 => ?_)
      obtain ⟨rfl, ze23, zn26⟩ := zp25
      subst zm24
      subst zh22
      refine z_st (st' := [.int (rowAt nn b (nI p'1))]) rfl ?_
      refine z_toe (y := tk b nn p'1 none) (at_tk hin.1 e1) ?_
      refine z_istore (ls' := [(4, .int (tk b nn p'1 none)), (3, .int (b2i (f'3 = none))), (0, .ref t), (1, .ref r), (2, .int (nI k))]) X dX9_compared_49 (by decide) rfl ?_
      refine z_aload_n X 2 dX9_compared_51 rfl ?_
      refine z_dup X dX9_compared_52 rfl ?_
      refine z_get X fl_X9_22_9 dX9_compared_53 zK11 rfl ?_
      refine z_iconst (v := 1) X dX9_compared_56 (by decide) ?_
      refine z_iadd X dX9_compared_57 ?_
      refine z_toe (y := nI (p'1 + 1)) (nI_add (p'1) (1)) ?_
      refine z_put X fp_X9_22_9 dX9_compared_58 zK11 (by first | rfl | decide) (by first | rfl | decide) (Nat.le_of_ble_eq_true rfl) rfl ?_
      obtain ⟨zh27, ze28⟩ : ∃ z : Mm, z = va_up zh5 t (some (.inr (9, [.ref (t + 1), .ref (t + 2), .int (nI (sz + (L'2 : _).length)), .int (nI (p'1 + 1)), .int tp]))) := ⟨_, rfl⟩
      refine z_heap (h' := zh27) ze28.symm ?_
      have zK29 := up_at ze28
      have zK30 := up_off ze28 (show t + 1 ≠ t by omega) zK12
      have zK31 := up_off ze28 (show r ≠ t by omega) zK13
      have zK32 := up_off ze28 (show r + 1 ≠ t by omega) zK14
      refine z_aload_n X 2 dX9_compared_61 rfl ?_
      refine z_aload_n X 3 dX9_compared_62 rfl ?_
      refine z_iload_n X 4 dX9_compared_63 rfl ?_
      refine z_callV X (PaC.use hU (κ := κ) (n := n) (t := (t)) (r := (r)) (nn := (nn)) (p := (p'1 + 1)) (sz := (sz + (L'2 : _).length)) (k := (k)) (b := (b)) (st := (wrs st sz L'2)) (tp := (tp)) (bits := (bits)) zK29 zK30 zK31 zK32 (by first | assumption | omega) (by omega) (by omega) (e4) (by first | assumption | omega)) mk_X9_sum dX9_compared_64 wd_545 wd_547 wd_8 rfl zK29 rfl rfl rfl (Nat.le_of_ble_eq_true rfl) (by omega) (Nat.le_of_ble_eq_true rfl) (by omega) (by omega) (fun q zh37 zm39 zp40 => ?_)
      obtain ⟨p'33, L'34, f'35, k'36, rfl, ze38, zn42, zf41⟩ := zp40
      subst zm39
      refine z_st (st' := [.int (b2i (f'35 = none))]) rfl ?_
      have zK43 : zh37 t = some (.inr (9, [.ref (t + 1), .ref (t + 2), .int (nI ((sz + (L'2 : _).length) + (L'34 : _).length)), .int (nI p'33), .int tp])) := by rw [ze38]; rw [va_up_ne _ _ (show t ≠ t + 1 by omega)]; exact va_up_self _ _ _
      have zK44 : zh37 (t + 1) = arI κ 50 (wrs (wrs st sz L'2) (sz + (L'2 : _).length) L'34) := by rw [ze38]; exact va_up_self _ _ _
      have zK45 : zh37 r = some (.inr (6, [.ref (r + 1), .int (nI nn), .int bits])) := by rw [ze38]; rw [va_up_ne _ _ (show r ≠ t + 1 by omega)]; rw [va_up_ne _ _ (show r ≠ t by omega)]; exact zK31
      have zK46 : zh37 (r + 1) = arI κ 50 b := by rw [ze38]; rw [va_up_ne _ _ (show r + 1 ≠ t + 1 by omega)]; rw [va_up_ne _ _ (show r + 1 ≠ t by omega)]; exact zK32
      obtain ⟨ga1, gb1, gc1, gd1, ge1, gf1, gg1⟩ := id zf41
      refine z_istore_n (ls' := [(3, .int (b2i (f'35 = none))), (4, .int (tk b nn p'1 none)), (0, .ref t), (1, .ref r), (2, .int (nI k))]) X dX9_compared_67 (by decide) rfl ?_
      refine z_aload_n X 2 dX9_compared_68 rfl ?_
      refine z_iload X 1 dX9_compared_69 rfl ?_
      refine z_ineg X dX9_compared_71 ?_
      refine z_callV X (t_step (κ := κ) (n := n) (t := (t)) (sz := ((sz + (L'2 : _).length) + (L'34 : _).length)) (st := (wrs (wrs st sz L'2) (sz + (L'2 : _).length) L'34)) (pl := (nI p'33)) (tp := (tp)) (v := (-(tk b nn p'1 none))) zK43 zK44 (by omega)) mk_X9_step dX9_compared_72 wd_567 wd_569 wd_13 rfl zK43 rfl rfl rfl (Nat.le_of_ble_eq_true rfl) (by omega) (Nat.le_of_ble_eq_true rfl) (by omega) (by omega) (fun q zh47 zm49 zp50 => ?_)
      obtain ⟨rfl, ze48, zn51⟩ := zp50
      subst zm49
      refine z_st (st' := []) rfl ?_
      have zK52 : zh47 t = some (.inr (9, [.ref (t + 1), .ref (t + 2), .int (nI (((sz + (L'2 : _).length) + (L'34 : _).length) + 1)), .int ((nI p'33)), .int tp])) := by rw [ze48]; rw [va_up_ne _ _ (show t ≠ t + 1 by omega)]; exact va_up_self _ _ _
      have zK53 : zh47 (t + 1) = arI κ 50 (upd (wrs (wrs st sz L'2) (sz + (L'2 : _).length) L'34) ((sz + (L'2 : _).length) + (L'34 : _).length) (-(tk b nn p'1 none))) := by rw [ze48]; exact va_up_self _ _ _
      have zK54 : zh47 r = some (.inr (6, [.ref (r + 1), .int (nI nn), .int bits])) := by rw [ze48]; rw [va_up_ne _ _ (show r ≠ t + 1 by omega)]; rw [va_up_ne _ _ (show r ≠ t by omega)]; exact zK45
      have zK55 : zh47 (r + 1) = arI κ 50 b := by rw [ze48]; rw [va_up_ne _ _ (show r + 1 ≠ t + 1 by omega)]; rw [va_up_ne _ _ (show r + 1 ≠ t by omega)]; exact zK46
      refine z_iload_n X 0 dX9_compared_75 rfl ?_
      refine z_zret X E dX9_compared_76 (by first | rfl | exact b2i_nar _) (by omega) (by omega) ⟨p'33, (L'2 ++ L'34 ++ [-(tk b nn p'1 none)]), f'35, k'36, ?_, ?_, ?_, ?_⟩
      · rfl
      · rw [show wrs st sz (L'2 ++ L'34 ++ [-(tk b nn p'1 none)]) = upd (wrs (wrs st sz L'2) (sz + L'2.length) L'34) (sz + L'2.length + L'34.length) (-(tk b nn p'1 none)) from (by rw [wrs_app, wrs_app, List.length_append]; exact congrArg (fun z => upd _ z _) (by omega)), show sz + (L'2 ++ L'34 ++ [-(tk b nn p'1 none)]).length = sz + L'2.length + L'34.length + 1 from (by simp only [List.length_append, List.length_cons, List.length_nil]; omega)]; funext zz; by_cases zq1 : zz = t + 1; (rw [zq1, va_up_self]; exact zK53); by_cases zq0 : zz = t; (rw [zq0, va_up_ne _ _ (show t ≠ t + 1 by omega), va_up_self]; exact zK52); rw [va_up_ne _ _ zq1, va_up_ne _ _ zq0]; rw [ze48, ze38, ze28, ze6]; simp only [va_up, if_neg zq0, if_neg zq1]
      · rfl
      · exact ⟨by omega, gb1, by (simp only [List.length_append, List.length_cons, List.length_nil]; omega), gd1, ge1, mem_app3 gf0 gf1 (okS_o hop), fun nm => (by (obtain ⟨v, ev, gv1⟩ := gg0 nm; obtain ⟨w, ew, gw⟩ := gg1 nm; exact ⟨opC (tk b nn p'1 none) v w, (cmpE_go (s' := (p'1, f'3, k'4)) (s2 := (p'33, f'35, k'36)) ev (by (rw [hf0]; exact hsg)) (by (show U b nn nm (p'1 + 1, f'3, k'4) = _; rw [hf0, ge0 hf0]; exact ew))).trans (by rw [hf0]), fun zq => (by (rw [← wkO_C hsg]; exact Good_bin (gv1 hf0) (gw zq) hop))⟩))⟩
    · replace zc21 := b2i_f zc21
      refine z_aload_n X 1 dX9_compared_21 rfl ?_
      refine z_aload_n X 2 dX9_compared_22 rfl ?_
      refine z_bipush (v := 61) X dX9_compared_23 (by decide) ?_
      refine z_callV X (t_sees (κ := κ) (n := n) (t := (t)) (r := (r)) (nn := (nn)) (p := (p'1)) (b := (b)) (tp := (tp)) (bits := (bits)) (s0 := (nI (sz + (L'2 : _).length))) (c := (61)) zK11 zK13 zK14 (by first | assumption | omega) (by omega) (by decide)) mk_X9_sees dX9_compared_25 wd_571 wd_573 wd_14 rfl zK11 rfl rfl rfl (Nat.le_of_ble_eq_true rfl) (by omega) (Nat.le_of_ble_eq_true rfl) (by omega) (by omega) (fun q zh56 zm58 zp59 => ?_)
      obtain ⟨rfl, ze57, zn60⟩ := zp59
      subst zm58
      subst zh56
      refine z_st (st' := [.int (b2i (tk b nn p'1 none = 61))]) rfl ?_
      refine z_if_ne X 41 dX9_compared_28 (by decide) (fun zc61 => ?_) (fun zc61 => ?_)
      · replace zc61 := b2i_t zc61
        have hsg : tk b nn p'1 none = 60 ∨ tk b nn p'1 none = 61 ∨ tk b nn p'1 none = 62 := Or.inr (Or.inl (by assumption))
        have hin := tk_in (show ¬ tk b nn p'1 none = -1 by rcases hsg with q | q | q <;> rw [q] <;> decide)
        have hop : isOp (tk b nn p'1 none) := by rcases hsg with q | q | q <;> rw [q] <;> decide
        refine z_aload_n X 2 dX9_compared_41 rfl ?_
        refine z_aload_n X 1 dX9_compared_42 rfl ?_
        refine z_get X fl_X9_22_9 dX9_compared_43 zK11 rfl ?_
        refine z_callV X (c_Row_at (κ := κ) (n := n) (r := (r)) (k := (nn)) (bt := (bits)) (i := (nI p'1)) (N := (50)) (f := (b)) zK13 zK14 (by first | assumption | omega) (by first | assumption | omega)) mk_X6_at dX9_compared_46 wd_561 wd_299 wd_300 rfl zK13 rfl rfl rfl (Nat.le_of_ble_eq_true rfl) (by omega) (Nat.le_of_ble_eq_true rfl) (by omega) (by omega) (fun q zh62 zm64 zp65 => ?_)
        obtain ⟨rfl, ze63, zn66⟩ := zp65
        subst zm64
        subst zh62
        refine z_st (st' := [.int (rowAt nn b (nI p'1))]) rfl ?_
        refine z_toe (y := tk b nn p'1 none) (at_tk hin.1 e1) ?_
        refine z_istore (ls' := [(4, .int (tk b nn p'1 none)), (3, .int (b2i (f'3 = none))), (0, .ref t), (1, .ref r), (2, .int (nI k))]) X dX9_compared_49 (by decide) rfl ?_
        refine z_aload_n X 2 dX9_compared_51 rfl ?_
        refine z_dup X dX9_compared_52 rfl ?_
        refine z_get X fl_X9_22_9 dX9_compared_53 zK11 rfl ?_
        refine z_iconst (v := 1) X dX9_compared_56 (by decide) ?_
        refine z_iadd X dX9_compared_57 ?_
        refine z_toe (y := nI (p'1 + 1)) (nI_add (p'1) (1)) ?_
        refine z_put X fp_X9_22_9 dX9_compared_58 zK11 (by first | rfl | decide) (by first | rfl | decide) (Nat.le_of_ble_eq_true rfl) rfl ?_
        obtain ⟨zh67, ze68⟩ : ∃ z : Mm, z = va_up zh5 t (some (.inr (9, [.ref (t + 1), .ref (t + 2), .int (nI (sz + (L'2 : _).length)), .int (nI (p'1 + 1)), .int tp]))) := ⟨_, rfl⟩
        refine z_heap (h' := zh67) ze68.symm ?_
        have zK69 := up_at ze68
        have zK70 := up_off ze68 (show t + 1 ≠ t by omega) zK12
        have zK71 := up_off ze68 (show r ≠ t by omega) zK13
        have zK72 := up_off ze68 (show r + 1 ≠ t by omega) zK14
        refine z_aload_n X 2 dX9_compared_61 rfl ?_
        refine z_aload_n X 3 dX9_compared_62 rfl ?_
        refine z_iload_n X 4 dX9_compared_63 rfl ?_
        refine z_callV X (PaC.use hU (κ := κ) (n := n) (t := (t)) (r := (r)) (nn := (nn)) (p := (p'1 + 1)) (sz := (sz + (L'2 : _).length)) (k := (k)) (b := (b)) (st := (wrs st sz L'2)) (tp := (tp)) (bits := (bits)) zK69 zK70 zK71 zK72 (by first | assumption | omega) (by omega) (by omega) (e4) (by first | assumption | omega)) mk_X9_sum dX9_compared_64 wd_545 wd_547 wd_8 rfl zK69 rfl rfl rfl (Nat.le_of_ble_eq_true rfl) (by omega) (Nat.le_of_ble_eq_true rfl) (by omega) (by omega) (fun q zh77 zm79 zp80 => ?_)
        obtain ⟨p'73, L'74, f'75, k'76, rfl, ze78, zn82, zf81⟩ := zp80
        subst zm79
        refine z_st (st' := [.int (b2i (f'75 = none))]) rfl ?_
        have zK83 : zh77 t = some (.inr (9, [.ref (t + 1), .ref (t + 2), .int (nI ((sz + (L'2 : _).length) + (L'74 : _).length)), .int (nI p'73), .int tp])) := by rw [ze78]; rw [va_up_ne _ _ (show t ≠ t + 1 by omega)]; exact va_up_self _ _ _
        have zK84 : zh77 (t + 1) = arI κ 50 (wrs (wrs st sz L'2) (sz + (L'2 : _).length) L'74) := by rw [ze78]; exact va_up_self _ _ _
        have zK85 : zh77 r = some (.inr (6, [.ref (r + 1), .int (nI nn), .int bits])) := by rw [ze78]; rw [va_up_ne _ _ (show r ≠ t + 1 by omega)]; rw [va_up_ne _ _ (show r ≠ t by omega)]; exact zK71
        have zK86 : zh77 (r + 1) = arI κ 50 b := by rw [ze78]; rw [va_up_ne _ _ (show r + 1 ≠ t + 1 by omega)]; rw [va_up_ne _ _ (show r + 1 ≠ t by omega)]; exact zK72
        obtain ⟨ga1, gb1, gc1, gd1, ge1, gf1, gg1⟩ := id zf81
        refine z_istore_n (ls' := [(3, .int (b2i (f'75 = none))), (4, .int (tk b nn p'1 none)), (0, .ref t), (1, .ref r), (2, .int (nI k))]) X dX9_compared_67 (by decide) rfl ?_
        refine z_aload_n X 2 dX9_compared_68 rfl ?_
        refine z_iload X 1 dX9_compared_69 rfl ?_
        refine z_ineg X dX9_compared_71 ?_
        refine z_callV X (t_step (κ := κ) (n := n) (t := (t)) (sz := ((sz + (L'2 : _).length) + (L'74 : _).length)) (st := (wrs (wrs st sz L'2) (sz + (L'2 : _).length) L'74)) (pl := (nI p'73)) (tp := (tp)) (v := (-(tk b nn p'1 none))) zK83 zK84 (by omega)) mk_X9_step dX9_compared_72 wd_567 wd_569 wd_13 rfl zK83 rfl rfl rfl (Nat.le_of_ble_eq_true rfl) (by omega) (Nat.le_of_ble_eq_true rfl) (by omega) (by omega) (fun q zh87 zm89 zp90 => ?_)
        obtain ⟨rfl, ze88, zn91⟩ := zp90
        subst zm89
        refine z_st (st' := []) rfl ?_
        have zK92 : zh87 t = some (.inr (9, [.ref (t + 1), .ref (t + 2), .int (nI (((sz + (L'2 : _).length) + (L'74 : _).length) + 1)), .int ((nI p'73)), .int tp])) := by rw [ze88]; rw [va_up_ne _ _ (show t ≠ t + 1 by omega)]; exact va_up_self _ _ _
        have zK93 : zh87 (t + 1) = arI κ 50 (upd (wrs (wrs st sz L'2) (sz + (L'2 : _).length) L'74) ((sz + (L'2 : _).length) + (L'74 : _).length) (-(tk b nn p'1 none))) := by rw [ze88]; exact va_up_self _ _ _
        have zK94 : zh87 r = some (.inr (6, [.ref (r + 1), .int (nI nn), .int bits])) := by rw [ze88]; rw [va_up_ne _ _ (show r ≠ t + 1 by omega)]; rw [va_up_ne _ _ (show r ≠ t by omega)]; exact zK85
        have zK95 : zh87 (r + 1) = arI κ 50 b := by rw [ze88]; rw [va_up_ne _ _ (show r + 1 ≠ t + 1 by omega)]; rw [va_up_ne _ _ (show r + 1 ≠ t by omega)]; exact zK86
        refine z_iload_n X 0 dX9_compared_75 rfl ?_
        refine z_zret X E dX9_compared_76 (by first | rfl | exact b2i_nar _) (by omega) (by omega) ⟨p'73, (L'2 ++ L'74 ++ [-(tk b nn p'1 none)]), f'75, k'76, ?_, ?_, ?_, ?_⟩
        · rfl
        · rw [show wrs st sz (L'2 ++ L'74 ++ [-(tk b nn p'1 none)]) = upd (wrs (wrs st sz L'2) (sz + L'2.length) L'74) (sz + L'2.length + L'74.length) (-(tk b nn p'1 none)) from (by rw [wrs_app, wrs_app, List.length_append]; exact congrArg (fun z => upd _ z _) (by omega)), show sz + (L'2 ++ L'74 ++ [-(tk b nn p'1 none)]).length = sz + L'2.length + L'74.length + 1 from (by simp only [List.length_append, List.length_cons, List.length_nil]; omega)]; funext zz; by_cases zq1 : zz = t + 1; (rw [zq1, va_up_self]; exact zK93); by_cases zq0 : zz = t; (rw [zq0, va_up_ne _ _ (show t ≠ t + 1 by omega), va_up_self]; exact zK92); rw [va_up_ne _ _ zq1, va_up_ne _ _ zq0]; rw [ze88, ze78, ze68, ze6]; simp only [va_up, if_neg zq0, if_neg zq1]
        · rfl
        · exact ⟨by omega, gb1, by (simp only [List.length_append, List.length_cons, List.length_nil]; omega), gd1, ge1, mem_app3 gf0 gf1 (okS_o hop), fun nm => (by (obtain ⟨v, ev, gv1⟩ := gg0 nm; obtain ⟨w, ew, gw⟩ := gg1 nm; exact ⟨opC (tk b nn p'1 none) v w, (cmpE_go (s' := (p'1, f'3, k'4)) (s2 := (p'73, f'75, k'76)) ev (by (rw [hf0]; exact hsg)) (by (show U b nn nm (p'1 + 1, f'3, k'4) = _; rw [hf0, ge0 hf0]; exact ew))).trans (by rw [hf0]), fun zq => (by (rw [← wkO_C hsg]; exact Good_bin (gv1 hf0) (gw zq) hop))⟩))⟩
      · replace zc61 := b2i_f zc61
        refine z_aload_n X 1 dX9_compared_31 rfl ?_
        refine z_aload_n X 2 dX9_compared_32 rfl ?_
        refine z_bipush (v := 62) X dX9_compared_33 (by decide) ?_
        refine z_callV X (t_sees (κ := κ) (n := n) (t := (t)) (r := (r)) (nn := (nn)) (p := (p'1)) (b := (b)) (tp := (tp)) (bits := (bits)) (s0 := (nI (sz + (L'2 : _).length))) (c := (62)) zK11 zK13 zK14 (by first | assumption | omega) (by omega) (by decide)) mk_X9_sees dX9_compared_35 wd_571 wd_573 wd_14 rfl zK11 rfl rfl rfl (Nat.le_of_ble_eq_true rfl) (by omega) (Nat.le_of_ble_eq_true rfl) (by omega) (by omega) (fun q zh96 zm98 zp99 => ?_)
        obtain ⟨rfl, ze97, zn100⟩ := zp99
        subst zm98
        subst zh96
        refine z_st (st' := [.int (b2i (tk b nn p'1 none = 62))]) rfl ?_
        refine z_if_eq X 75 dX9_compared_38 (by decide) (fun zc101 => ?_) (fun zc101 => ?_)
        · replace zc101 := b2i_f zc101
          refine z_iload_n X 0 dX9_compared_75 rfl ?_
          refine z_zret X E dX9_compared_76 (by first | rfl | exact b2i_nar _) (by omega) (by omega) ⟨p'1, L'2, f'3, k'4, ?_, ?_, ?_, ?_⟩
          · rfl
          · funext zz; by_cases zq1 : zz = t + 1; (rw [zq1, va_up_self]; exact zK12); by_cases zq0 : zz = t; (rw [zq0, va_up_ne _ _ (show t ≠ t + 1 by omega), va_up_self]; exact zK11); rw [va_up_ne _ _ zq1, va_up_ne _ _ zq0]; rw [ze6]; simp only [va_up, if_neg zq0, if_neg zq1]
          · rfl
          · exact ⟨ga0, gb0, gc0, gd0, ge0, gf0, fun nm => (by (obtain ⟨v, ev, gv1⟩ := gg0 nm; exact ⟨v, cmpE_stop (s' := (p'1, f'3, k'4)) ev (by (rw [hf0]; simp only [not_or]; exact ⟨by assumption, by assumption, by assumption⟩)), gv1⟩))⟩
        · replace zc101 := b2i_t zc101
          have hsg : tk b nn p'1 none = 60 ∨ tk b nn p'1 none = 61 ∨ tk b nn p'1 none = 62 := Or.inr (Or.inr (by assumption))
          have hin := tk_in (show ¬ tk b nn p'1 none = -1 by rcases hsg with q | q | q <;> rw [q] <;> decide)
          have hop : isOp (tk b nn p'1 none) := by rcases hsg with q | q | q <;> rw [q] <;> decide
          refine z_aload_n X 2 dX9_compared_41 rfl ?_
          refine z_aload_n X 1 dX9_compared_42 rfl ?_
          refine z_get X fl_X9_22_9 dX9_compared_43 zK11 rfl ?_
          refine z_callV X (c_Row_at (κ := κ) (n := n) (r := (r)) (k := (nn)) (bt := (bits)) (i := (nI p'1)) (N := (50)) (f := (b)) zK13 zK14 (by first | assumption | omega) (by first | assumption | omega)) mk_X6_at dX9_compared_46 wd_561 wd_299 wd_300 rfl zK13 rfl rfl rfl (Nat.le_of_ble_eq_true rfl) (by omega) (Nat.le_of_ble_eq_true rfl) (by omega) (by omega) (fun q zh102 zm104 zp105 => ?_)
          obtain ⟨rfl, ze103, zn106⟩ := zp105
          subst zm104
          subst zh102
          refine z_st (st' := [.int (rowAt nn b (nI p'1))]) rfl ?_
          refine z_toe (y := tk b nn p'1 none) (at_tk hin.1 e1) ?_
          refine z_istore (ls' := [(4, .int (tk b nn p'1 none)), (3, .int (b2i (f'3 = none))), (0, .ref t), (1, .ref r), (2, .int (nI k))]) X dX9_compared_49 (by decide) rfl ?_
          refine z_aload_n X 2 dX9_compared_51 rfl ?_
          refine z_dup X dX9_compared_52 rfl ?_
          refine z_get X fl_X9_22_9 dX9_compared_53 zK11 rfl ?_
          refine z_iconst (v := 1) X dX9_compared_56 (by decide) ?_
          refine z_iadd X dX9_compared_57 ?_
          refine z_toe (y := nI (p'1 + 1)) (nI_add (p'1) (1)) ?_
          refine z_put X fp_X9_22_9 dX9_compared_58 zK11 (by first | rfl | decide) (by first | rfl | decide) (Nat.le_of_ble_eq_true rfl) rfl ?_
          obtain ⟨zh107, ze108⟩ : ∃ z : Mm, z = va_up zh5 t (some (.inr (9, [.ref (t + 1), .ref (t + 2), .int (nI (sz + (L'2 : _).length)), .int (nI (p'1 + 1)), .int tp]))) := ⟨_, rfl⟩
          refine z_heap (h' := zh107) ze108.symm ?_
          have zK109 := up_at ze108
          have zK110 := up_off ze108 (show t + 1 ≠ t by omega) zK12
          have zK111 := up_off ze108 (show r ≠ t by omega) zK13
          have zK112 := up_off ze108 (show r + 1 ≠ t by omega) zK14
          refine z_aload_n X 2 dX9_compared_61 rfl ?_
          refine z_aload_n X 3 dX9_compared_62 rfl ?_
          refine z_iload_n X 4 dX9_compared_63 rfl ?_
          refine z_callV X (PaC.use hU (κ := κ) (n := n) (t := (t)) (r := (r)) (nn := (nn)) (p := (p'1 + 1)) (sz := (sz + (L'2 : _).length)) (k := (k)) (b := (b)) (st := (wrs st sz L'2)) (tp := (tp)) (bits := (bits)) zK109 zK110 zK111 zK112 (by first | assumption | omega) (by omega) (by omega) (e4) (by first | assumption | omega)) mk_X9_sum dX9_compared_64 wd_545 wd_547 wd_8 rfl zK109 rfl rfl rfl (Nat.le_of_ble_eq_true rfl) (by omega) (Nat.le_of_ble_eq_true rfl) (by omega) (by omega) (fun q zh117 zm119 zp120 => ?_)
          obtain ⟨p'113, L'114, f'115, k'116, rfl, ze118, zn122, zf121⟩ := zp120
          subst zm119
          refine z_st (st' := [.int (b2i (f'115 = none))]) rfl ?_
          have zK123 : zh117 t = some (.inr (9, [.ref (t + 1), .ref (t + 2), .int (nI ((sz + (L'2 : _).length) + (L'114 : _).length)), .int (nI p'113), .int tp])) := by rw [ze118]; rw [va_up_ne _ _ (show t ≠ t + 1 by omega)]; exact va_up_self _ _ _
          have zK124 : zh117 (t + 1) = arI κ 50 (wrs (wrs st sz L'2) (sz + (L'2 : _).length) L'114) := by rw [ze118]; exact va_up_self _ _ _
          have zK125 : zh117 r = some (.inr (6, [.ref (r + 1), .int (nI nn), .int bits])) := by rw [ze118]; rw [va_up_ne _ _ (show r ≠ t + 1 by omega)]; rw [va_up_ne _ _ (show r ≠ t by omega)]; exact zK111
          have zK126 : zh117 (r + 1) = arI κ 50 b := by rw [ze118]; rw [va_up_ne _ _ (show r + 1 ≠ t + 1 by omega)]; rw [va_up_ne _ _ (show r + 1 ≠ t by omega)]; exact zK112
          obtain ⟨ga1, gb1, gc1, gd1, ge1, gf1, gg1⟩ := id zf121
          refine z_istore_n (ls' := [(3, .int (b2i (f'115 = none))), (4, .int (tk b nn p'1 none)), (0, .ref t), (1, .ref r), (2, .int (nI k))]) X dX9_compared_67 (by decide) rfl ?_
          refine z_aload_n X 2 dX9_compared_68 rfl ?_
          refine z_iload X 1 dX9_compared_69 rfl ?_
          refine z_ineg X dX9_compared_71 ?_
          refine z_callV X (t_step (κ := κ) (n := n) (t := (t)) (sz := ((sz + (L'2 : _).length) + (L'114 : _).length)) (st := (wrs (wrs st sz L'2) (sz + (L'2 : _).length) L'114)) (pl := (nI p'113)) (tp := (tp)) (v := (-(tk b nn p'1 none))) zK123 zK124 (by omega)) mk_X9_step dX9_compared_72 wd_567 wd_569 wd_13 rfl zK123 rfl rfl rfl (Nat.le_of_ble_eq_true rfl) (by omega) (Nat.le_of_ble_eq_true rfl) (by omega) (by omega) (fun q zh127 zm129 zp130 => ?_)
          obtain ⟨rfl, ze128, zn131⟩ := zp130
          subst zm129
          refine z_st (st' := []) rfl ?_
          have zK132 : zh127 t = some (.inr (9, [.ref (t + 1), .ref (t + 2), .int (nI (((sz + (L'2 : _).length) + (L'114 : _).length) + 1)), .int ((nI p'113)), .int tp])) := by rw [ze128]; rw [va_up_ne _ _ (show t ≠ t + 1 by omega)]; exact va_up_self _ _ _
          have zK133 : zh127 (t + 1) = arI κ 50 (upd (wrs (wrs st sz L'2) (sz + (L'2 : _).length) L'114) ((sz + (L'2 : _).length) + (L'114 : _).length) (-(tk b nn p'1 none))) := by rw [ze128]; exact va_up_self _ _ _
          have zK134 : zh127 r = some (.inr (6, [.ref (r + 1), .int (nI nn), .int bits])) := by rw [ze128]; rw [va_up_ne _ _ (show r ≠ t + 1 by omega)]; rw [va_up_ne _ _ (show r ≠ t by omega)]; exact zK125
          have zK135 : zh127 (r + 1) = arI κ 50 b := by rw [ze128]; rw [va_up_ne _ _ (show r + 1 ≠ t + 1 by omega)]; rw [va_up_ne _ _ (show r + 1 ≠ t by omega)]; exact zK126
          refine z_iload_n X 0 dX9_compared_75 rfl ?_
          refine z_zret X E dX9_compared_76 (by first | rfl | exact b2i_nar _) (by omega) (by omega) ⟨p'113, (L'2 ++ L'114 ++ [-(tk b nn p'1 none)]), f'115, k'116, ?_, ?_, ?_, ?_⟩
          · rfl
          · rw [show wrs st sz (L'2 ++ L'114 ++ [-(tk b nn p'1 none)]) = upd (wrs (wrs st sz L'2) (sz + L'2.length) L'114) (sz + L'2.length + L'114.length) (-(tk b nn p'1 none)) from (by rw [wrs_app, wrs_app, List.length_append]; exact congrArg (fun z => upd _ z _) (by omega)), show sz + (L'2 ++ L'114 ++ [-(tk b nn p'1 none)]).length = sz + L'2.length + L'114.length + 1 from (by simp only [List.length_append, List.length_cons, List.length_nil]; omega)]; funext zz; by_cases zq1 : zz = t + 1; (rw [zq1, va_up_self]; exact zK133); by_cases zq0 : zz = t; (rw [zq0, va_up_ne _ _ (show t ≠ t + 1 by omega), va_up_self]; exact zK132); rw [va_up_ne _ _ zq1, va_up_ne _ _ zq0]; rw [ze128, ze118, ze108, ze6]; simp only [va_up, if_neg zq0, if_neg zq1]
          · rfl
          · exact ⟨by omega, gb1, by (simp only [List.length_append, List.length_cons, List.length_nil]; omega), gd1, ge1, mem_app3 gf0 gf1 (okS_o hop), fun nm => (by (obtain ⟨v, ev, gv1⟩ := gg0 nm; obtain ⟨w, ew, gw⟩ := gg1 nm; exact ⟨opC (tk b nn p'1 none) v w, (cmpE_go (s' := (p'1, f'3, k'4)) (s2 := (p'113, f'115, k'116)) ev (by (rw [hf0]; exact hsg)) (by (show U b nn nm (p'1 + 1, f'3, k'4) = _; rw [hf0, ge0 hf0]; exact ew))).trans (by rw [hf0]), fun zq => (by (rw [← wkO_C hsg]; exact Good_bin (gv1 hf0) (gw zq) hop))⟩))⟩
set_option maxHeartbeats 4000000 in
set_option maxRecDepth 100000 in
theorem pa_inside {κ : Wc} {l : Launch} {j dd : Nat} (hdd : 5 ≤ dd) (hE : PaC κ l yX9_anyOf cX9_anyOf 5 dd j (evE j)) : InC κ l yX9_inside cX9_inside 3 (dd + 1) j (unitF (j + 1)) := by
  intro h n t r nn p sz k b st tp bits K0 K1 K2 K3 e1 e2 e3 e4 e5 e6
  refine Con.of mk_X9_inside (Nat.le_of_ble_eq_true rfl) (fun G hG X E => ?_)
  subst hG
  refine z_ls (ls' := [(0, .ref t), (1, .ref r), (2, .int (nI (k + 1)))]) rfl ?_
  have hin := tk_in (show ¬ tk b nn p none = -1 by rw [e6]; decide)
  refine z_aload_n X 0 dX9_inside_0 rfl ?_
  refine z_dup X dX9_inside_1 rfl ?_
  refine z_get X fl_X9_22_9 dX9_inside_2 K0 rfl ?_
  refine z_iconst (v := 1) X dX9_inside_5 (by decide) ?_
  refine z_iadd X dX9_inside_6 ?_
  refine z_toe (y := nI (p + 1)) (nI_add (p) (1)) ?_
  refine z_put X fp_X9_22_9 dX9_inside_7 K0 (by first | rfl | decide) (by first | rfl | decide) (Nat.le_of_ble_eq_true rfl) rfl ?_
  obtain ⟨zh1, ze2⟩ : ∃ z : Mm, z = va_up h t (some (.inr (9, [.ref (t + 1), .ref (t + 2), .int (nI sz), .int (nI (p + 1)), .int tp]))) := ⟨_, rfl⟩
  refine z_heap (h' := zh1) ze2.symm ?_
  have zK3 := up_at ze2
  have zK4 := up_off ze2 (show t + 1 ≠ t by omega) K1
  have zK5 := up_off ze2 (show r ≠ t by omega) K2
  have zK6 := up_off ze2 (show r + 1 ≠ t by omega) K3
  refine z_aload_n X 0 dX9_inside_10 rfl ?_
  refine z_aload_n X 1 dX9_inside_11 rfl ?_
  refine z_iload_n X 2 dX9_inside_12 rfl ?_
  refine z_callV X (PaC.use hE (κ := κ) (n := n) (t := (t)) (r := (r)) (nn := (nn)) (p := (p + 1)) (sz := (sz)) (k := (k + 1)) (b := (b)) (st := (st)) (tp := (tp)) (bits := (bits)) zK3 zK4 zK5 zK6 (by first | assumption | omega) (by omega) (by omega) (by omega) (by first | assumption | omega)) mk_X9_anyOf dX9_inside_13 wd_533 wd_535 wd_5 rfl zK3 rfl rfl rfl (Nat.le_of_ble_eq_true rfl) (by omega) (Nat.le_of_ble_eq_true rfl) (by omega) (by omega) (fun q zh11 zm13 zp14 => ?_)
  obtain ⟨p'7, L'8, f'9, k'10, rfl, ze12, zn16, zf15⟩ := zp14
  subst zm13
  refine z_st (st' := [.int (b2i (f'9 = none))]) rfl ?_
  have zK17 : zh11 t = some (.inr (9, [.ref (t + 1), .ref (t + 2), .int (nI (sz + (L'8 : _).length)), .int (nI p'7), .int tp])) := by rw [ze12]; rw [va_up_ne _ _ (show t ≠ t + 1 by omega)]; exact va_up_self _ _ _
  have zK18 : zh11 (t + 1) = arI κ 50 (wrs st sz L'8) := by rw [ze12]; exact va_up_self _ _ _
  have zK19 : zh11 r = some (.inr (6, [.ref (r + 1), .int (nI nn), .int bits])) := by rw [ze12]; rw [va_up_ne _ _ (show r ≠ t + 1 by omega)]; rw [va_up_ne _ _ (show r ≠ t by omega)]; exact zK5
  have zK20 : zh11 (r + 1) = arI κ 50 b := by rw [ze12]; rw [va_up_ne _ _ (show r + 1 ≠ t + 1 by omega)]; rw [va_up_ne _ _ (show r + 1 ≠ t by omega)]; exact zK6
  obtain ⟨ga0, gb0, gc0, gd0, ge0, gf0, gg0⟩ := id zf15
  refine z_if_eq X 29 dX9_inside_16 (by decide) (fun zc21 => ?_) (fun zc21 => ?_)
  · replace zc21 := b2i_f zc21
    refine z_iconst (v := 0) X dX9_inside_29 (by decide) ?_
    refine z_zret X E dX9_inside_30 (by first | rfl | exact b2i_nar _) (by omega) (by omega) ⟨p'7, L'8, some p'7, k'10, ?_, ?_, ?_, ?_⟩
    · rfl
    · funext zz; by_cases zq1 : zz = t + 1; (rw [zq1, va_up_self]; exact zK18); by_cases zq0 : zz = t; (rw [zq0, va_up_ne _ _ (show t ≠ t + 1 by omega), va_up_self]; exact zK17); rw [va_up_ne _ _ zq1, va_up_ne _ _ zq0]; rw [ze12, ze2]; simp only [va_up, if_neg zq0, if_neg zq1]
    · rfl
    · exact ⟨by omega, by omega, by omega, Or.inr rfl, fun zq => (by cases zq), gf0, fun nm => (by (obtain ⟨v, ev, gv1⟩ := gg0 nm; exact ⟨0, (unitS_w e6 ev (by (rw [tk_flt (by assumption)]; decide))).trans (congrArg (fun zz => (0, p'7, zz, k'10)) (by rw [flW_s (by assumption)]; exact (gd0.resolve_left (by assumption)))), fun zq => (by cases zq)⟩))⟩
  · replace zc21 := b2i_t zc21
    have hf0 := zc21
    refine z_aload_n X 0 dX9_inside_19 rfl ?_
    refine z_aload_n X 1 dX9_inside_20 rfl ?_
    refine z_bipush (v := 41) X dX9_inside_21 (by decide) ?_
    refine z_callV X (t_sees (κ := κ) (n := n) (t := (t)) (r := (r)) (nn := (nn)) (p := (p'7)) (b := (b)) (tp := (tp)) (bits := (bits)) (s0 := (nI (sz + (L'8 : _).length))) (c := (41)) zK17 zK19 zK20 (by first | assumption | omega) (by omega) (by decide)) mk_X9_sees dX9_inside_23 wd_571 wd_573 wd_14 rfl zK17 rfl rfl rfl (Nat.le_of_ble_eq_true rfl) (by omega) (Nat.le_of_ble_eq_true rfl) (by omega) (by omega) (fun q zh22 zm24 zp25 => ?_)
    obtain ⟨rfl, ze23, zn26⟩ := zp25
    subst zm24
    subst zh22
    refine z_st (st' := [.int (b2i (tk b nn p'7 none = 41))]) rfl ?_
    refine z_if_ne X 31 dX9_inside_26 (by decide) (fun zc27 => ?_) (fun zc27 => ?_)
    · replace zc27 := b2i_t zc27
      have hpa := zc27
      have hin2 := tk_in (show ¬ tk b nn p'7 none = -1 by rw [hpa]; decide)
      refine z_aload_n X 0 dX9_inside_31 rfl ?_
      refine z_dup X dX9_inside_32 rfl ?_
      refine z_get X fl_X9_22_9 dX9_inside_33 zK17 rfl ?_
      refine z_iconst (v := 1) X dX9_inside_36 (by decide) ?_
      refine z_iadd X dX9_inside_37 ?_
      refine z_toe (y := nI (p'7 + 1)) (nI_add (p'7) (1)) ?_
      refine z_put X fp_X9_22_9 dX9_inside_38 zK17 (by first | rfl | decide) (by first | rfl | decide) (Nat.le_of_ble_eq_true rfl) rfl ?_
      obtain ⟨zh28, ze29⟩ : ∃ z : Mm, z = va_up zh11 t (some (.inr (9, [.ref (t + 1), .ref (t + 2), .int (nI (sz + (L'8 : _).length)), .int (nI (p'7 + 1)), .int tp]))) := ⟨_, rfl⟩
      refine z_heap (h' := zh28) ze29.symm ?_
      have zK30 := up_at ze29
      have zK31 := up_off ze29 (show t + 1 ≠ t by omega) zK18
      have zK32 := up_off ze29 (show r ≠ t by omega) zK19
      have zK33 := up_off ze29 (show r + 1 ≠ t by omega) zK20
      refine z_iconst (v := 1) X dX9_inside_41 (by decide) ?_
      refine z_zret X E dX9_inside_42 (by first | rfl | exact b2i_nar _) (by omega) (by omega) ⟨p'7 + 1, L'8, none, k'10 - 1, ?_, ?_, ?_, ?_⟩
      · rfl
      · funext zz; by_cases zq1 : zz = t + 1; (rw [zq1, va_up_self]; exact zK31); by_cases zq0 : zz = t; (rw [zq0, va_up_ne _ _ (show t ≠ t + 1 by omega), va_up_self]; exact zK30); rw [va_up_ne _ _ zq1, va_up_ne _ _ zq0]; rw [ze29, ze12, ze2]; simp only [va_up, if_neg zq0, if_neg zq1]
      · rfl
      · exact ⟨by omega, by omega, by omega, Or.inl rfl, fun _ => (by have := ge0 hf0; omega), gf0, fun nm => (by (obtain ⟨v, ev, gv1⟩ := gg0 nm; exact ⟨v, (unitS_p e6 ev (by (rw [hf0]; exact hpa))).trans (by rw [hf0]), fun _ => gv1 hf0⟩))⟩
    · replace zc27 := b2i_f zc27
      have hpa := zc27
      refine z_iconst (v := 0) X dX9_inside_29 (by decide) ?_
      refine z_zret X E dX9_inside_30 (by first | rfl | exact b2i_nar _) (by omega) (by omega) ⟨p'7, L'8, some p'7, k'10, ?_, ?_, ?_, ?_⟩
      · rfl
      · funext zz; by_cases zq1 : zz = t + 1; (rw [zq1, va_up_self]; exact zK18); by_cases zq0 : zz = t; (rw [zq0, va_up_ne _ _ (show t ≠ t + 1 by omega), va_up_self]; exact zK17); rw [va_up_ne _ _ zq1, va_up_ne _ _ zq0]; rw [ze12, ze2]; simp only [va_up, if_neg zq0, if_neg zq1]
      · rfl
      · exact ⟨by omega, by omega, by omega, Or.inr rfl, fun zq => (by cases zq), gf0, fun nm => (by (obtain ⟨v, ev, gv1⟩ := gg0 nm; exact ⟨0, (unitS_w e6 ev (by (rw [hf0]; exact hpa))).trans (congrArg (fun zz => (0, p'7, zz, k'10)) (by rw [hf0]; rfl)), fun zq => (by cases zq)⟩))⟩
theorem dig_no33 {x : Int32} (h : 48 ≤ x.toInt ∧ x.toInt ≤ 57) : ¬ x = 33 ∧ ¬ x = 40 ∧ nmI x < 0 := by
  refine ⟨fun q => ?_, fun q => ?_, ?_⟩
  · rw [q] at h; exact absurd h (by decide)
  · rw [q] at h; exact absurd h (by decide)
  · unfold nmI
    rw [if_neg (fun q => by rw [q] at h; exact absurd h (by decide)), if_neg (fun q => by rw [q] at h; exact absurd h (by decide)), if_neg (fun q => by rw [q] at h; exact absurd h (by decide))]
    decide
theorem unit_leaf {b : Nat → Int32} {n p k j : Nat} {nm : Nat → Int32} {f : Option Nat} (h1 : ¬ tk b n p f = 33) (h2 : ¬ tk b n p f = 40) : unitF j b n nm (p, f, k) = leafU b n nm (p, f, k) := by
  cases j with
  | zero => exact unit0_l h1 h2
  | succ j => exact unitS_l h1 h2
theorem nmI_no {x : Int32} (h1 : ¬ x = 116) (h2 : ¬ x = 119) (h3 : ¬ x = 99) : nmI x < 0 := by
  unfold nmI
  rw [if_neg h1, if_neg h2, if_neg h3]
  decide
theorem unit_bad {b : Nat → Int32} {n p k j : Nat} {nm : Nat → Int32} (h0 : ¬ (48 ≤ (tk b n p none).toInt ∧ (tk b n p none).toInt ≤ 57)) (h1 : ¬ tk b n p none = 116) (h2 : ¬ tk b n p none = 119) (h3 : ¬ tk b n p none = 99) (h4 : (¬ tk b n p none = 33 ∧ ¬ tk b n p none = 40) ∨ j = 0) : unitF j b n nm (p, none, k) = (0, p, some p, k) := by
  by_cases h5 : tk b n p none = 33 ∨ tk b n p none = 40
  · rcases h4 with h4 | rfl
    · exact absurd h5 (fun q => q.elim h4.1 h4.2)
    · exact unit0_w h5
  · exact (unit_leaf (fun q => h5 (Or.inl q)) (fun q => h5 (Or.inr q))).trans (leafU_w (nmI_no h1 h2 h3) (digF_stop h0))
set_option maxHeartbeats 4000000 in
set_option maxRecDepth 100000 in
theorem pa_single0 {κ : Wc} {l : Launch} : PaC κ l yX9_single cX9_single 4 5 0 (unitF 0) := by
  intro h n t r nn p sz k b st tp bits K0 K1 K2 K3 e1 e2 e3 e4 e5
  refine Con.of mk_X9_single (Nat.le_of_ble_eq_true rfl) (fun G hG X E => ?_)
  subst hG
  refine z_ls (ls' := [(0, .ref t), (1, .ref r), (2, .int (nI k))]) rfl ?_
  refine z_aload_n X 0 dX9_single_0 rfl ?_
  refine z_aload_n X 1 dX9_single_1 rfl ?_
  refine z_callV X (t_seesDigit (κ := κ) (n := n) (t := (t)) (r := (r)) (nn := (nn)) (p := (p)) (b := (b)) (tp := (tp)) (bits := (bits)) (s0 := (nI sz)) K0 K2 K3 (by first | assumption | omega) (by first | assumption | omega)) mk_X9_seesDigit dX9_single_2 wd_557 wd_559 wd_11 rfl K0 rfl rfl rfl (Nat.le_of_ble_eq_true rfl) (by omega) (Nat.le_of_ble_eq_true rfl) (by omega) (by omega) (fun q zh1 zm3 zp4 => ?_)
  obtain ⟨rfl, ze2, zn5⟩ := zp4
  subst zm3
  subst zh1
  refine z_st (st' := [.int (b2i (48 ≤ (tk b nn p none).toInt ∧ (tk b nn p none).toInt ≤ 57))]) rfl ?_
  refine z_if_eq X 15 dX9_single_5 (by decide) (fun zc6 => ?_) (fun zc6 => ?_)
  · replace zc6 := b2i_f zc6
    have hdg := zc6
    refine z_aload_n X 0 dX9_single_15 rfl ?_
    refine z_aload_n X 1 dX9_single_16 rfl ?_
    refine z_bipush (v := 116) X dX9_single_17 (by decide) ?_
    refine z_callV X (t_sees (κ := κ) (n := n) (t := (t)) (r := (r)) (nn := (nn)) (p := (p)) (b := (b)) (tp := (tp)) (bits := (bits)) (s0 := (nI sz)) (c := (116)) K0 K2 K3 (by first | assumption | omega) (by first | assumption | omega) (by decide)) mk_X9_sees dX9_single_19 wd_571 wd_573 wd_14 rfl K0 rfl rfl rfl (Nat.le_of_ble_eq_true rfl) (by omega) (Nat.le_of_ble_eq_true rfl) (by omega) (by omega) (fun q zh7 zm9 zp10 => ?_)
    obtain ⟨rfl, ze8, zn11⟩ := zp10
    subst zm9
    subst zh7
    refine z_st (st' := [.int (b2i (tk b nn p none = 116))]) rfl ?_
    refine z_if_ne X 45 dX9_single_22 (by decide) (fun zc12 => ?_) (fun zc12 => ?_)
    · replace zc12 := b2i_t zc12
      have hch := zc12
      have hin := tk_in (show ¬ tk b nn p none = -1 by rw [hch]; decide)
      refine z_aload_n X 0 dX9_single_45 rfl ?_
      refine z_aload_n X 1 dX9_single_46 rfl ?_
      refine z_aload_n X 0 dX9_single_47 rfl ?_
      refine z_get X fl_X9_22_9 dX9_single_48 K0 rfl ?_
      refine z_callV X (c_Row_at (κ := κ) (n := n) (r := (r)) (k := (nn)) (bt := (bits)) (i := (nI p)) (N := (50)) (f := (b)) K2 K3 (by first | assumption | omega) (by first | assumption | omega)) mk_X6_at dX9_single_51 wd_561 wd_299 wd_300 rfl K2 rfl rfl rfl (Nat.le_of_ble_eq_true rfl) (by omega) (Nat.le_of_ble_eq_true rfl) (by omega) (by omega) (fun q zh13 zm15 zp16 => ?_)
      obtain ⟨rfl, ze14, zn17⟩ := zp16
      subst zm15
      subst zh13
      refine z_st (st' := [.int (rowAt nn b (nI p)), .ref t]) rfl ?_
      refine z_toe (y := tk b nn p none) (at_tk hin.1 e1) ?_
      refine z_ineg X dX9_single_54 ?_
      refine z_callV X (t_step (κ := κ) (n := n) (t := (t)) (sz := (sz)) (st := (st)) (pl := (nI p)) (tp := (tp)) (v := (-(tk b nn p none))) K0 K1 (by omega)) mk_X9_step dX9_single_55 wd_567 wd_569 wd_13 rfl K0 rfl rfl rfl (Nat.le_of_ble_eq_true rfl) (by omega) (Nat.le_of_ble_eq_true rfl) (by omega) (by omega) (fun q zh18 zm20 zp21 => ?_)
      obtain ⟨rfl, ze19, zn22⟩ := zp21
      subst zm20
      refine z_st (st' := []) rfl ?_
      have zK23 : zh18 t = some (.inr (9, [.ref (t + 1), .ref (t + 2), .int (nI (sz + 1)), .int ((nI p)), .int tp])) := by rw [ze19]; rw [va_up_ne _ _ (show t ≠ t + 1 by omega)]; exact va_up_self _ _ _
      have zK24 : zh18 (t + 1) = arI κ 50 (upd st sz (-(tk b nn p none))) := by rw [ze19]; exact va_up_self _ _ _
      have zK25 : zh18 r = some (.inr (6, [.ref (r + 1), .int (nI nn), .int bits])) := by rw [ze19]; rw [va_up_ne _ _ (show r ≠ t + 1 by omega)]; rw [va_up_ne _ _ (show r ≠ t by omega)]; exact K2
      have zK26 : zh18 (r + 1) = arI κ 50 b := by rw [ze19]; rw [va_up_ne _ _ (show r + 1 ≠ t + 1 by omega)]; rw [va_up_ne _ _ (show r + 1 ≠ t by omega)]; exact K3
      refine z_aload_n X 0 dX9_single_58 rfl ?_
      refine z_dup X dX9_single_59 rfl ?_
      refine z_get X fl_X9_22_9 dX9_single_60 zK23 rfl ?_
      refine z_iconst (v := 1) X dX9_single_63 (by decide) ?_
      refine z_iadd X dX9_single_64 ?_
      refine z_toe (y := nI (p + 1)) (nI_add (p) (1)) ?_
      refine z_put X fp_X9_22_9 dX9_single_65 zK23 (by first | rfl | decide) (by first | rfl | decide) (Nat.le_of_ble_eq_true rfl) rfl ?_
      obtain ⟨zh27, ze28⟩ : ∃ z : Mm, z = va_up zh18 t (some (.inr (9, [.ref (t + 1), .ref (t + 2), .int (nI (sz + 1)), .int (nI (p + 1)), .int tp]))) := ⟨_, rfl⟩
      refine z_heap (h' := zh27) ze28.symm ?_
      have zK29 := up_at ze28
      have zK30 := up_off ze28 (show t + 1 ≠ t by omega) zK24
      have zK31 := up_off ze28 (show r ≠ t by omega) zK25
      have zK32 := up_off ze28 (show r + 1 ≠ t by omega) zK26
      refine z_iconst (v := 1) X dX9_single_68 (by decide) ?_
      refine z_zret X E dX9_single_69 (by first | rfl | exact b2i_nar _) (by omega) (by omega) ⟨p + 1, [-116], none, k, ?_, ?_, ?_, ?_⟩
      · rfl
      · rw [show wrs st sz [-116] = upd st sz (-tk b nn p none) from (by rw [hch]; rfl), show sz + ([-116] : List Int32).length = sz + 1 from rfl]; funext zz; by_cases zq1 : zz = t + 1; (rw [zq1, va_up_self]; exact zK30); by_cases zq0 : zz = t; (rw [zq0, va_up_ne _ _ (show t ≠ t + 1 by omega), va_up_self]; exact zK29); rw [va_up_ne _ _ zq1, va_up_ne _ _ zq0]; rw [ze28, ze19]; simp only [va_up, if_neg zq0, if_neg zq1]
      · rfl
      · exact ⟨by omega, by omega, (by show p + 1 ≤ _; omega), Or.inl rfl, fun _ => rfl, mem_one okS_t, fun nm => ⟨nm 0, (unit_leaf (by (rw [hch]; decide)) (by (rw [hch]; decide))).trans ((leafU_nm (by (rw [hch]; decide))).trans (by rw [hch]; rfl)), fun _ => Good_t⟩⟩
    · replace zc12 := b2i_f zc12
      refine z_aload_n X 0 dX9_single_25 rfl ?_
      refine z_aload_n X 1 dX9_single_26 rfl ?_
      refine z_bipush (v := 119) X dX9_single_27 (by decide) ?_
      refine z_callV X (t_sees (κ := κ) (n := n) (t := (t)) (r := (r)) (nn := (nn)) (p := (p)) (b := (b)) (tp := (tp)) (bits := (bits)) (s0 := (nI sz)) (c := (119)) K0 K2 K3 (by first | assumption | omega) (by first | assumption | omega) (by decide)) mk_X9_sees dX9_single_29 wd_571 wd_573 wd_14 rfl K0 rfl rfl rfl (Nat.le_of_ble_eq_true rfl) (by omega) (Nat.le_of_ble_eq_true rfl) (by omega) (by omega) (fun q zh33 zm35 zp36 => ?_)
      obtain ⟨rfl, ze34, zn37⟩ := zp36
      subst zm35
      subst zh33
      refine z_st (st' := [.int (b2i (tk b nn p none = 119))]) rfl ?_
      refine z_if_ne X 45 dX9_single_32 (by decide) (fun zc38 => ?_) (fun zc38 => ?_)
      · replace zc38 := b2i_t zc38
        have hch := zc38
        have hin := tk_in (show ¬ tk b nn p none = -1 by rw [hch]; decide)
        refine z_aload_n X 0 dX9_single_45 rfl ?_
        refine z_aload_n X 1 dX9_single_46 rfl ?_
        refine z_aload_n X 0 dX9_single_47 rfl ?_
        refine z_get X fl_X9_22_9 dX9_single_48 K0 rfl ?_
        refine z_callV X (c_Row_at (κ := κ) (n := n) (r := (r)) (k := (nn)) (bt := (bits)) (i := (nI p)) (N := (50)) (f := (b)) K2 K3 (by first | assumption | omega) (by first | assumption | omega)) mk_X6_at dX9_single_51 wd_561 wd_299 wd_300 rfl K2 rfl rfl rfl (Nat.le_of_ble_eq_true rfl) (by omega) (Nat.le_of_ble_eq_true rfl) (by omega) (by omega) (fun q zh39 zm41 zp42 => ?_)
        obtain ⟨rfl, ze40, zn43⟩ := zp42
        subst zm41
        subst zh39
        refine z_st (st' := [.int (rowAt nn b (nI p)), .ref t]) rfl ?_
        refine z_toe (y := tk b nn p none) (at_tk hin.1 e1) ?_
        refine z_ineg X dX9_single_54 ?_
        refine z_callV X (t_step (κ := κ) (n := n) (t := (t)) (sz := (sz)) (st := (st)) (pl := (nI p)) (tp := (tp)) (v := (-(tk b nn p none))) K0 K1 (by omega)) mk_X9_step dX9_single_55 wd_567 wd_569 wd_13 rfl K0 rfl rfl rfl (Nat.le_of_ble_eq_true rfl) (by omega) (Nat.le_of_ble_eq_true rfl) (by omega) (by omega) (fun q zh44 zm46 zp47 => ?_)
        obtain ⟨rfl, ze45, zn48⟩ := zp47
        subst zm46
        refine z_st (st' := []) rfl ?_
        have zK49 : zh44 t = some (.inr (9, [.ref (t + 1), .ref (t + 2), .int (nI (sz + 1)), .int ((nI p)), .int tp])) := by rw [ze45]; rw [va_up_ne _ _ (show t ≠ t + 1 by omega)]; exact va_up_self _ _ _
        have zK50 : zh44 (t + 1) = arI κ 50 (upd st sz (-(tk b nn p none))) := by rw [ze45]; exact va_up_self _ _ _
        have zK51 : zh44 r = some (.inr (6, [.ref (r + 1), .int (nI nn), .int bits])) := by rw [ze45]; rw [va_up_ne _ _ (show r ≠ t + 1 by omega)]; rw [va_up_ne _ _ (show r ≠ t by omega)]; exact K2
        have zK52 : zh44 (r + 1) = arI κ 50 b := by rw [ze45]; rw [va_up_ne _ _ (show r + 1 ≠ t + 1 by omega)]; rw [va_up_ne _ _ (show r + 1 ≠ t by omega)]; exact K3
        refine z_aload_n X 0 dX9_single_58 rfl ?_
        refine z_dup X dX9_single_59 rfl ?_
        refine z_get X fl_X9_22_9 dX9_single_60 zK49 rfl ?_
        refine z_iconst (v := 1) X dX9_single_63 (by decide) ?_
        refine z_iadd X dX9_single_64 ?_
        refine z_toe (y := nI (p + 1)) (nI_add (p) (1)) ?_
        refine z_put X fp_X9_22_9 dX9_single_65 zK49 (by first | rfl | decide) (by first | rfl | decide) (Nat.le_of_ble_eq_true rfl) rfl ?_
        obtain ⟨zh53, ze54⟩ : ∃ z : Mm, z = va_up zh44 t (some (.inr (9, [.ref (t + 1), .ref (t + 2), .int (nI (sz + 1)), .int (nI (p + 1)), .int tp]))) := ⟨_, rfl⟩
        refine z_heap (h' := zh53) ze54.symm ?_
        have zK55 := up_at ze54
        have zK56 := up_off ze54 (show t + 1 ≠ t by omega) zK50
        have zK57 := up_off ze54 (show r ≠ t by omega) zK51
        have zK58 := up_off ze54 (show r + 1 ≠ t by omega) zK52
        refine z_iconst (v := 1) X dX9_single_68 (by decide) ?_
        refine z_zret X E dX9_single_69 (by first | rfl | exact b2i_nar _) (by omega) (by omega) ⟨p + 1, [-119], none, k, ?_, ?_, ?_, ?_⟩
        · rfl
        · rw [show wrs st sz [-119] = upd st sz (-tk b nn p none) from (by rw [hch]; rfl), show sz + ([-119] : List Int32).length = sz + 1 from rfl]; funext zz; by_cases zq1 : zz = t + 1; (rw [zq1, va_up_self]; exact zK56); by_cases zq0 : zz = t; (rw [zq0, va_up_ne _ _ (show t ≠ t + 1 by omega), va_up_self]; exact zK55); rw [va_up_ne _ _ zq1, va_up_ne _ _ zq0]; rw [ze54, ze45]; simp only [va_up, if_neg zq0, if_neg zq1]
        · rfl
        · exact ⟨by omega, by omega, (by show p + 1 ≤ _; omega), Or.inl rfl, fun _ => rfl, mem_one okS_w, fun nm => ⟨nm 1, (unit_leaf (by (rw [hch]; decide)) (by (rw [hch]; decide))).trans ((leafU_nm (by (rw [hch]; decide))).trans (by rw [hch]; rfl)), fun _ => Good_w⟩⟩
      · replace zc38 := b2i_f zc38
        refine z_aload_n X 0 dX9_single_35 rfl ?_
        refine z_aload_n X 1 dX9_single_36 rfl ?_
        refine z_bipush (v := 99) X dX9_single_37 (by decide) ?_
        refine z_callV X (t_sees (κ := κ) (n := n) (t := (t)) (r := (r)) (nn := (nn)) (p := (p)) (b := (b)) (tp := (tp)) (bits := (bits)) (s0 := (nI sz)) (c := (99)) K0 K2 K3 (by first | assumption | omega) (by first | assumption | omega) (by decide)) mk_X9_sees dX9_single_39 wd_571 wd_573 wd_14 rfl K0 rfl rfl rfl (Nat.le_of_ble_eq_true rfl) (by omega) (Nat.le_of_ble_eq_true rfl) (by omega) (by omega) (fun q zh59 zm61 zp62 => ?_)
        obtain ⟨rfl, ze60, zn63⟩ := zp62
        subst zm61
        subst zh59
        refine z_st (st' := [.int (b2i (tk b nn p none = 99))]) rfl ?_
        refine z_if_eq X 70 dX9_single_42 (by decide) (fun zc64 => ?_) (fun zc64 => ?_)
        · replace zc64 := b2i_f zc64
          refine z_iload_n X 2 dX9_single_70 rfl ?_
          refine z_iconst (v := 5) X dX9_single_71 (by decide) ?_
          refine z_icmp_lt X 77 dX9_single_72 (by decide) (fun zc65 => ?_) (fun zc65 => ?_)
          · try replace zc65 := (nI_ltI (a := k) (b := 5) (by omega) (by omega)).mp zc65
            (exfalso; omega)
          · try replace zc65 := mt (nI_ltI (a := k) (b := 5) (by omega) (by omega)).mpr zc65
            refine z_iconst (v := 0) X dX9_single_75 (by decide) ?_
            refine z_zret X E dX9_single_76 (by first | rfl | exact b2i_nar _) (by omega) (by omega) ⟨p, [], some p, k, ?_, ?_, ?_, ?_⟩
            · rfl
            · funext zz; by_cases zq1 : zz = t + 1; (rw [zq1, va_up_self]; exact K1); by_cases zq0 : zz = t; (rw [zq0, va_up_ne _ _ (show t ≠ t + 1 by omega), va_up_self]; exact K0); rw [va_up_ne _ _ zq1, va_up_ne _ _ zq0]
            · rfl
            · exact ⟨Nat.le_refl _, e2, Nat.le_refl _, Or.inr rfl, fun zq => (by cases zq), mem_nil, fun nm => ⟨0, unit_bad hdg (by assumption) (by assumption) (by assumption) (Or.inr rfl), fun zq => (by cases zq)⟩⟩
        · replace zc64 := b2i_t zc64
          have hch := zc64
          have hin := tk_in (show ¬ tk b nn p none = -1 by rw [hch]; decide)
          refine z_aload_n X 0 dX9_single_45 rfl ?_
          refine z_aload_n X 1 dX9_single_46 rfl ?_
          refine z_aload_n X 0 dX9_single_47 rfl ?_
          refine z_get X fl_X9_22_9 dX9_single_48 K0 rfl ?_
          refine z_callV X (c_Row_at (κ := κ) (n := n) (r := (r)) (k := (nn)) (bt := (bits)) (i := (nI p)) (N := (50)) (f := (b)) K2 K3 (by first | assumption | omega) (by first | assumption | omega)) mk_X6_at dX9_single_51 wd_561 wd_299 wd_300 rfl K2 rfl rfl rfl (Nat.le_of_ble_eq_true rfl) (by omega) (Nat.le_of_ble_eq_true rfl) (by omega) (by omega) (fun q zh66 zm68 zp69 => ?_)
          obtain ⟨rfl, ze67, zn70⟩ := zp69
          subst zm68
          subst zh66
          refine z_st (st' := [.int (rowAt nn b (nI p)), .ref t]) rfl ?_
          refine z_toe (y := tk b nn p none) (at_tk hin.1 e1) ?_
          refine z_ineg X dX9_single_54 ?_
          refine z_callV X (t_step (κ := κ) (n := n) (t := (t)) (sz := (sz)) (st := (st)) (pl := (nI p)) (tp := (tp)) (v := (-(tk b nn p none))) K0 K1 (by omega)) mk_X9_step dX9_single_55 wd_567 wd_569 wd_13 rfl K0 rfl rfl rfl (Nat.le_of_ble_eq_true rfl) (by omega) (Nat.le_of_ble_eq_true rfl) (by omega) (by omega) (fun q zh71 zm73 zp74 => ?_)
          obtain ⟨rfl, ze72, zn75⟩ := zp74
          subst zm73
          refine z_st (st' := []) rfl ?_
          have zK76 : zh71 t = some (.inr (9, [.ref (t + 1), .ref (t + 2), .int (nI (sz + 1)), .int ((nI p)), .int tp])) := by rw [ze72]; rw [va_up_ne _ _ (show t ≠ t + 1 by omega)]; exact va_up_self _ _ _
          have zK77 : zh71 (t + 1) = arI κ 50 (upd st sz (-(tk b nn p none))) := by rw [ze72]; exact va_up_self _ _ _
          have zK78 : zh71 r = some (.inr (6, [.ref (r + 1), .int (nI nn), .int bits])) := by rw [ze72]; rw [va_up_ne _ _ (show r ≠ t + 1 by omega)]; rw [va_up_ne _ _ (show r ≠ t by omega)]; exact K2
          have zK79 : zh71 (r + 1) = arI κ 50 b := by rw [ze72]; rw [va_up_ne _ _ (show r + 1 ≠ t + 1 by omega)]; rw [va_up_ne _ _ (show r + 1 ≠ t by omega)]; exact K3
          refine z_aload_n X 0 dX9_single_58 rfl ?_
          refine z_dup X dX9_single_59 rfl ?_
          refine z_get X fl_X9_22_9 dX9_single_60 zK76 rfl ?_
          refine z_iconst (v := 1) X dX9_single_63 (by decide) ?_
          refine z_iadd X dX9_single_64 ?_
          refine z_toe (y := nI (p + 1)) (nI_add (p) (1)) ?_
          refine z_put X fp_X9_22_9 dX9_single_65 zK76 (by first | rfl | decide) (by first | rfl | decide) (Nat.le_of_ble_eq_true rfl) rfl ?_
          obtain ⟨zh80, ze81⟩ : ∃ z : Mm, z = va_up zh71 t (some (.inr (9, [.ref (t + 1), .ref (t + 2), .int (nI (sz + 1)), .int (nI (p + 1)), .int tp]))) := ⟨_, rfl⟩
          refine z_heap (h' := zh80) ze81.symm ?_
          have zK82 := up_at ze81
          have zK83 := up_off ze81 (show t + 1 ≠ t by omega) zK77
          have zK84 := up_off ze81 (show r ≠ t by omega) zK78
          have zK85 := up_off ze81 (show r + 1 ≠ t by omega) zK79
          refine z_iconst (v := 1) X dX9_single_68 (by decide) ?_
          refine z_zret X E dX9_single_69 (by first | rfl | exact b2i_nar _) (by omega) (by omega) ⟨p + 1, [-99], none, k, ?_, ?_, ?_, ?_⟩
          · rfl
          · rw [show wrs st sz [-99] = upd st sz (-tk b nn p none) from (by rw [hch]; rfl), show sz + ([-99] : List Int32).length = sz + 1 from rfl]; funext zz; by_cases zq1 : zz = t + 1; (rw [zq1, va_up_self]; exact zK83); by_cases zq0 : zz = t; (rw [zq0, va_up_ne _ _ (show t ≠ t + 1 by omega), va_up_self]; exact zK82); rw [va_up_ne _ _ zq1, va_up_ne _ _ zq0]; rw [ze81, ze72]; simp only [va_up, if_neg zq0, if_neg zq1]
          · rfl
          · exact ⟨by omega, by omega, (by show p + 1 ≤ _; omega), Or.inl rfl, fun _ => rfl, mem_one okS_c, fun nm => ⟨nm 2, (unit_leaf (by (rw [hch]; decide)) (by (rw [hch]; decide))).trans ((leafU_nm (by (rw [hch]; decide))).trans (by rw [hch]; rfl)), fun _ => Good_c⟩⟩
  · replace zc6 := b2i_t zc6
    have hdg := zc6
    refine z_aload_n X 0 dX9_single_8 rfl ?_
    refine z_aload_n X 1 dX9_single_9 rfl ?_
    refine z_callV X (t_number (κ := κ) (n := n) (t := (t)) (r := (r)) (nn := (nn)) (p := (p)) (sz := (sz)) (b := (b)) (st := (st)) (tp := (tp)) (bits := (bits)) K0 K1 K2 K3 (by first | assumption | omega) (by first | assumption | omega) (by first | assumption | omega) (by first | assumption | omega) (hdg)) mk_X9_number dX9_single_10 wd_563 wd_565 wd_12 rfl K0 rfl rfl rfl (Nat.le_of_ble_eq_true rfl) (by omega) (Nat.le_of_ble_eq_true rfl) (by omega) (by omega) (fun q zh88 zm90 zp91 => ?_)
    obtain ⟨p'86, v'87, rfl, ze89, zn95, zf92, zf93, zf94⟩ := zp91
    subst zm90
    refine z_st (st' := []) rfl ?_
    have zK96 : zh88 t = some (.inr (9, [.ref (t + 1), .ref (t + 2), .int (nI (sz + 1)), .int (nI p'86), .int tp])) := by rw [ze89]; rw [va_up_ne _ _ (show t ≠ t + 1 by omega)]; exact va_up_self _ _ _
    have zK97 : zh88 (t + 1) = arI κ 50 (upd st sz v'87) := by rw [ze89]; exact va_up_self _ _ _
    have zK98 : zh88 r = some (.inr (6, [.ref (r + 1), .int (nI nn), .int bits])) := by rw [ze89]; rw [va_up_ne _ _ (show r ≠ t + 1 by omega)]; rw [va_up_ne _ _ (show r ≠ t by omega)]; exact K2
    have zK99 : zh88 (r + 1) = arI κ 50 b := by rw [ze89]; rw [va_up_ne _ _ (show r + 1 ≠ t + 1 by omega)]; rw [va_up_ne _ _ (show r + 1 ≠ t by omega)]; exact K3
    skip
    refine z_iconst (v := 1) X dX9_single_13 (by decide) ?_
    refine z_zret X E dX9_single_14 (by first | rfl | exact b2i_nar _) (by omega) (by omega) ⟨p'86, [v'87], none, k, ?_, ?_, ?_, ?_⟩
    · rfl
    · rw [show wrs st sz [v'87] = upd st sz v'87 from rfl, show sz + [v'87].length = sz + 1 from rfl]; funext zz; by_cases zq1 : zz = t + 1; (rw [zq1, va_up_self]; exact zK97); by_cases zq0 : zz = t; (rw [zq0, va_up_ne _ _ (show t ≠ t + 1 by omega), va_up_self]; exact zK96); rw [va_up_ne _ _ zq1, va_up_ne _ _ zq0]; rw [ze89]; simp only [va_up, if_neg zq0, if_neg zq1]
    · rfl
    · exact ⟨by omega, by omega, (by show p + 1 ≤ _; omega), Or.inl rfl, fun _ => rfl, mem_one (okS_n (neg_le0 (g := 0) zf94)), fun nm => ⟨v'87, (unit_leaf (dig_no33 hdg).1 (dig_no33 hdg).2.1).trans (leafU_n (dig_no33 hdg).2.2 zf92 (by omega)), fun _ => Good_num (neg_le0 (g := 0) zf94)⟩⟩
set_option maxHeartbeats 4000000 in
set_option maxRecDepth 100000 in
theorem pa_singleS {κ : Wc} {l : Launch} {j dd : Nat} (hdd : 5 ≤ dd) (hU : PaC κ l yX9_single cX9_single 4 dd j (unitF j)) (hI : InC κ l yX9_inside cX9_inside 3 (dd + 6) j (unitF (j + 1))) : PaC κ l yX9_single cX9_single 4 (dd + 7) (j + 1) (unitF (j + 1)) := by
  intro h n t r nn p sz k b st tp bits K0 K1 K2 K3 e1 e2 e3 e4 e5
  refine Con.of mk_X9_single (Nat.le_of_ble_eq_true rfl) (fun G hG X E => ?_)
  subst hG
  refine z_ls (ls' := [(0, .ref t), (1, .ref r), (2, .int (nI k))]) rfl ?_
  refine z_aload_n X 0 dX9_single_0 rfl ?_
  refine z_aload_n X 1 dX9_single_1 rfl ?_
  refine z_callV X (t_seesDigit (κ := κ) (n := n) (t := (t)) (r := (r)) (nn := (nn)) (p := (p)) (b := (b)) (tp := (tp)) (bits := (bits)) (s0 := (nI sz)) K0 K2 K3 (by first | assumption | omega) (by first | assumption | omega)) mk_X9_seesDigit dX9_single_2 wd_557 wd_559 wd_11 rfl K0 rfl rfl rfl (Nat.le_of_ble_eq_true rfl) (by omega) (Nat.le_of_ble_eq_true rfl) (by omega) (by omega) (fun q zh1 zm3 zp4 => ?_)
  obtain ⟨rfl, ze2, zn5⟩ := zp4
  subst zm3
  subst zh1
  refine z_st (st' := [.int (b2i (48 ≤ (tk b nn p none).toInt ∧ (tk b nn p none).toInt ≤ 57))]) rfl ?_
  refine z_if_eq X 15 dX9_single_5 (by decide) (fun zc6 => ?_) (fun zc6 => ?_)
  · replace zc6 := b2i_f zc6
    have hdg := zc6
    refine z_aload_n X 0 dX9_single_15 rfl ?_
    refine z_aload_n X 1 dX9_single_16 rfl ?_
    refine z_bipush (v := 116) X dX9_single_17 (by decide) ?_
    refine z_callV X (t_sees (κ := κ) (n := n) (t := (t)) (r := (r)) (nn := (nn)) (p := (p)) (b := (b)) (tp := (tp)) (bits := (bits)) (s0 := (nI sz)) (c := (116)) K0 K2 K3 (by first | assumption | omega) (by first | assumption | omega) (by decide)) mk_X9_sees dX9_single_19 wd_571 wd_573 wd_14 rfl K0 rfl rfl rfl (Nat.le_of_ble_eq_true rfl) (by omega) (Nat.le_of_ble_eq_true rfl) (by omega) (by omega) (fun q zh7 zm9 zp10 => ?_)
    obtain ⟨rfl, ze8, zn11⟩ := zp10
    subst zm9
    subst zh7
    refine z_st (st' := [.int (b2i (tk b nn p none = 116))]) rfl ?_
    refine z_if_ne X 45 dX9_single_22 (by decide) (fun zc12 => ?_) (fun zc12 => ?_)
    · replace zc12 := b2i_t zc12
      have hch := zc12
      have hin := tk_in (show ¬ tk b nn p none = -1 by rw [hch]; decide)
      refine z_aload_n X 0 dX9_single_45 rfl ?_
      refine z_aload_n X 1 dX9_single_46 rfl ?_
      refine z_aload_n X 0 dX9_single_47 rfl ?_
      refine z_get X fl_X9_22_9 dX9_single_48 K0 rfl ?_
      refine z_callV X (c_Row_at (κ := κ) (n := n) (r := (r)) (k := (nn)) (bt := (bits)) (i := (nI p)) (N := (50)) (f := (b)) K2 K3 (by first | assumption | omega) (by first | assumption | omega)) mk_X6_at dX9_single_51 wd_561 wd_299 wd_300 rfl K2 rfl rfl rfl (Nat.le_of_ble_eq_true rfl) (by omega) (Nat.le_of_ble_eq_true rfl) (by omega) (by omega) (fun q zh13 zm15 zp16 => ?_)
      obtain ⟨rfl, ze14, zn17⟩ := zp16
      subst zm15
      subst zh13
      refine z_st (st' := [.int (rowAt nn b (nI p)), .ref t]) rfl ?_
      refine z_toe (y := tk b nn p none) (at_tk hin.1 e1) ?_
      refine z_ineg X dX9_single_54 ?_
      refine z_callV X (t_step (κ := κ) (n := n) (t := (t)) (sz := (sz)) (st := (st)) (pl := (nI p)) (tp := (tp)) (v := (-(tk b nn p none))) K0 K1 (by omega)) mk_X9_step dX9_single_55 wd_567 wd_569 wd_13 rfl K0 rfl rfl rfl (Nat.le_of_ble_eq_true rfl) (by omega) (Nat.le_of_ble_eq_true rfl) (by omega) (by omega) (fun q zh18 zm20 zp21 => ?_)
      obtain ⟨rfl, ze19, zn22⟩ := zp21
      subst zm20
      refine z_st (st' := []) rfl ?_
      have zK23 : zh18 t = some (.inr (9, [.ref (t + 1), .ref (t + 2), .int (nI (sz + 1)), .int ((nI p)), .int tp])) := by rw [ze19]; rw [va_up_ne _ _ (show t ≠ t + 1 by omega)]; exact va_up_self _ _ _
      have zK24 : zh18 (t + 1) = arI κ 50 (upd st sz (-(tk b nn p none))) := by rw [ze19]; exact va_up_self _ _ _
      have zK25 : zh18 r = some (.inr (6, [.ref (r + 1), .int (nI nn), .int bits])) := by rw [ze19]; rw [va_up_ne _ _ (show r ≠ t + 1 by omega)]; rw [va_up_ne _ _ (show r ≠ t by omega)]; exact K2
      have zK26 : zh18 (r + 1) = arI κ 50 b := by rw [ze19]; rw [va_up_ne _ _ (show r + 1 ≠ t + 1 by omega)]; rw [va_up_ne _ _ (show r + 1 ≠ t by omega)]; exact K3
      refine z_aload_n X 0 dX9_single_58 rfl ?_
      refine z_dup X dX9_single_59 rfl ?_
      refine z_get X fl_X9_22_9 dX9_single_60 zK23 rfl ?_
      refine z_iconst (v := 1) X dX9_single_63 (by decide) ?_
      refine z_iadd X dX9_single_64 ?_
      refine z_toe (y := nI (p + 1)) (nI_add (p) (1)) ?_
      refine z_put X fp_X9_22_9 dX9_single_65 zK23 (by first | rfl | decide) (by first | rfl | decide) (Nat.le_of_ble_eq_true rfl) rfl ?_
      obtain ⟨zh27, ze28⟩ : ∃ z : Mm, z = va_up zh18 t (some (.inr (9, [.ref (t + 1), .ref (t + 2), .int (nI (sz + 1)), .int (nI (p + 1)), .int tp]))) := ⟨_, rfl⟩
      refine z_heap (h' := zh27) ze28.symm ?_
      have zK29 := up_at ze28
      have zK30 := up_off ze28 (show t + 1 ≠ t by omega) zK24
      have zK31 := up_off ze28 (show r ≠ t by omega) zK25
      have zK32 := up_off ze28 (show r + 1 ≠ t by omega) zK26
      refine z_iconst (v := 1) X dX9_single_68 (by decide) ?_
      refine z_zret X E dX9_single_69 (by first | rfl | exact b2i_nar _) (by omega) (by omega) ⟨p + 1, [-116], none, k, ?_, ?_, ?_, ?_⟩
      · rfl
      · rw [show wrs st sz [-116] = upd st sz (-tk b nn p none) from (by rw [hch]; rfl), show sz + ([-116] : List Int32).length = sz + 1 from rfl]; funext zz; by_cases zq1 : zz = t + 1; (rw [zq1, va_up_self]; exact zK30); by_cases zq0 : zz = t; (rw [zq0, va_up_ne _ _ (show t ≠ t + 1 by omega), va_up_self]; exact zK29); rw [va_up_ne _ _ zq1, va_up_ne _ _ zq0]; rw [ze28, ze19]; simp only [va_up, if_neg zq0, if_neg zq1]
      · rfl
      · exact ⟨by omega, by omega, (by show p + 1 ≤ _; omega), Or.inl rfl, fun _ => rfl, mem_one okS_t, fun nm => ⟨nm 0, (unit_leaf (by (rw [hch]; decide)) (by (rw [hch]; decide))).trans ((leafU_nm (by (rw [hch]; decide))).trans (by rw [hch]; rfl)), fun _ => Good_t⟩⟩
    · replace zc12 := b2i_f zc12
      refine z_aload_n X 0 dX9_single_25 rfl ?_
      refine z_aload_n X 1 dX9_single_26 rfl ?_
      refine z_bipush (v := 119) X dX9_single_27 (by decide) ?_
      refine z_callV X (t_sees (κ := κ) (n := n) (t := (t)) (r := (r)) (nn := (nn)) (p := (p)) (b := (b)) (tp := (tp)) (bits := (bits)) (s0 := (nI sz)) (c := (119)) K0 K2 K3 (by first | assumption | omega) (by first | assumption | omega) (by decide)) mk_X9_sees dX9_single_29 wd_571 wd_573 wd_14 rfl K0 rfl rfl rfl (Nat.le_of_ble_eq_true rfl) (by omega) (Nat.le_of_ble_eq_true rfl) (by omega) (by omega) (fun q zh33 zm35 zp36 => ?_)
      obtain ⟨rfl, ze34, zn37⟩ := zp36
      subst zm35
      subst zh33
      refine z_st (st' := [.int (b2i (tk b nn p none = 119))]) rfl ?_
      refine z_if_ne X 45 dX9_single_32 (by decide) (fun zc38 => ?_) (fun zc38 => ?_)
      · replace zc38 := b2i_t zc38
        have hch := zc38
        have hin := tk_in (show ¬ tk b nn p none = -1 by rw [hch]; decide)
        refine z_aload_n X 0 dX9_single_45 rfl ?_
        refine z_aload_n X 1 dX9_single_46 rfl ?_
        refine z_aload_n X 0 dX9_single_47 rfl ?_
        refine z_get X fl_X9_22_9 dX9_single_48 K0 rfl ?_
        refine z_callV X (c_Row_at (κ := κ) (n := n) (r := (r)) (k := (nn)) (bt := (bits)) (i := (nI p)) (N := (50)) (f := (b)) K2 K3 (by first | assumption | omega) (by first | assumption | omega)) mk_X6_at dX9_single_51 wd_561 wd_299 wd_300 rfl K2 rfl rfl rfl (Nat.le_of_ble_eq_true rfl) (by omega) (Nat.le_of_ble_eq_true rfl) (by omega) (by omega) (fun q zh39 zm41 zp42 => ?_)
        obtain ⟨rfl, ze40, zn43⟩ := zp42
        subst zm41
        subst zh39
        refine z_st (st' := [.int (rowAt nn b (nI p)), .ref t]) rfl ?_
        refine z_toe (y := tk b nn p none) (at_tk hin.1 e1) ?_
        refine z_ineg X dX9_single_54 ?_
        refine z_callV X (t_step (κ := κ) (n := n) (t := (t)) (sz := (sz)) (st := (st)) (pl := (nI p)) (tp := (tp)) (v := (-(tk b nn p none))) K0 K1 (by omega)) mk_X9_step dX9_single_55 wd_567 wd_569 wd_13 rfl K0 rfl rfl rfl (Nat.le_of_ble_eq_true rfl) (by omega) (Nat.le_of_ble_eq_true rfl) (by omega) (by omega) (fun q zh44 zm46 zp47 => ?_)
        obtain ⟨rfl, ze45, zn48⟩ := zp47
        subst zm46
        refine z_st (st' := []) rfl ?_
        have zK49 : zh44 t = some (.inr (9, [.ref (t + 1), .ref (t + 2), .int (nI (sz + 1)), .int ((nI p)), .int tp])) := by rw [ze45]; rw [va_up_ne _ _ (show t ≠ t + 1 by omega)]; exact va_up_self _ _ _
        have zK50 : zh44 (t + 1) = arI κ 50 (upd st sz (-(tk b nn p none))) := by rw [ze45]; exact va_up_self _ _ _
        have zK51 : zh44 r = some (.inr (6, [.ref (r + 1), .int (nI nn), .int bits])) := by rw [ze45]; rw [va_up_ne _ _ (show r ≠ t + 1 by omega)]; rw [va_up_ne _ _ (show r ≠ t by omega)]; exact K2
        have zK52 : zh44 (r + 1) = arI κ 50 b := by rw [ze45]; rw [va_up_ne _ _ (show r + 1 ≠ t + 1 by omega)]; rw [va_up_ne _ _ (show r + 1 ≠ t by omega)]; exact K3
        refine z_aload_n X 0 dX9_single_58 rfl ?_
        refine z_dup X dX9_single_59 rfl ?_
        refine z_get X fl_X9_22_9 dX9_single_60 zK49 rfl ?_
        refine z_iconst (v := 1) X dX9_single_63 (by decide) ?_
        refine z_iadd X dX9_single_64 ?_
        refine z_toe (y := nI (p + 1)) (nI_add (p) (1)) ?_
        refine z_put X fp_X9_22_9 dX9_single_65 zK49 (by first | rfl | decide) (by first | rfl | decide) (Nat.le_of_ble_eq_true rfl) rfl ?_
        obtain ⟨zh53, ze54⟩ : ∃ z : Mm, z = va_up zh44 t (some (.inr (9, [.ref (t + 1), .ref (t + 2), .int (nI (sz + 1)), .int (nI (p + 1)), .int tp]))) := ⟨_, rfl⟩
        refine z_heap (h' := zh53) ze54.symm ?_
        have zK55 := up_at ze54
        have zK56 := up_off ze54 (show t + 1 ≠ t by omega) zK50
        have zK57 := up_off ze54 (show r ≠ t by omega) zK51
        have zK58 := up_off ze54 (show r + 1 ≠ t by omega) zK52
        refine z_iconst (v := 1) X dX9_single_68 (by decide) ?_
        refine z_zret X E dX9_single_69 (by first | rfl | exact b2i_nar _) (by omega) (by omega) ⟨p + 1, [-119], none, k, ?_, ?_, ?_, ?_⟩
        · rfl
        · rw [show wrs st sz [-119] = upd st sz (-tk b nn p none) from (by rw [hch]; rfl), show sz + ([-119] : List Int32).length = sz + 1 from rfl]; funext zz; by_cases zq1 : zz = t + 1; (rw [zq1, va_up_self]; exact zK56); by_cases zq0 : zz = t; (rw [zq0, va_up_ne _ _ (show t ≠ t + 1 by omega), va_up_self]; exact zK55); rw [va_up_ne _ _ zq1, va_up_ne _ _ zq0]; rw [ze54, ze45]; simp only [va_up, if_neg zq0, if_neg zq1]
        · rfl
        · exact ⟨by omega, by omega, (by show p + 1 ≤ _; omega), Or.inl rfl, fun _ => rfl, mem_one okS_w, fun nm => ⟨nm 1, (unit_leaf (by (rw [hch]; decide)) (by (rw [hch]; decide))).trans ((leafU_nm (by (rw [hch]; decide))).trans (by rw [hch]; rfl)), fun _ => Good_w⟩⟩
      · replace zc38 := b2i_f zc38
        refine z_aload_n X 0 dX9_single_35 rfl ?_
        refine z_aload_n X 1 dX9_single_36 rfl ?_
        refine z_bipush (v := 99) X dX9_single_37 (by decide) ?_
        refine z_callV X (t_sees (κ := κ) (n := n) (t := (t)) (r := (r)) (nn := (nn)) (p := (p)) (b := (b)) (tp := (tp)) (bits := (bits)) (s0 := (nI sz)) (c := (99)) K0 K2 K3 (by first | assumption | omega) (by first | assumption | omega) (by decide)) mk_X9_sees dX9_single_39 wd_571 wd_573 wd_14 rfl K0 rfl rfl rfl (Nat.le_of_ble_eq_true rfl) (by omega) (Nat.le_of_ble_eq_true rfl) (by omega) (by omega) (fun q zh59 zm61 zp62 => ?_)
        obtain ⟨rfl, ze60, zn63⟩ := zp62
        subst zm61
        subst zh59
        refine z_st (st' := [.int (b2i (tk b nn p none = 99))]) rfl ?_
        refine z_if_eq X 70 dX9_single_42 (by decide) (fun zc64 => ?_) (fun zc64 => ?_)
        · replace zc64 := b2i_f zc64
          refine z_iload_n X 2 dX9_single_70 rfl ?_
          refine z_iconst (v := 5) X dX9_single_71 (by decide) ?_
          refine z_icmp_lt X 77 dX9_single_72 (by decide) (fun zc65 => ?_) (fun zc65 => ?_)
          · try replace zc65 := (nI_ltI (a := k) (b := 5) (by omega) (by omega)).mp zc65
            refine z_aload_n X 0 dX9_single_77 rfl ?_
            refine z_aload_n X 1 dX9_single_78 rfl ?_
            refine z_bipush (v := 33) X dX9_single_79 (by decide) ?_
            refine z_callV X (t_sees (κ := κ) (n := n) (t := (t)) (r := (r)) (nn := (nn)) (p := (p)) (b := (b)) (tp := (tp)) (bits := (bits)) (s0 := (nI sz)) (c := (33)) K0 K2 K3 (by first | assumption | omega) (by first | assumption | omega) (by decide)) mk_X9_sees dX9_single_81 wd_571 wd_573 wd_14 rfl K0 rfl rfl rfl (Nat.le_of_ble_eq_true rfl) (by omega) (Nat.le_of_ble_eq_true rfl) (by omega) (by omega) (fun q zh66 zm68 zp69 => ?_)
            obtain ⟨rfl, ze67, zn70⟩ := zp69
            subst zm68
            subst zh66
            refine z_st (st' := [.int (b2i (tk b nn p none = 33))]) rfl ?_
            refine z_if_eq X 114 dX9_single_84 (by decide) (fun zc71 => ?_) (fun zc71 => ?_)
            · replace zc71 := b2i_f zc71
              refine z_aload_n X 0 dX9_single_114 rfl ?_
              refine z_aload_n X 1 dX9_single_115 rfl ?_
              refine z_bipush (v := 40) X dX9_single_116 (by decide) ?_
              refine z_callV X (t_sees (κ := κ) (n := n) (t := (t)) (r := (r)) (nn := (nn)) (p := (p)) (b := (b)) (tp := (tp)) (bits := (bits)) (s0 := (nI sz)) (c := (40)) K0 K2 K3 (by first | assumption | omega) (by first | assumption | omega) (by decide)) mk_X9_sees dX9_single_118 wd_571 wd_573 wd_14 rfl K0 rfl rfl rfl (Nat.le_of_ble_eq_true rfl) (by omega) (Nat.le_of_ble_eq_true rfl) (by omega) (by omega) (fun q zh72 zm74 zp75 => ?_)
              obtain ⟨rfl, ze73, zn76⟩ := zp75
              subst zm74
              subst zh72
              refine z_st (st' := [.int (b2i (tk b nn p none = 40))]) rfl ?_
              refine z_if_eq X 139 dX9_single_121 (by decide) (fun zc77 => ?_) (fun zc77 => ?_)
              · replace zc77 := b2i_f zc77
                refine z_iconst (v := 0) X dX9_single_139 (by decide) ?_
                refine z_zret X E dX9_single_140 (by first | rfl | exact b2i_nar _) (by omega) (by omega) ⟨p, [], some p, k, ?_, ?_, ?_, ?_⟩
                · rfl
                · funext zz; by_cases zq1 : zz = t + 1; (rw [zq1, va_up_self]; exact K1); by_cases zq0 : zz = t; (rw [zq0, va_up_ne _ _ (show t ≠ t + 1 by omega), va_up_self]; exact K0); rw [va_up_ne _ _ zq1, va_up_ne _ _ zq0]
                · rfl
                · exact ⟨Nat.le_refl _, e2, Nat.le_refl _, Or.inr rfl, fun zq => (by cases zq), mem_nil, fun nm => ⟨0, unit_bad hdg (by assumption) (by assumption) (by assumption) (Or.inl ⟨by assumption, by assumption⟩), fun zq => (by cases zq)⟩⟩
              · replace zc77 := b2i_t zc77
                have h40 := zc77
                refine z_aload_n X 0 dX9_single_124 rfl ?_
                refine z_aload_n X 1 dX9_single_125 rfl ?_
                refine z_iload_n X 2 dX9_single_126 rfl ?_
                refine z_iconst (v := 1) X dX9_single_127 (by decide) ?_
                refine z_iadd X dX9_single_128 ?_
                refine z_toe (y := nI (k + 1)) (nI_add (k) (1)) ?_
                refine z_callV X (InC.use hI (κ := κ) (n := n) (t := (t)) (r := (r)) (nn := (nn)) (p := (p)) (sz := (sz)) (b := (b)) (st := (st)) (tp := (tp)) (bits := (bits)) K0 K1 K2 K3 (by first | assumption | omega) (by first | assumption | omega) (by first | assumption | omega) (e4) (by first | assumption | omega) (h40)) mk_X9_inside dX9_single_129 wd_575 wd_577 wd_15 rfl K0 rfl rfl rfl (Nat.le_of_ble_eq_true rfl) (by omega) (Nat.le_of_ble_eq_true rfl) (by omega) (by omega) (fun q zh82 zm84 zp85 => ?_)
                obtain ⟨p'78, L'79, f'80, k'81, rfl, ze83, zn87, zf86⟩ := zp85
                subst zm84
                refine z_st (st' := [.int (b2i (f'80 = none))]) rfl ?_
                have zK88 : zh82 t = some (.inr (9, [.ref (t + 1), .ref (t + 2), .int (nI (sz + (L'79 : _).length)), .int (nI p'78), .int tp])) := by rw [ze83]; rw [va_up_ne _ _ (show t ≠ t + 1 by omega)]; exact va_up_self _ _ _
                have zK89 : zh82 (t + 1) = arI κ 50 (wrs st sz L'79) := by rw [ze83]; exact va_up_self _ _ _
                have zK90 : zh82 r = some (.inr (6, [.ref (r + 1), .int (nI nn), .int bits])) := by rw [ze83]; rw [va_up_ne _ _ (show r ≠ t + 1 by omega)]; rw [va_up_ne _ _ (show r ≠ t by omega)]; exact K2
                have zK91 : zh82 (r + 1) = arI κ 50 b := by rw [ze83]; rw [va_up_ne _ _ (show r + 1 ≠ t + 1 by omega)]; rw [va_up_ne _ _ (show r + 1 ≠ t by omega)]; exact K3
                obtain ⟨ga0, gb0, gc0, gd0, ge0, gf0, gg0⟩ := id zf86
                refine z_if_eq X 139 dX9_single_132 (by decide) (fun zc92 => ?_) (fun zc92 => ?_)
                · replace zc92 := b2i_f zc92
                  refine z_iconst (v := 0) X dX9_single_139 (by decide) ?_
                  refine z_zret X E dX9_single_140 (by first | rfl | exact b2i_nar _) (by omega) (by omega) ⟨p'78, L'79, f'80, k'81, ?_, ?_, ?_, ?_⟩
                  · first | rw [b2i_1 (by assumption)] | rw [b2i_0 (by assumption)]
                  · funext zz; by_cases zq1 : zz = t + 1; (rw [zq1, va_up_self]; exact zK89); by_cases zq0 : zz = t; (rw [zq0, va_up_ne _ _ (show t ≠ t + 1 by omega), va_up_self]; exact zK88); rw [va_up_ne _ _ zq1, va_up_ne _ _ zq0]; rw [ze83]; simp only [va_up, if_neg zq0, if_neg zq1]
                  · rfl
                  · exact ⟨ga0, gb0, gc0, gd0, ge0, gf0, gg0⟩
                · replace zc92 := b2i_t zc92
                  refine z_iconst (v := 1) X dX9_single_135 (by decide) ?_
                  refine z_goto X 140 dX9_single_136 (by decide) ?_
                  refine z_zret X E dX9_single_140 (by first | rfl | exact b2i_nar _) (by omega) (by omega) ⟨p'78, L'79, f'80, k'81, ?_, ?_, ?_, ?_⟩
                  · first | rw [b2i_1 (by assumption)] | rw [b2i_0 (by assumption)]
                  · funext zz; by_cases zq1 : zz = t + 1; (rw [zq1, va_up_self]; exact zK89); by_cases zq0 : zz = t; (rw [zq0, va_up_ne _ _ (show t ≠ t + 1 by omega), va_up_self]; exact zK88); rw [va_up_ne _ _ zq1, va_up_ne _ _ zq0]; rw [ze83]; simp only [va_up, if_neg zq0, if_neg zq1]
                  · rfl
                  · exact ⟨ga0, gb0, gc0, gd0, ge0, gf0, gg0⟩
            · replace zc71 := b2i_t zc71
              have h33 := zc71
              have hin := tk_in (show ¬ tk b nn p none = -1 by rw [h33]; decide)
              refine z_aload_n X 0 dX9_single_87 rfl ?_
              refine z_dup X dX9_single_88 rfl ?_
              refine z_get X fl_X9_22_9 dX9_single_89 K0 rfl ?_
              refine z_iconst (v := 1) X dX9_single_92 (by decide) ?_
              refine z_iadd X dX9_single_93 ?_
              refine z_toe (y := nI (p + 1)) (nI_add (p) (1)) ?_
              refine z_put X fp_X9_22_9 dX9_single_94 K0 (by first | rfl | decide) (by first | rfl | decide) (Nat.le_of_ble_eq_true rfl) rfl ?_
              obtain ⟨zh93, ze94⟩ : ∃ z : Mm, z = va_up h t (some (.inr (9, [.ref (t + 1), .ref (t + 2), .int (nI sz), .int (nI (p + 1)), .int tp]))) := ⟨_, rfl⟩
              refine z_heap (h' := zh93) ze94.symm ?_
              have zK95 := up_at ze94
              have zK96 := up_off ze94 (show t + 1 ≠ t by omega) K1
              have zK97 := up_off ze94 (show r ≠ t by omega) K2
              have zK98 := up_off ze94 (show r + 1 ≠ t by omega) K3
              refine z_aload_n X 0 dX9_single_97 rfl ?_
              refine z_aload_n X 1 dX9_single_98 rfl ?_
              refine z_iload_n X 2 dX9_single_99 rfl ?_
              refine z_iconst (v := 1) X dX9_single_100 (by decide) ?_
              refine z_iadd X dX9_single_101 ?_
              refine z_toe (y := nI (k + 1)) (nI_add (k) (1)) ?_
              refine z_callV X (PaC.use hU (κ := κ) (n := n) (t := (t)) (r := (r)) (nn := (nn)) (p := (p + 1)) (sz := (sz)) (k := (k + 1)) (b := (b)) (st := (st)) (tp := (tp)) (bits := (bits)) zK95 zK96 zK97 zK98 (by first | assumption | omega) (by omega) (by omega) (by omega) (by first | assumption | omega)) mk_X9_single dX9_single_102 wd_553 wd_555 wd_10 rfl zK95 rfl rfl rfl (Nat.le_of_ble_eq_true rfl) (by omega) (Nat.le_of_ble_eq_true rfl) (by omega) (by omega) (fun q zh103 zm105 zp106 => ?_)
              obtain ⟨p'99, L'100, f'101, k'102, rfl, ze104, zn108, zf107⟩ := zp106
              subst zm105
              refine z_st (st' := [.int (b2i (f'101 = none))]) rfl ?_
              have zK109 : zh103 t = some (.inr (9, [.ref (t + 1), .ref (t + 2), .int (nI (sz + (L'100 : _).length)), .int (nI p'99), .int tp])) := by rw [ze104]; rw [va_up_ne _ _ (show t ≠ t + 1 by omega)]; exact va_up_self _ _ _
              have zK110 : zh103 (t + 1) = arI κ 50 (wrs st sz L'100) := by rw [ze104]; exact va_up_self _ _ _
              have zK111 : zh103 r = some (.inr (6, [.ref (r + 1), .int (nI nn), .int bits])) := by rw [ze104]; rw [va_up_ne _ _ (show r ≠ t + 1 by omega)]; rw [va_up_ne _ _ (show r ≠ t by omega)]; exact zK97
              have zK112 : zh103 (r + 1) = arI κ 50 b := by rw [ze104]; rw [va_up_ne _ _ (show r + 1 ≠ t + 1 by omega)]; rw [va_up_ne _ _ (show r + 1 ≠ t by omega)]; exact zK98
              obtain ⟨ga0, gb0, gc0, gd0, ge0, gf0, gg0⟩ := id zf107
              refine z_istore_n (ls' := [(3, .int (b2i (f'101 = none))), (0, .ref t), (1, .ref r), (2, .int (nI k))]) X dX9_single_105 (by decide) rfl ?_
              refine z_aload_n X 1 dX9_single_106 rfl ?_
              refine z_bipush (v := -33) X dX9_single_107 (by decide) ?_
              refine z_callV X (t_step (κ := κ) (n := n) (t := (t)) (sz := (sz + (L'100 : _).length)) (st := (wrs st sz L'100)) (pl := (nI p'99)) (tp := (tp)) (v := (-33)) zK109 zK110 (by omega)) mk_X9_step dX9_single_109 wd_567 wd_569 wd_13 rfl zK109 rfl rfl rfl (Nat.le_of_ble_eq_true rfl) (by omega) (Nat.le_of_ble_eq_true rfl) (by omega) (by omega) (fun q zh113 zm115 zp116 => ?_)
              obtain ⟨rfl, ze114, zn117⟩ := zp116
              subst zm115
              refine z_st (st' := []) rfl ?_
              have zK118 : zh113 t = some (.inr (9, [.ref (t + 1), .ref (t + 2), .int (nI ((sz + (L'100 : _).length) + 1)), .int ((nI p'99)), .int tp])) := by rw [ze114]; rw [va_up_ne _ _ (show t ≠ t + 1 by omega)]; exact va_up_self _ _ _
              have zK119 : zh113 (t + 1) = arI κ 50 (upd (wrs st sz L'100) (sz + (L'100 : _).length) (-33)) := by rw [ze114]; exact va_up_self _ _ _
              have zK120 : zh113 r = some (.inr (6, [.ref (r + 1), .int (nI nn), .int bits])) := by rw [ze114]; rw [va_up_ne _ _ (show r ≠ t + 1 by omega)]; rw [va_up_ne _ _ (show r ≠ t by omega)]; exact zK111
              have zK121 : zh113 (r + 1) = arI κ 50 b := by rw [ze114]; rw [va_up_ne _ _ (show r + 1 ≠ t + 1 by omega)]; rw [va_up_ne _ _ (show r + 1 ≠ t by omega)]; exact zK112
              refine z_iload_n X 0 dX9_single_112 rfl ?_
              refine z_zret X E dX9_single_113 (by first | rfl | exact b2i_nar _) (by omega) (by omega) ⟨p'99, (L'100 ++ [-33]), f'101, k'102 - 1, ?_, ?_, ?_, ?_⟩
              · rfl
              · rw [show wrs st sz (L'100 ++ [-33]) = upd (wrs st sz L'100) (sz + L'100.length) (-33) from wrs_app _ _ _ _, show sz + (L'100 ++ [(-33 : Int32)]).length = sz + L'100.length + 1 from (by simp only [List.length_append, List.length_cons, List.length_nil]; omega)]; funext zz; by_cases zq1 : zz = t + 1; (rw [zq1, va_up_self]; exact zK119); by_cases zq0 : zz = t; (rw [zq0, va_up_ne _ _ (show t ≠ t + 1 by omega), va_up_self]; exact zK118); rw [va_up_ne _ _ zq1, va_up_ne _ _ zq0]; rw [ze114, ze104, ze94]; simp only [va_up, if_neg zq0, if_neg zq1]
              · rfl
              · exact ⟨by omega, by omega, (by simp only [List.length_append, List.length_cons, List.length_nil]; omega), gd0, fun zq => (by have := ge0 zq; omega), mem_app2 gf0 okS_b, fun nm => (by (obtain ⟨v, ev, gv1⟩ := gg0 nm; exact ⟨b2i (v = 0), unitS_b h33 ev, fun zq => Good_not (gv1 zq)⟩))⟩
          · try replace zc65 := mt (nI_ltI (a := k) (b := 5) (by omega) (by omega)).mpr zc65
            (exfalso; omega)
        · replace zc64 := b2i_t zc64
          have hch := zc64
          have hin := tk_in (show ¬ tk b nn p none = -1 by rw [hch]; decide)
          refine z_aload_n X 0 dX9_single_45 rfl ?_
          refine z_aload_n X 1 dX9_single_46 rfl ?_
          refine z_aload_n X 0 dX9_single_47 rfl ?_
          refine z_get X fl_X9_22_9 dX9_single_48 K0 rfl ?_
          refine z_callV X (c_Row_at (κ := κ) (n := n) (r := (r)) (k := (nn)) (bt := (bits)) (i := (nI p)) (N := (50)) (f := (b)) K2 K3 (by first | assumption | omega) (by first | assumption | omega)) mk_X6_at dX9_single_51 wd_561 wd_299 wd_300 rfl K2 rfl rfl rfl (Nat.le_of_ble_eq_true rfl) (by omega) (Nat.le_of_ble_eq_true rfl) (by omega) (by omega) (fun q zh122 zm124 zp125 => ?_)
          obtain ⟨rfl, ze123, zn126⟩ := zp125
          subst zm124
          subst zh122
          refine z_st (st' := [.int (rowAt nn b (nI p)), .ref t]) rfl ?_
          refine z_toe (y := tk b nn p none) (at_tk hin.1 e1) ?_
          refine z_ineg X dX9_single_54 ?_
          refine z_callV X (t_step (κ := κ) (n := n) (t := (t)) (sz := (sz)) (st := (st)) (pl := (nI p)) (tp := (tp)) (v := (-(tk b nn p none))) K0 K1 (by omega)) mk_X9_step dX9_single_55 wd_567 wd_569 wd_13 rfl K0 rfl rfl rfl (Nat.le_of_ble_eq_true rfl) (by omega) (Nat.le_of_ble_eq_true rfl) (by omega) (by omega) (fun q zh127 zm129 zp130 => ?_)
          obtain ⟨rfl, ze128, zn131⟩ := zp130
          subst zm129
          refine z_st (st' := []) rfl ?_
          have zK132 : zh127 t = some (.inr (9, [.ref (t + 1), .ref (t + 2), .int (nI (sz + 1)), .int ((nI p)), .int tp])) := by rw [ze128]; rw [va_up_ne _ _ (show t ≠ t + 1 by omega)]; exact va_up_self _ _ _
          have zK133 : zh127 (t + 1) = arI κ 50 (upd st sz (-(tk b nn p none))) := by rw [ze128]; exact va_up_self _ _ _
          have zK134 : zh127 r = some (.inr (6, [.ref (r + 1), .int (nI nn), .int bits])) := by rw [ze128]; rw [va_up_ne _ _ (show r ≠ t + 1 by omega)]; rw [va_up_ne _ _ (show r ≠ t by omega)]; exact K2
          have zK135 : zh127 (r + 1) = arI κ 50 b := by rw [ze128]; rw [va_up_ne _ _ (show r + 1 ≠ t + 1 by omega)]; rw [va_up_ne _ _ (show r + 1 ≠ t by omega)]; exact K3
          refine z_aload_n X 0 dX9_single_58 rfl ?_
          refine z_dup X dX9_single_59 rfl ?_
          refine z_get X fl_X9_22_9 dX9_single_60 zK132 rfl ?_
          refine z_iconst (v := 1) X dX9_single_63 (by decide) ?_
          refine z_iadd X dX9_single_64 ?_
          refine z_toe (y := nI (p + 1)) (nI_add (p) (1)) ?_
          refine z_put X fp_X9_22_9 dX9_single_65 zK132 (by first | rfl | decide) (by first | rfl | decide) (Nat.le_of_ble_eq_true rfl) rfl ?_
          obtain ⟨zh136, ze137⟩ : ∃ z : Mm, z = va_up zh127 t (some (.inr (9, [.ref (t + 1), .ref (t + 2), .int (nI (sz + 1)), .int (nI (p + 1)), .int tp]))) := ⟨_, rfl⟩
          refine z_heap (h' := zh136) ze137.symm ?_
          have zK138 := up_at ze137
          have zK139 := up_off ze137 (show t + 1 ≠ t by omega) zK133
          have zK140 := up_off ze137 (show r ≠ t by omega) zK134
          have zK141 := up_off ze137 (show r + 1 ≠ t by omega) zK135
          refine z_iconst (v := 1) X dX9_single_68 (by decide) ?_
          refine z_zret X E dX9_single_69 (by first | rfl | exact b2i_nar _) (by omega) (by omega) ⟨p + 1, [-99], none, k, ?_, ?_, ?_, ?_⟩
          · rfl
          · rw [show wrs st sz [-99] = upd st sz (-tk b nn p none) from (by rw [hch]; rfl), show sz + ([-99] : List Int32).length = sz + 1 from rfl]; funext zz; by_cases zq1 : zz = t + 1; (rw [zq1, va_up_self]; exact zK139); by_cases zq0 : zz = t; (rw [zq0, va_up_ne _ _ (show t ≠ t + 1 by omega), va_up_self]; exact zK138); rw [va_up_ne _ _ zq1, va_up_ne _ _ zq0]; rw [ze137, ze128]; simp only [va_up, if_neg zq0, if_neg zq1]
          · rfl
          · exact ⟨by omega, by omega, (by show p + 1 ≤ _; omega), Or.inl rfl, fun _ => rfl, mem_one okS_c, fun nm => ⟨nm 2, (unit_leaf (by (rw [hch]; decide)) (by (rw [hch]; decide))).trans ((leafU_nm (by (rw [hch]; decide))).trans (by rw [hch]; rfl)), fun _ => Good_c⟩⟩
  · replace zc6 := b2i_t zc6
    have hdg := zc6
    refine z_aload_n X 0 dX9_single_8 rfl ?_
    refine z_aload_n X 1 dX9_single_9 rfl ?_
    refine z_callV X (t_number (κ := κ) (n := n) (t := (t)) (r := (r)) (nn := (nn)) (p := (p)) (sz := (sz)) (b := (b)) (st := (st)) (tp := (tp)) (bits := (bits)) K0 K1 K2 K3 (by first | assumption | omega) (by first | assumption | omega) (by first | assumption | omega) (by first | assumption | omega) (hdg)) mk_X9_number dX9_single_10 wd_563 wd_565 wd_12 rfl K0 rfl rfl rfl (Nat.le_of_ble_eq_true rfl) (by omega) (Nat.le_of_ble_eq_true rfl) (by omega) (by omega) (fun q zh144 zm146 zp147 => ?_)
    obtain ⟨p'142, v'143, rfl, ze145, zn151, zf148, zf149, zf150⟩ := zp147
    subst zm146
    refine z_st (st' := []) rfl ?_
    have zK152 : zh144 t = some (.inr (9, [.ref (t + 1), .ref (t + 2), .int (nI (sz + 1)), .int (nI p'142), .int tp])) := by rw [ze145]; rw [va_up_ne _ _ (show t ≠ t + 1 by omega)]; exact va_up_self _ _ _
    have zK153 : zh144 (t + 1) = arI κ 50 (upd st sz v'143) := by rw [ze145]; exact va_up_self _ _ _
    have zK154 : zh144 r = some (.inr (6, [.ref (r + 1), .int (nI nn), .int bits])) := by rw [ze145]; rw [va_up_ne _ _ (show r ≠ t + 1 by omega)]; rw [va_up_ne _ _ (show r ≠ t by omega)]; exact K2
    have zK155 : zh144 (r + 1) = arI κ 50 b := by rw [ze145]; rw [va_up_ne _ _ (show r + 1 ≠ t + 1 by omega)]; rw [va_up_ne _ _ (show r + 1 ≠ t by omega)]; exact K3
    skip
    refine z_iconst (v := 1) X dX9_single_13 (by decide) ?_
    refine z_zret X E dX9_single_14 (by first | rfl | exact b2i_nar _) (by omega) (by omega) ⟨p'142, [v'143], none, k, ?_, ?_, ?_, ?_⟩
    · rfl
    · rw [show wrs st sz [v'143] = upd st sz v'143 from rfl, show sz + [v'143].length = sz + 1 from rfl]; funext zz; by_cases zq1 : zz = t + 1; (rw [zq1, va_up_self]; exact zK153); by_cases zq0 : zz = t; (rw [zq0, va_up_ne _ _ (show t ≠ t + 1 by omega), va_up_self]; exact zK152); rw [va_up_ne _ _ zq1, va_up_ne _ _ zq0]; rw [ze145]; simp only [va_up, if_neg zq0, if_neg zq1]
    · rfl
    · exact ⟨by omega, by omega, (by show p + 1 ≤ _; omega), Or.inl rfl, fun _ => rfl, mem_one (okS_n (neg_le0 (g := 0) zf150)), fun nm => ⟨v'143, (unit_leaf (dig_no33 hdg).1 (dig_no33 hdg).2.1).trans (leafU_n (dig_no33 hdg).2.2 zf148 (by omega)), fun _ => Good_num (neg_le0 (g := 0) zf150)⟩⟩
theorem pa_chain {κ : Wc} {l : Launch} {j dd : Nat} (hdd : 5 ≤ dd) (hU : PaC κ l yX9_single cX9_single 4 dd j (unitF j)) : PaC κ l yX9_anyOf cX9_anyOf 5 (dd + 5) j (evE j) := pa_anyOf (by omega) (pa_allOf (by omega) (pa_compared (by omega) (pa_sum (by omega) (pa_product (by omega) hU))))
theorem pa_single {κ : Wc} {l : Launch} : ∀ j, PaC κ l yX9_single cX9_single 4 (7 * j + 5) j (unitF j) := by
  intro j
  induction j with
  | zero => exact pa_single0
  | succ j ih => exact pa_singleS (by omega) ih (pa_inside (by omega) (pa_chain (by omega) ih))
theorem pa_top {κ : Wc} {l : Launch} : PaC κ l yX9_anyOf cX9_anyOf 5 45 5 (evE 5) := pa_chain (dd := 40) (by omega) (pa_single 5)
