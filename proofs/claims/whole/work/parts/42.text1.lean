/-! texts: a stack, and steps over it -/
abbrev Sk : Type := (Nat → Int32) × Nat
def skPush (v : Int32) (s : Sk) : Sk := if s.2 < 50 then (upd s.1 s.2 v, s.2 + 1) else s
def skPop (s : Sk) : Int32 × Sk := if s.2 = 0 then (0, s) else (s.1 (s.2 - 1), (s.1, s.2 - 1))
theorem skPush_t {v : Int32} {s : Sk} (h : s.2 < 50) : skPush v s = (upd s.1 s.2 v, s.2 + 1) := if_pos h
theorem skPush_f {v : Int32} {s : Sk} (h : ¬ s.2 < 50) : skPush v s = s := if_neg h
theorem skPop_t {s : Sk} (h : s.2 = 0) : skPop s = (0, s) := if_pos h
theorem skPop_f {s : Sk} (h : ¬ s.2 = 0) : skPop s = (s.1 (s.2 - 1), (s.1, s.2 - 1)) := if_neg h
theorem skPush_le {v : Int32} {s : Sk} (h : s.2 ≤ 50) : (skPush v s).2 ≤ 50 := by
  by_cases q : s.2 < 50
  · rw [skPush_t q]; exact q
  · rw [skPush_f q]; exact h
theorem skPop_le {s : Sk} (h : s.2 ≤ 50) : (skPop s).2.2 ≤ 50 := by
  by_cases q : s.2 = 0
  · rw [skPop_t q]; exact h
  · rw [skPop_f q]; exact Nat.le_trans (Nat.sub_le _ _) h
abbrev isOp (c : Int32) : Prop := c = 43 ∨ c = 45 ∨ c = 42 ∨ c = 47 ∨ c = 37 ∨ c = 60 ∨ c = 61 ∨ c = 62 ∨ c = 38 ∨ c = 124
def wkO (c a b : Int32) : Int32 := if c = 43 then a + b else if c = 45 then a - b else if c = 42 then a * b else if c = 47 then (if b = 0 then 0 else a / b) else if c = 37 then (if b = 0 then 0 else a - a / b * b) else if c = 60 then b2i (a < b) else if c = 61 then b2i (a = b) else if c = 62 then b2i (b < a) else if c = 38 then b2i (¬ a = 0 ∧ ¬ b = 0) else b2i (¬ a = 0 ∨ ¬ b = 0)
section WK
variable (a b : Int32)
theorem wkO_43 : wkO 43 a b = a + b := rfl
theorem wkO_45 : wkO 45 a b = a - b := rfl
theorem wkO_42 : wkO 42 a b = a * b := rfl
theorem wkO_47 : wkO 47 a b = if b = 0 then 0 else a / b := rfl
theorem wkO_37 : wkO 37 a b = if b = 0 then 0 else a - a / b * b := rfl
theorem wkO_60 : wkO 60 a b = b2i (a < b) := rfl
theorem wkO_61 : wkO 61 a b = b2i (a = b) := rfl
theorem wkO_62 : wkO 62 a b = b2i (b < a) := rfl
theorem wkO_38 : wkO 38 a b = b2i (¬ a = 0 ∧ ¬ b = 0) := rfl
theorem wkO_124 : wkO 124 a b = b2i (¬ a = 0 ∨ ¬ b = 0) := rfl
end WK
/-- one step -/
def exS (nm : Nat → Int32) (x : Int32) (s : Sk) : Sk := if -x ≤ 0 then skPush x s else if -x = 116 then skPush (nm 0) s else if -x = 119 then skPush (nm 1) s else if -x = 99 then skPush (nm 2) s else if -x = 33 then skPush (b2i ((skPop s).1 = 0)) (skPop s).2 else skPush (wkO (-x) (skPop (skPop s).2).1 (skPop s).1) (skPop (skPop s).2).2
def exL (nm : Nat → Int32) : List Int32 → Sk → Sk
  | [], s => s
  | x :: L, s => exL nm L (exS nm x s)
theorem exL_app (nm : Nat → Int32) : ∀ (L M : List Int32) (s : Sk), exL nm (L ++ M) s = exL nm M (exL nm L s) := by
  intro L
  induction L with
  | nil => intro M s; rfl
  | cons x L ih => intro M s; exact ih M (exS nm x s)
theorem exS_le {nm : Nat → Int32} {x : Int32} {s : Sk} (h : s.2 ≤ 50) : (exS nm x s).2 ≤ 50 := by
  unfold exS
  have h1 := skPop_le h
  have h2 := skPop_le h1
  repeat' split
  all_goals (first | exact skPush_le h | exact skPush_le h1 | exact skPush_le h2)
/-- the steps leave just this value on the stack -/
def Good (nm : Nat → Int32) (L : List Int32) (v : Int32) : Prop := ∀ (sk : Nat → Int32) (tp : Nat), tp + L.length ≤ 50 → ∃ sk2 : Nat → Int32, exL nm L (sk, tp) = (sk2, tp + 1) ∧ sk2 tp = v ∧ ∀ q, q < tp → sk2 q = sk q
theorem Good_push {nm : Nat → Int32} {x v : Int32} (h : ∀ s, exS nm x s = skPush v s) : Good nm [x] v := by
  intro sk tp ht
  have ht2 : tp < 50 := ht
  refine ⟨upd sk tp v, ?_, pk_us, fun q hq => pk_un (by omega)⟩
  show exS nm x (sk, tp) = _
  rw [h, skPush_t ht2]
theorem Good_num {nm : Nat → Int32} {v : Int32} (h : -v ≤ 0) : Good nm [v] v := Good_push (fun s => if_pos h)
theorem Good_t {nm : Nat → Int32} : Good nm [-116] (nm 0) := Good_push (fun s => by unfold exS; rw [if_neg (by decide), if_pos (by decide)])
theorem Good_w {nm : Nat → Int32} : Good nm [-119] (nm 1) := Good_push (fun s => by unfold exS; rw [if_neg (by decide), if_neg (by decide), if_pos (by decide)])
theorem Good_c {nm : Nat → Int32} : Good nm [-99] (nm 2) := Good_push (fun s => by unfold exS; rw [if_neg (by decide), if_neg (by decide), if_neg (by decide), if_pos (by decide)])
theorem Good_ne {nm : Nat → Int32} {L : List Int32} {v : Int32} (h : Good nm L v) : 1 ≤ L.length := by
  cases L with
  | nil =>
    obtain ⟨sk2, h1, -⟩ := h (fun _ => 0) 0 (Nat.zero_le _)
    have : (0 : Nat) = 0 + 1 := congrArg Prod.snd h1
    omega
  | cons x L => exact Nat.succ_le_succ (Nat.zero_le _)
theorem exS_not {nm : Nat → Int32} {s : Sk} : exS nm (-33) s = skPush (b2i ((skPop s).1 = 0)) (skPop s).2 := by
  unfold exS
  rw [if_neg (by decide), if_neg (by decide), if_neg (by decide), if_neg (by decide), if_pos (by decide)]
theorem exS_bin {nm : Nat → Int32} {c : Int32} {s : Sk} (hc : isOp c) : exS nm (-c) s = skPush (wkO c (skPop (skPop s).2).1 (skPop s).1) (skPop (skPop s).2).2 := by
  rcases hc with rfl | rfl | rfl | rfl | rfl | rfl | rfl | rfl | rfl | rfl <;> (unfold exS; rw [if_neg (by decide), if_neg (by decide), if_neg (by decide), if_neg (by decide), if_neg (by decide)]; rfl)
theorem Good_not {nm : Nat → Int32} {L : List Int32} {v : Int32} (h : Good nm L v) : Good nm (L ++ [-33]) (b2i (v = 0)) := by
  intro sk tp ht
  rw [List.length_append] at ht
  have ht2 : tp + L.length + 1 ≤ 50 := ht
  have hn := Good_ne h
  obtain ⟨sk2, h1, h2, h3⟩ := h sk tp (by omega)
  refine ⟨upd sk2 tp (b2i (v = 0)), ?_, pk_us, fun q hq => (pk_un (by omega)).trans (h3 q hq)⟩
  rw [exL_app, h1]
  show exS nm (-33) (sk2, tp + 1) = _
  have hp : skPop (sk2, tp + 1) = (v, (sk2, tp)) := by
    rw [skPop_f (show ¬ tp + 1 = 0 by omega)]
    show (sk2 (tp + 1 - 1), sk2, tp + 1 - 1) = _
    rw [Nat.add_sub_cancel, h2]
  rw [exS_not, hp, skPush_t (show tp < 50 by omega)]
theorem Good_bin {nm : Nat → Int32} {L M : List Int32} {v w c : Int32} (hL : Good nm L v) (hM : Good nm M w) (hc : isOp c) : Good nm (L ++ M ++ [-c]) (wkO c v w) := by
  intro sk tp ht
  rw [List.length_append, List.length_append] at ht
  have ht2 : tp + (L.length + M.length + 1) ≤ 50 := ht
  have hn := Good_ne hL
  have hn2 := Good_ne hM
  obtain ⟨sk2, h1, h2, h3⟩ := hL sk tp (by omega)
  obtain ⟨sk3, g1, g2, g3⟩ := hM sk2 (tp + 1) (by omega)
  refine ⟨upd sk3 tp (wkO c v w), ?_, pk_us, fun q hq => (pk_un (by omega)).trans ((g3 q (by omega)).trans (h3 q hq))⟩
  rw [exL_app, exL_app, h1, g1]
  show exS nm (-c) (sk3, tp + 1 + 1) = _
  have hp : skPop (sk3, tp + 1 + 1) = (w, (sk3, tp + 1)) := by
    rw [skPop_f (show ¬ tp + 1 + 1 = 0 by omega)]
    show (sk3 (tp + 1 + 1 - 1), sk3, tp + 1 + 1 - 1) = _
    rw [Nat.add_sub_cancel, g2]
  have hp2 : skPop (sk3, tp + 1) = (v, (sk3, tp)) := by
    rw [skPop_f (show ¬ tp + 1 = 0 by omega)]
    show (sk3 (tp + 1 - 1), sk3, tp + 1 - 1) = _
    rw [Nat.add_sub_cancel, g3 tp (by omega), h2]
  rw [exS_bin hc, hp]
  show skPush (wkO c (skPop (sk3, tp + 1)).1 w) (skPop (sk3, tp + 1)).2 = _
  rw [hp2, skPush_t (show tp < 50 by omega)]
theorem wkO_P {c v w : Int32} (h : c = 42 ∨ c = 47 ∨ c = 37) : wkO c v w = opP c v w := by
  rcases h with rfl | rfl | rfl <;> rfl
theorem wkO_S {c v w : Int32} (h : c = 43 ∨ c = 45) : wkO c v w = opS c v w := by
  rcases h with rfl | rfl <;> rfl
theorem wkO_C {c v w : Int32} (h : c = 60 ∨ c = 61 ∨ c = 62) : wkO c v w = opC c v w := by
  rcases h with rfl | rfl | rfl
  · rw [wkO_60, opC]; exact b2i_iff ⟨fun q => Or.inl ⟨rfl, q⟩, fun q => q.elim (fun z => z.2) (fun z => z.elim (fun y => absurd y.1 (by decide)) (fun y => absurd y.1 (by decide)))⟩
  · rw [wkO_61, opC]; exact b2i_iff ⟨fun q => Or.inr (Or.inl ⟨rfl, q⟩), fun q => q.elim (fun z => absurd z.1 (by decide)) (fun z => z.elim (fun y => y.2) (fun y => absurd y.1 (by decide)))⟩
  · rw [wkO_62, opC]; exact b2i_iff ⟨fun q => Or.inr (Or.inr ⟨rfl, q⟩), fun q => q.elim (fun z => absurd z.1 (by decide)) (fun z => z.elim (fun y => absurd y.1 (by decide)) (fun y => y.2))⟩
theorem neg_neg' (x : Int32) : -(-x) = x := by
  rw [i_eq, Int32.toInt_neg, Int32.toInt_neg]
  have a := i_lo x
  have b := i_hi x
  rw [Int.bmod_def, Int.bmod_def]
  omega
set_option maxHeartbeats 4000000 in
set_option maxRecDepth 100000 in
theorem t_push {κ : Wc} {l : Launch} {h : Mm} {n : Nat} {t : Nat} {s : Sk} {sz : Int32} {pl : Int32} {v : Int32} (K0 : h t = some (.inr (9, [.ref (t + 1), .ref (t + 2), .int sz, .int pl, .int (nI s.2)]))) (K1 : h (t + 2) = arI κ 50 s.1) (p1 : s.2 ≤ 50) : Con κ l yX9_push cX9_push 2 none 1 0 0 [.ref t, .int v] h n (fun q h' n' => q = none ∧ h' = va_up (va_up h t (some (.inr (9, [.ref (t + 1), .ref (t + 2), .int sz, .int pl, .int (nI (skPush v s).2)])))) (t + 2) (arI κ 50 ((skPush v s).1)) ∧ n' = n) := by
  refine Con.of mk_X9_push (Nat.le_of_ble_eq_true rfl) (fun G hG X E => ?_)
  subst hG
  refine z_ls (ls' := [(0, .ref t), (1, .int v)]) rfl ?_
  refine z_aload_n X 0 dX9_push_0 rfl ?_
  refine z_get X fl_X9_25_9 dX9_push_1 K0 rfl ?_
  refine z_aload_n X 0 dX9_push_4 rfl ?_
  refine z_get X fl_X9_15_9 dX9_push_5 K0 rfl ?_
  refine z_alen (t := 0) (v := nI 50) X dX9_push_8 K1 rfl rfl ?_
  refine z_icmp_ge X 32 dX9_push_9 (by decide) (fun zc1 => ?_) (fun zc1 => ?_)
  · try replace zc1 := (nI_leI (a := 50) (b := s.2) (by omega) (by omega)).mp zc1
    refine z_vret X E dX9_push_32 (by omega) (by omega) ⟨?_, ?_, ?_⟩
    · rfl
    · rw [skPush_f (by omega)]; funext zz; by_cases zq1 : zz = t + 2; (rw [zq1, va_up_self]; exact K1); by_cases zq0 : zz = t; (rw [zq0, va_up_ne _ _ (show t ≠ t + 2 by omega), va_up_self]; exact K0); rw [va_up_ne _ _ zq1, va_up_ne _ _ zq0]
    · rfl
  · try replace zc1 := mt (nI_leI (a := 50) (b := s.2) (by omega) (by omega)).mpr zc1
    refine z_aload_n X 0 dX9_push_12 rfl ?_
    refine z_get X fl_X9_15_9 dX9_push_13 K0 rfl ?_
    refine z_aload_n X 0 dX9_push_16 rfl ?_
    refine z_get X fl_X9_25_9 dX9_push_17 K0 rfl ?_
    refine z_iload_n X 1 dX9_push_20 rfl ?_
    refine z_iast X dX9_push_21 K1 (vp_in_nI (n := s.2) (by omega) (by omega)) (congrArg (fun z => va_up h (t + 2) (arI κ 50 (upd s.1 z v))) (nI_clamp (n := s.2) (by omega))) ?_
    obtain ⟨zh2, ze3⟩ : ∃ z : Mm, z = va_up h (t + 2) (arI κ 50 (upd s.1 s.2 v)) := ⟨_, rfl⟩
    refine z_heap (h' := zh2) ze3.symm ?_
    have zK4 := up_off ze3 (show t ≠ t + 2 by omega) K0
    have zK5 := up_at ze3
    refine z_aload_n X 0 dX9_push_22 rfl ?_
    refine z_dup X dX9_push_23 rfl ?_
    refine z_get X fl_X9_25_9 dX9_push_24 zK4 rfl ?_
    refine z_iconst (v := 1) X dX9_push_27 (by decide) ?_
    refine z_iadd X dX9_push_28 ?_
    refine z_toe (y := nI (s.2 + 1)) (nI_add (s.2) (1)) ?_
    refine z_put X fp_X9_25_9 dX9_push_29 zK4 (by first | rfl | decide) (by first | rfl | decide) (Nat.le_of_ble_eq_true rfl) rfl ?_
    obtain ⟨zh6, ze7⟩ : ∃ z : Mm, z = va_up zh2 t (some (.inr (9, [.ref (t + 1), .ref (t + 2), .int sz, .int pl, .int (nI (s.2 + 1))]))) := ⟨_, rfl⟩
    refine z_heap (h' := zh6) ze7.symm ?_
    have zK8 := up_at ze7
    have zK9 := up_off ze7 (show t + 2 ≠ t by omega) zK5
    refine z_vret X E dX9_push_32 (by omega) (by omega) ⟨?_, ?_, ?_⟩
    · rfl
    · rw [skPush_t (by omega)]; funext zz; by_cases zq1 : zz = t + 2; (rw [zq1, va_up_self]; exact zK9); by_cases zq0 : zz = t; (rw [zq0, va_up_ne _ _ (show t ≠ t + 2 by omega), va_up_self]; exact zK8); rw [va_up_ne _ _ zq1, va_up_ne _ _ zq0]; rw [ze7, ze3]; simp only [va_up, if_neg zq0, if_neg zq1]
    · rfl
set_option maxHeartbeats 4000000 in
set_option maxRecDepth 100000 in
theorem t_pop {κ : Wc} {l : Launch} {h : Mm} {n : Nat} {t : Nat} {s : Sk} {sz : Int32} {pl : Int32} (K0 : h t = some (.inr (9, [.ref (t + 1), .ref (t + 2), .int sz, .int pl, .int (nI s.2)]))) (K1 : h (t + 2) = arI κ 50 s.1) (p1 : s.2 ≤ 50) : Con κ l yX9_pop cX9_pop 1 (some .int) 1 0 0 [.ref t] h n (fun q h' n' => q = some (.int ((skPop s).1)) ∧ h' = va_up (va_up h t (some (.inr (9, [.ref (t + 1), .ref (t + 2), .int sz, .int pl, .int (nI ((skPop s).2).2)])))) (t + 2) (arI κ 50 (((skPop s).2).1)) ∧ n' = n) := by
  refine Con.of mk_X9_pop (Nat.le_of_ble_eq_true rfl) (fun G hG X E => ?_)
  subst hG
  refine z_ls (ls' := [(0, .ref t)]) rfl ?_
  refine z_aload_n X 0 dX9_pop_0 rfl ?_
  refine z_get X fl_X9_25_9 dX9_pop_1 K0 rfl ?_
  refine z_if_gt X 9 dX9_pop_4 (by decide) (fun zc1 => ?_) (fun zc1 => ?_)
  · try replace zc1 := (nI_ltI (a := 0) (b := s.2) (by omega) (by omega)).mp zc1
    refine z_aload_n X 0 dX9_pop_9 rfl ?_
    refine z_dup X dX9_pop_10 rfl ?_
    refine z_get X fl_X9_25_9 dX9_pop_11 K0 rfl ?_
    refine z_iconst (v := 1) X dX9_pop_14 (by decide) ?_
    refine z_isub X dX9_pop_15 ?_
    refine z_toe (y := nI (s.2 - 1)) (pk_sub (a := s.2) (b := 1) (by omega)) ?_
    refine z_put X fp_X9_25_9 dX9_pop_16 K0 (by first | rfl | decide) (by first | rfl | decide) (Nat.le_of_ble_eq_true rfl) rfl ?_
    obtain ⟨zh2, ze3⟩ : ∃ z : Mm, z = va_up h t (some (.inr (9, [.ref (t + 1), .ref (t + 2), .int sz, .int pl, .int (nI (s.2 - 1))]))) := ⟨_, rfl⟩
    refine z_heap (h' := zh2) ze3.symm ?_
    have zK4 := up_at ze3
    have zK5 := up_off ze3 (show t + 2 ≠ t by omega) K1
    refine z_aload_n X 0 dX9_pop_19 rfl ?_
    refine z_get X fl_X9_15_9 dX9_pop_20 zK4 rfl ?_
    refine z_aload_n X 0 dX9_pop_23 rfl ?_
    refine z_get X fl_X9_25_9 dX9_pop_24 zK4 rfl ?_
    refine z_iald2 (v := s.1 (s.2 - 1)) X dX9_pop_27 zK5 (vp_in_nI (n := s.2 - 1) (by omega) (by omega)) (congrArg s.1 (nI_clamp (n := s.2 - 1) (by omega))) ?_
    refine z_iret X E dX9_pop_28 (by omega) (by omega) ⟨?_, ?_, ?_⟩
    · first | rw [skPop_f (by omega)] | rw [skPop_t (by omega)]
    · rw [skPop_f (by omega)]; funext zz; by_cases zq1 : zz = t + 2; (rw [zq1, va_up_self]; exact zK5); by_cases zq0 : zz = t; (rw [zq0, va_up_ne _ _ (show t ≠ t + 2 by omega), va_up_self]; exact zK4); rw [va_up_ne _ _ zq1, va_up_ne _ _ zq0]; rw [ze3]; simp only [va_up, if_neg zq0, if_neg zq1]
    · rfl
  · try replace zc1 := mt (nI_ltI (a := 0) (b := s.2) (by omega) (by omega)).mpr zc1
    refine z_iconst (v := 0) X dX9_pop_7 (by decide) ?_
    refine z_iret X E dX9_pop_8 (by omega) (by omega) ⟨?_, ?_, ?_⟩
    · first | rw [skPop_f (by omega)] | rw [skPop_t (by omega)]
    · rw [skPop_t (by omega)]; funext zz; by_cases zq1 : zz = t + 2; (rw [zq1, va_up_self]; exact K1); by_cases zq0 : zz = t; (rw [zq0, va_up_ne _ _ (show t ≠ t + 2 by omega), va_up_self]; exact K0); rw [va_up_ne _ _ zq1, va_up_ne _ _ zq0]
    · rfl
set_option maxHeartbeats 4000000 in
set_option maxRecDepth 100000 in
theorem t_worked {κ : Wc} {l : Launch} {h : Mm} {n : Nat} {c : Int32} {x : Int32} {y : Int32}  (hc : isOp c) : Con κ l yX9_worked cX9_worked 3 (some .int) 1 0 0 [.int c, .int x, .int y] h n (fun q h' n' => q = some (.int (wkO c x y)) ∧ h' = h ∧ n' = n) := by
  refine Con.of mk_X9_worked (Nat.le_of_ble_eq_true rfl) (fun G hG X E => ?_)
  subst hG
  refine z_ls (ls' := [(0, .int c), (1, .int x), (2, .int y)]) rfl ?_
  refine z_iload_n X 0 dX9_worked_0 rfl ?_
  by_cases zc1 : c = 37
  · refine z_tableIn (off := 143) X 144 dX9_worked_1 (by rw [zc1]; decide) (by rw [zc1]; decide) (by rw [zc1]; decide) (by decide) ?_
    refine z_iload_n X 2 dX9_worked_144 rfl ?_
    refine z_if_ne X 152 dX9_worked_145 (by decide) (fun zc2 => ?_) (fun zc2 => ?_)
    · refine z_iload_n X 1 dX9_worked_152 rfl ?_
      refine z_iload_n X 2 dX9_worked_153 rfl ?_
      refine z_irem X dX9_worked_154 (by assumption) ?_
      refine z_iret X E dX9_worked_155 (by omega) (by omega) ⟨?_, ?_, ?_⟩
      · rw [zc1, wkO_37]; first | rw [if_pos (by assumption)] | rw [if_neg (by assumption)]
      · first | rfl | (funext zz; simp only [va_up]; (repeat' split) <;> first | rfl | (exfalso; omega) | simp_all)
      · rfl
    · refine z_iconst (v := 0) X dX9_worked_148 (by decide) ?_
      refine z_goto X 155 dX9_worked_149 (by decide) ?_
      refine z_iret X E dX9_worked_155 (by omega) (by omega) ⟨?_, ?_, ?_⟩
      · rw [zc1, wkO_37]; first | rw [if_pos (by assumption)] | rw [if_neg (by assumption)]
      · first | rfl | (funext zz; simp only [va_up]; (repeat' split) <;> first | rfl | (exfalso; omega) | simp_all)
      · rfl
  by_cases zc3 : c = 38
  · refine z_tableIn (off := 188) X 189 dX9_worked_1 (by rw [zc3]; decide) (by rw [zc3]; decide) (by rw [zc3]; decide) (by decide) ?_
    refine z_iload_n X 1 dX9_worked_189 rfl ?_
    refine z_if_eq X 201 dX9_worked_190 (by decide) (fun zc4 => ?_) (fun zc4 => ?_)
    · refine z_iconst (v := 0) X dX9_worked_201 (by decide) ?_
      refine z_iret X E dX9_worked_202 (by omega) (by omega) ⟨?_, ?_, ?_⟩
      · rw [zc3, wkO_38]; first | exact congrArg (fun z => some (Value.int z)) (b2i_1 (by first | assumption | exact Int32.not_le.mp (by assumption) | exact ⟨by assumption, by assumption⟩ | exact Or.inl (by assumption) | exact Or.inr (by assumption))).symm | exact congrArg (fun z => some (Value.int z)) (b2i_0 (by first | assumption | exact Int32.not_lt.mpr (by assumption) | exact fun q => absurd (by assumption) q.1 | exact fun q => absurd (by assumption) q.2 | exact fun q => q.elim (fun z => z (by assumption)) (fun z => z (by assumption)))).symm
      · first | rfl | (funext zz; simp only [va_up]; (repeat' split) <;> first | rfl | (exfalso; omega) | simp_all)
      · rfl
    · refine z_iload_n X 2 dX9_worked_193 rfl ?_
      refine z_if_eq X 201 dX9_worked_194 (by decide) (fun zc5 => ?_) (fun zc5 => ?_)
      · refine z_iconst (v := 0) X dX9_worked_201 (by decide) ?_
        refine z_iret X E dX9_worked_202 (by omega) (by omega) ⟨?_, ?_, ?_⟩
        · rw [zc3, wkO_38]; first | exact congrArg (fun z => some (Value.int z)) (b2i_1 (by first | assumption | exact Int32.not_le.mp (by assumption) | exact ⟨by assumption, by assumption⟩ | exact Or.inl (by assumption) | exact Or.inr (by assumption))).symm | exact congrArg (fun z => some (Value.int z)) (b2i_0 (by first | assumption | exact Int32.not_lt.mpr (by assumption) | exact fun q => absurd (by assumption) q.1 | exact fun q => absurd (by assumption) q.2 | exact fun q => q.elim (fun z => z (by assumption)) (fun z => z (by assumption)))).symm
        · first | rfl | (funext zz; simp only [va_up]; (repeat' split) <;> first | rfl | (exfalso; omega) | simp_all)
        · rfl
      · refine z_iconst (v := 1) X dX9_worked_197 (by decide) ?_
        refine z_goto X 202 dX9_worked_198 (by decide) ?_
        refine z_iret X E dX9_worked_202 (by omega) (by omega) ⟨?_, ?_, ?_⟩
        · rw [zc3, wkO_38]; first | exact congrArg (fun z => some (Value.int z)) (b2i_1 (by first | assumption | exact Int32.not_le.mp (by assumption) | exact ⟨by assumption, by assumption⟩ | exact Or.inl (by assumption) | exact Or.inr (by assumption))).symm | exact congrArg (fun z => some (Value.int z)) (b2i_0 (by first | assumption | exact Int32.not_lt.mpr (by assumption) | exact fun q => absurd (by assumption) q.1 | exact fun q => absurd (by assumption) q.2 | exact fun q => q.elim (fun z => z (by assumption)) (fun z => z (by assumption)))).symm
        · first | rfl | (funext zz; simp only [va_up]; (repeat' split) <;> first | rfl | (exfalso; omega) | simp_all)
        · rfl
  by_cases zc6 : c = 39
  · (rw [zc6] at hc; exact absurd hc (by decide))
  by_cases zc7 : c = 40
  · (rw [zc7] at hc; exact absurd hc (by decide))
  by_cases zc8 : c = 41
  · (rw [zc8] at hc; exact absurd hc (by decide))
  by_cases zc9 : c = 42
  · refine z_tableIn (off := 127) X 128 dX9_worked_1 (by rw [zc9]; decide) (by rw [zc9]; decide) (by rw [zc9]; decide) (by decide) ?_
    refine z_iload_n X 1 dX9_worked_128 rfl ?_
    refine z_iload_n X 2 dX9_worked_129 rfl ?_
    refine z_imul X dX9_worked_130 ?_
    refine z_iret X E dX9_worked_131 (by omega) (by omega) ⟨?_, ?_, ?_⟩
    · rw [zc9, wkO_42]
    · first | rfl | (funext zz; simp only [va_up]; (repeat' split) <;> first | rfl | (exfalso; omega) | simp_all)
    · rfl
  by_cases zc10 : c = 43
  · refine z_tableIn (off := 119) X 120 dX9_worked_1 (by rw [zc10]; decide) (by rw [zc10]; decide) (by rw [zc10]; decide) (by decide) ?_
    refine z_iload_n X 1 dX9_worked_120 rfl ?_
    refine z_iload_n X 2 dX9_worked_121 rfl ?_
    refine z_iadd X dX9_worked_122 ?_
    refine z_iret X E dX9_worked_123 (by omega) (by omega) ⟨?_, ?_, ?_⟩
    · rw [zc10, wkO_43]
    · first | rfl | (funext zz; simp only [va_up]; (repeat' split) <;> first | rfl | (exfalso; omega) | simp_all)
    · rfl
  by_cases zc11 : c = 44
  · (rw [zc11] at hc; exact absurd hc (by decide))
  by_cases zc12 : c = 45
  · refine z_tableIn (off := 123) X 124 dX9_worked_1 (by rw [zc12]; decide) (by rw [zc12]; decide) (by rw [zc12]; decide) (by decide) ?_
    refine z_iload_n X 1 dX9_worked_124 rfl ?_
    refine z_iload_n X 2 dX9_worked_125 rfl ?_
    refine z_isub X dX9_worked_126 ?_
    refine z_iret X E dX9_worked_127 (by omega) (by omega) ⟨?_, ?_, ?_⟩
    · rw [zc12, wkO_45]
    · first | rfl | (funext zz; simp only [va_up]; (repeat' split) <;> first | rfl | (exfalso; omega) | simp_all)
    · rfl
  by_cases zc13 : c = 46
  · (rw [zc13] at hc; exact absurd hc (by decide))
  by_cases zc14 : c = 47
  · refine z_tableIn (off := 131) X 132 dX9_worked_1 (by rw [zc14]; decide) (by rw [zc14]; decide) (by rw [zc14]; decide) (by decide) ?_
    refine z_iload_n X 2 dX9_worked_132 rfl ?_
    refine z_if_ne X 140 dX9_worked_133 (by decide) (fun zc15 => ?_) (fun zc15 => ?_)
    · refine z_iload_n X 1 dX9_worked_140 rfl ?_
      refine z_iload_n X 2 dX9_worked_141 rfl ?_
      refine z_idiv X dX9_worked_142 (by assumption) ?_
      refine z_iret X E dX9_worked_143 (by omega) (by omega) ⟨?_, ?_, ?_⟩
      · rw [zc14, wkO_47]; first | rw [if_pos (by assumption)] | rw [if_neg (by assumption)]
      · first | rfl | (funext zz; simp only [va_up]; (repeat' split) <;> first | rfl | (exfalso; omega) | simp_all)
      · rfl
    · refine z_iconst (v := 0) X dX9_worked_136 (by decide) ?_
      refine z_goto X 143 dX9_worked_137 (by decide) ?_
      refine z_iret X E dX9_worked_143 (by omega) (by omega) ⟨?_, ?_, ?_⟩
      · rw [zc14, wkO_47]; first | rw [if_pos (by assumption)] | rw [if_neg (by assumption)]
      · first | rfl | (funext zz; simp only [va_up]; (repeat' split) <;> first | rfl | (exfalso; omega) | simp_all)
      · rfl
  by_cases zc16 : c = 48
  · (rw [zc16] at hc; exact absurd hc (by decide))
  by_cases zc17 : c = 49
  · (rw [zc17] at hc; exact absurd hc (by decide))
  by_cases zc18 : c = 50
  · (rw [zc18] at hc; exact absurd hc (by decide))
  by_cases zc19 : c = 51
  · (rw [zc19] at hc; exact absurd hc (by decide))
  by_cases zc20 : c = 52
  · (rw [zc20] at hc; exact absurd hc (by decide))
  by_cases zc21 : c = 53
  · (rw [zc21] at hc; exact absurd hc (by decide))
  by_cases zc22 : c = 54
  · (rw [zc22] at hc; exact absurd hc (by decide))
  by_cases zc23 : c = 55
  · (rw [zc23] at hc; exact absurd hc (by decide))
  by_cases zc24 : c = 56
  · (rw [zc24] at hc; exact absurd hc (by decide))
  by_cases zc25 : c = 57
  · (rw [zc25] at hc; exact absurd hc (by decide))
  by_cases zc26 : c = 58
  · (rw [zc26] at hc; exact absurd hc (by decide))
  by_cases zc27 : c = 59
  · (rw [zc27] at hc; exact absurd hc (by decide))
  by_cases zc28 : c = 60
  · refine z_tableIn (off := 155) X 156 dX9_worked_1 (by rw [zc28]; decide) (by rw [zc28]; decide) (by rw [zc28]; decide) (by decide) ?_
    refine z_iload_n X 1 dX9_worked_156 rfl ?_
    refine z_iload_n X 2 dX9_worked_157 rfl ?_
    refine z_icmp_ge X 165 dX9_worked_158 (by decide) (fun zc29 => ?_) (fun zc29 => ?_)
    · refine z_iconst (v := 0) X dX9_worked_165 (by decide) ?_
      refine z_iret X E dX9_worked_166 (by omega) (by omega) ⟨?_, ?_, ?_⟩
      · rw [zc28, wkO_60]; first | exact congrArg (fun z => some (Value.int z)) (b2i_1 (by first | assumption | exact Int32.not_le.mp (by assumption) | exact ⟨by assumption, by assumption⟩ | exact Or.inl (by assumption) | exact Or.inr (by assumption))).symm | exact congrArg (fun z => some (Value.int z)) (b2i_0 (by first | assumption | exact Int32.not_lt.mpr (by assumption) | exact fun q => absurd (by assumption) q.1 | exact fun q => absurd (by assumption) q.2 | exact fun q => q.elim (fun z => z (by assumption)) (fun z => z (by assumption)))).symm
      · first | rfl | (funext zz; simp only [va_up]; (repeat' split) <;> first | rfl | (exfalso; omega) | simp_all)
      · rfl
    · refine z_iconst (v := 1) X dX9_worked_161 (by decide) ?_
      refine z_goto X 166 dX9_worked_162 (by decide) ?_
      refine z_iret X E dX9_worked_166 (by omega) (by omega) ⟨?_, ?_, ?_⟩
      · rw [zc28, wkO_60]; first | exact congrArg (fun z => some (Value.int z)) (b2i_1 (by first | assumption | exact Int32.not_le.mp (by assumption) | exact ⟨by assumption, by assumption⟩ | exact Or.inl (by assumption) | exact Or.inr (by assumption))).symm | exact congrArg (fun z => some (Value.int z)) (b2i_0 (by first | assumption | exact Int32.not_lt.mpr (by assumption) | exact fun q => absurd (by assumption) q.1 | exact fun q => absurd (by assumption) q.2 | exact fun q => q.elim (fun z => z (by assumption)) (fun z => z (by assumption)))).symm
      · first | rfl | (funext zz; simp only [va_up]; (repeat' split) <;> first | rfl | (exfalso; omega) | simp_all)
      · rfl
  by_cases zc30 : c = 61
  · refine z_tableIn (off := 166) X 167 dX9_worked_1 (by rw [zc30]; decide) (by rw [zc30]; decide) (by rw [zc30]; decide) (by decide) ?_
    refine z_iload_n X 1 dX9_worked_167 rfl ?_
    refine z_iload_n X 2 dX9_worked_168 rfl ?_
    refine z_icmp_ne X 176 dX9_worked_169 (by decide) (fun zc31 => ?_) (fun zc31 => ?_)
    · refine z_iconst (v := 0) X dX9_worked_176 (by decide) ?_
      refine z_iret X E dX9_worked_177 (by omega) (by omega) ⟨?_, ?_, ?_⟩
      · rw [zc30, wkO_61]; first | exact congrArg (fun z => some (Value.int z)) (b2i_1 (by first | assumption | exact Int32.not_le.mp (by assumption) | exact ⟨by assumption, by assumption⟩ | exact Or.inl (by assumption) | exact Or.inr (by assumption))).symm | exact congrArg (fun z => some (Value.int z)) (b2i_0 (by first | assumption | exact Int32.not_lt.mpr (by assumption) | exact fun q => absurd (by assumption) q.1 | exact fun q => absurd (by assumption) q.2 | exact fun q => q.elim (fun z => z (by assumption)) (fun z => z (by assumption)))).symm
      · first | rfl | (funext zz; simp only [va_up]; (repeat' split) <;> first | rfl | (exfalso; omega) | simp_all)
      · rfl
    · refine z_iconst (v := 1) X dX9_worked_172 (by decide) ?_
      refine z_goto X 177 dX9_worked_173 (by decide) ?_
      refine z_iret X E dX9_worked_177 (by omega) (by omega) ⟨?_, ?_, ?_⟩
      · rw [zc30, wkO_61]; first | exact congrArg (fun z => some (Value.int z)) (b2i_1 (by first | assumption | exact Int32.not_le.mp (by assumption) | exact ⟨by assumption, by assumption⟩ | exact Or.inl (by assumption) | exact Or.inr (by assumption))).symm | exact congrArg (fun z => some (Value.int z)) (b2i_0 (by first | assumption | exact Int32.not_lt.mpr (by assumption) | exact fun q => absurd (by assumption) q.1 | exact fun q => absurd (by assumption) q.2 | exact fun q => q.elim (fun z => z (by assumption)) (fun z => z (by assumption)))).symm
      · first | rfl | (funext zz; simp only [va_up]; (repeat' split) <;> first | rfl | (exfalso; omega) | simp_all)
      · rfl
  by_cases zc32 : c = 62
  · refine z_tableIn (off := 177) X 178 dX9_worked_1 (by rw [zc32]; decide) (by rw [zc32]; decide) (by rw [zc32]; decide) (by decide) ?_
    refine z_iload_n X 1 dX9_worked_178 rfl ?_
    refine z_iload_n X 2 dX9_worked_179 rfl ?_
    refine z_icmp_le X 187 dX9_worked_180 (by decide) (fun zc33 => ?_) (fun zc33 => ?_)
    · refine z_iconst (v := 0) X dX9_worked_187 (by decide) ?_
      refine z_iret X E dX9_worked_188 (by omega) (by omega) ⟨?_, ?_, ?_⟩
      · rw [zc32, wkO_62]; first | exact congrArg (fun z => some (Value.int z)) (b2i_1 (by first | assumption | exact Int32.not_le.mp (by assumption) | exact ⟨by assumption, by assumption⟩ | exact Or.inl (by assumption) | exact Or.inr (by assumption))).symm | exact congrArg (fun z => some (Value.int z)) (b2i_0 (by first | assumption | exact Int32.not_lt.mpr (by assumption) | exact fun q => absurd (by assumption) q.1 | exact fun q => absurd (by assumption) q.2 | exact fun q => q.elim (fun z => z (by assumption)) (fun z => z (by assumption)))).symm
      · first | rfl | (funext zz; simp only [va_up]; (repeat' split) <;> first | rfl | (exfalso; omega) | simp_all)
      · rfl
    · refine z_iconst (v := 1) X dX9_worked_183 (by decide) ?_
      refine z_goto X 188 dX9_worked_184 (by decide) ?_
      refine z_iret X E dX9_worked_188 (by omega) (by omega) ⟨?_, ?_, ?_⟩
      · rw [zc32, wkO_62]; first | exact congrArg (fun z => some (Value.int z)) (b2i_1 (by first | assumption | exact Int32.not_le.mp (by assumption) | exact ⟨by assumption, by assumption⟩ | exact Or.inl (by assumption) | exact Or.inr (by assumption))).symm | exact congrArg (fun z => some (Value.int z)) (b2i_0 (by first | assumption | exact Int32.not_lt.mpr (by assumption) | exact fun q => absurd (by assumption) q.1 | exact fun q => absurd (by assumption) q.2 | exact fun q => q.elim (fun z => z (by assumption)) (fun z => z (by assumption)))).symm
      · first | rfl | (funext zz; simp only [va_up]; (repeat' split) <;> first | rfl | (exfalso; omega) | simp_all)
      · rfl
  refine z_tableOut X 203 dX9_worked_1 (by have t0 := lv_neT zc1 (show (37 : Int32).toInt = 37 by decide); have t1 := lv_neT zc3 (show (38 : Int32).toInt = 38 by decide); have t2 := lv_neT zc6 (show (39 : Int32).toInt = 39 by decide); have t3 := lv_neT zc7 (show (40 : Int32).toInt = 40 by decide); have t4 := lv_neT zc8 (show (41 : Int32).toInt = 41 by decide); have t5 := lv_neT zc9 (show (42 : Int32).toInt = 42 by decide); have t6 := lv_neT zc10 (show (43 : Int32).toInt = 43 by decide); have t7 := lv_neT zc11 (show (44 : Int32).toInt = 44 by decide); have t8 := lv_neT zc12 (show (45 : Int32).toInt = 45 by decide); have t9 := lv_neT zc13 (show (46 : Int32).toInt = 46 by decide); have t10 := lv_neT zc14 (show (47 : Int32).toInt = 47 by decide); have t11 := lv_neT zc16 (show (48 : Int32).toInt = 48 by decide); have t12 := lv_neT zc17 (show (49 : Int32).toInt = 49 by decide); have t13 := lv_neT zc18 (show (50 : Int32).toInt = 50 by decide); have t14 := lv_neT zc19 (show (51 : Int32).toInt = 51 by decide); have t15 := lv_neT zc20 (show (52 : Int32).toInt = 52 by decide); have t16 := lv_neT zc21 (show (53 : Int32).toInt = 53 by decide); have t17 := lv_neT zc22 (show (54 : Int32).toInt = 54 by decide); have t18 := lv_neT zc23 (show (55 : Int32).toInt = 55 by decide); have t19 := lv_neT zc24 (show (56 : Int32).toInt = 56 by decide); have t20 := lv_neT zc25 (show (57 : Int32).toInt = 57 by decide); have t21 := lv_neT zc26 (show (58 : Int32).toInt = 58 by decide); have t22 := lv_neT zc27 (show (59 : Int32).toInt = 59 by decide); have t23 := lv_neT zc28 (show (60 : Int32).toInt = 60 by decide); have t24 := lv_neT zc30 (show (61 : Int32).toInt = 61 by decide); have t25 := lv_neT zc32 (show (62 : Int32).toInt = 62 by decide); omega) (by decide) ?_
  have hdf : c = 124 := by rcases hc with h | h | h | h | h | h | h | h | h | h <;> first | exact h | exact absurd h (by assumption)
  refine z_iload_n X 1 dX9_worked_203 rfl ?_
  refine z_if_ne X 211 dX9_worked_204 (by decide) (fun zc34 => ?_) (fun zc34 => ?_)
  · refine z_iconst (v := 1) X dX9_worked_211 (by decide) ?_
    refine z_goto X 216 dX9_worked_212 (by decide) ?_
    refine z_iret X E dX9_worked_216 (by omega) (by omega) ⟨?_, ?_, ?_⟩
    · rw [hdf, wkO_124]; first | exact congrArg (fun z => some (Value.int z)) (b2i_1 (by first | assumption | exact Int32.not_le.mp (by assumption) | exact ⟨by assumption, by assumption⟩ | exact Or.inl (by assumption) | exact Or.inr (by assumption))).symm | exact congrArg (fun z => some (Value.int z)) (b2i_0 (by first | assumption | exact Int32.not_lt.mpr (by assumption) | exact fun q => absurd (by assumption) q.1 | exact fun q => absurd (by assumption) q.2 | exact fun q => q.elim (fun z => z (by assumption)) (fun z => z (by assumption)))).symm
    · first | rfl | (funext zz; simp only [va_up]; (repeat' split) <;> first | rfl | (exfalso; omega) | simp_all)
    · rfl
  · refine z_iload_n X 2 dX9_worked_207 rfl ?_
    refine z_if_eq X 215 dX9_worked_208 (by decide) (fun zc35 => ?_) (fun zc35 => ?_)
    · refine z_iconst (v := 0) X dX9_worked_215 (by decide) ?_
      refine z_iret X E dX9_worked_216 (by omega) (by omega) ⟨?_, ?_, ?_⟩
      · rw [hdf, wkO_124]; first | exact congrArg (fun z => some (Value.int z)) (b2i_1 (by first | assumption | exact Int32.not_le.mp (by assumption) | exact ⟨by assumption, by assumption⟩ | exact Or.inl (by assumption) | exact Or.inr (by assumption))).symm | exact congrArg (fun z => some (Value.int z)) (b2i_0 (by first | assumption | exact Int32.not_lt.mpr (by assumption) | exact fun q => absurd (by assumption) q.1 | exact fun q => absurd (by assumption) q.2 | exact fun q => q.elim (fun z => z (by assumption)) (fun z => z (by assumption)))).symm
      · first | rfl | (funext zz; simp only [va_up]; (repeat' split) <;> first | rfl | (exfalso; omega) | simp_all)
      · rfl
    · refine z_iconst (v := 1) X dX9_worked_211 (by decide) ?_
      refine z_goto X 216 dX9_worked_212 (by decide) ?_
      refine z_iret X E dX9_worked_216 (by omega) (by omega) ⟨?_, ?_, ?_⟩
      · rw [hdf, wkO_124]; first | exact congrArg (fun z => some (Value.int z)) (b2i_1 (by first | assumption | exact Int32.not_le.mp (by assumption) | exact ⟨by assumption, by assumption⟩ | exact Or.inl (by assumption) | exact Or.inr (by assumption))).symm | exact congrArg (fun z => some (Value.int z)) (b2i_0 (by first | assumption | exact Int32.not_lt.mpr (by assumption) | exact fun q => absurd (by assumption) q.1 | exact fun q => absurd (by assumption) q.2 | exact fun q => q.elim (fun z => z (by assumption)) (fun z => z (by assumption)))).symm
      · first | rfl | (funext zz; simp only [va_up]; (repeat' split) <;> first | rfl | (exfalso; omega) | simp_all)
      · rfl
theorem wrs_lo : ∀ (L : List Int32) (tr : Nat → Int32) (tn q : Nat), q < tn → wrs tr tn L q = tr q := by
  intro L
  induction L with
  | nil => intro tr tn q _; rfl
  | cons b L ih => intro tr tn q hq; rw [wrs_1, ih _ _ _ (by omega)]; exact pk_un (by omega)
theorem wrs_at : ∀ (L : List Int32) (tr : Nat → Int32) (tn j : Nat), j < L.length → wrs tr tn L (tn + j) = L.getD j 0 := by
  intro L
  induction L with
  | nil => intro tr tn j hj; exact absurd hj (Nat.not_lt_zero _)
  | cons b L ih =>
    intro tr tn j hj
    rw [wrs_1]
    cases j with
    | zero => rw [wrs_lo _ _ _ _ (by omega)]; exact pk_us
    | succ j =>
      have := ih (upd tr tn b) (tn + 1) j (Nat.lt_of_succ_lt_succ hj)
      rw [show tn + (j + 1) = tn + 1 + j by omega, this]
      rfl
theorem wrs_at0 {L : List Int32} {tr : Nat → Int32} {j : Nat} (hj : j < L.length) : wrs tr 0 L j = L.getD j 0 := by
  have := wrs_at L tr 0 j hj
  rw [Nat.zero_add] at this
  exact this
theorem exL_take {nm : Nat → Int32} {L : List Int32} {s0 s : Sk} {j : Nat} (hj : j < L.length) (h : exL nm (L.take j) s0 = s) : exL nm (L.take (j + 1)) s0 = exS nm (L.getD j 0) s := by
  rw [List.take_succ_eq_append_getElem hj, exL_app, h]
  show exS nm L[j] s = _
  rw [show L.getD j 0 = L[j] by simp [List.getD, hj]]
/-- steps of a text that are signs or numbers -/
def okS (x : Int32) : Prop := -x ≤ 0 ∨ -x = 116 ∨ -x = 119 ∨ -x = 99 ∨ -x = 33 ∨ isOp (-x)
theorem okS_op {x : Int32} (h : okS x) (h1 : ¬ -x ≤ 0) (h2 : ¬ -x = 116) (h3 : ¬ -x = 119) (h4 : ¬ -x = 99) (h5 : ¬ -x = 33) : isOp (-x) := by
  rcases h with h | h | h | h | h | h
  · exact absurd h h1
  · exact absurd h h2
  · exact absurd h h3
  · exact absurd h h4
  · exact absurd h h5
  · exact h
section ES
variable {nm : Nat → Int32} {x : Int32} {s : Sk}
theorem exS_0 (h1 : -x ≤ 0) : exS nm x s = skPush x s := if_pos h1
theorem exS_1 (h1 : ¬ -x ≤ 0) (h2 : -x = 116) : exS nm x s = skPush (nm 0) s := (if_neg h1).trans (if_pos h2)
theorem exS_2 (h1 : ¬ -x ≤ 0) (h2 : ¬ -x = 116) (h3 : -x = 119) : exS nm x s = skPush (nm 1) s := (if_neg h1).trans ((if_neg h2).trans (if_pos h3))
theorem exS_3 (h1 : ¬ -x ≤ 0) (h2 : ¬ -x = 116) (h3 : ¬ -x = 119) (h4 : -x = 99) : exS nm x s = skPush (nm 2) s := (if_neg h1).trans ((if_neg h2).trans ((if_neg h3).trans (if_pos h4)))
theorem exS_4 (h1 : ¬ -x ≤ 0) (h2 : ¬ -x = 116) (h3 : ¬ -x = 119) (h4 : ¬ -x = 99) (h5 : -x = 33) : exS nm x s = skPush (b2i ((skPop s).1 = 0)) (skPop s).2 := (if_neg h1).trans ((if_neg h2).trans ((if_neg h3).trans ((if_neg h4).trans (if_pos h5))))
theorem exS_5 (h1 : ¬ -x ≤ 0) (h2 : ¬ -x = 116) (h3 : ¬ -x = 119) (h4 : ¬ -x = 99) (h5 : ¬ -x = 33) : exS nm x s = skPush (wkO (-x) (skPop (skPop s).2).1 (skPop s).1) (skPop (skPop s).2).2 := (if_neg h1).trans ((if_neg h2).trans ((if_neg h3).trans ((if_neg h4).trans (if_neg h5))))
end ES
set_option maxHeartbeats 4000000 in
set_option maxRecDepth 100000 in
theorem t_value {κ : Wc} {l : Launch} {h : Mm} {n : Nat} {t : Nat} {L : List Int32} {st : Nat → Int32} {sk : Nat → Int32} {pl : Int32} {tp : Int32} {x : Int32} {y : Int32} {z : Int32} {v : Int32} (K0 : h t = some (.inr (9, [.ref (t + 1), .ref (t + 2), .int (nI L.length), .int pl, .int tp]))) (K1 : h (t + 1) = arI κ 50 (wrs st 0 L)) (K2 : h (t + 2) = arI κ 50 sk) (p1 : L.length ≤ 50) (hL : ∀ j, j < L.length → okS (L.getD j 0)) (hG : Good (nm3 x y z) L v) : Con κ l yX9_value cX9_value 7 (some .int) 2 0 0 [.ref t, .int x, .int y, .int z] h n (fun q h' n' => ∃ tp' : Int32, ∃ sk' : Nat → Int32, q = some (.int v) ∧ h' = va_up (va_up h t (some (.inr (9, [.ref (t + 1), .ref (t + 2), .int (nI L.length), .int pl, .int tp'])))) (t + 2) (arI κ 50 sk') ∧ n' = n) := by
  refine Con.of mk_X9_value (Nat.le_of_ble_eq_true rfl) (fun G hG X E => ?_)
  subst hG
  refine z_ls (ls' := [(0, .ref t), (1, .int x), (2, .int y), (3, .int z)]) rfl ?_
  refine z_aload_n X 0 dX9_value_0 rfl ?_
  refine z_iconst (v := 0) X dX9_value_1 (by decide) ?_
  refine z_put X fp_X9_25_9 dX9_value_2 K0 (by first | rfl | decide) (by first | rfl | decide) (Nat.le_of_ble_eq_true rfl) rfl ?_
  obtain ⟨zh1, ze2⟩ : ∃ z : Mm, z = va_up h t (some (.inr (9, [.ref (t + 1), .ref (t + 2), .int (nI L.length), .int pl, .int 0]))) := ⟨_, rfl⟩
  refine z_heap (h' := zh1) ze2.symm ?_
  have zK3 := up_at ze2
  have zK4 := up_off ze2 (show t + 1 ≠ t by omega) K1
  have zK5 := up_off ze2 (show t + 2 ≠ t by omega) K2
  refine z_iconst (v := 0) X dX9_value_5 (by decide) ?_
  refine z_istore (ls' := [(4, .int 0), (0, .ref t), (1, .int x), (2, .int y), (3, .int z)]) X dX9_value_6 (by decide) rfl ?_
  have L8 : ∀ (jj : Nat) (hh8 : Mm)  (j : Nat) (s : Sk), (L.length - j < jj) → (hh8 = va_up (va_up h t (some (.inr (9, [.ref (t + 1), .ref (t + 2), .int (nI L.length), .int pl, .int (nI s.2)])))) (t + 2) (arI κ 50 s.1)) → (hj : j ≤ L.length) → (hs : s.2 ≤ 50) → (hE : exL (nm3 x y z) (L.take j) (sk, 0) = s) → Z κ G 7 8 [(0, .ref t), (1, .int x), (2, .int y), (3, .int z), (4, .int (nI j))] [] hh8 n 0 (0) := by
    intro jj
    induction jj with
    | zero => intro hh8 j s hmu; exact absurd hmu (Nat.not_lt_zero _)
    | succ jj ih8 =>
      intro hh8 j s hmu he8 hj hs hE
      have zK6 : hh8 t = some (.inr (9, [.ref (t + 1), .ref (t + 2), .int (nI L.length), .int pl, .int (nI s.2)])) := by rw [he8]; rw [va_up_ne _ _ (show t ≠ t + 2 by omega)]; exact va_up_self _ _ _
      have zK7 : hh8 (t + 1) = arI κ 50 (wrs st 0 L) := by rw [he8]; rw [va_up_ne _ _ (show t + 1 ≠ t + 2 by omega)]; rw [va_up_ne _ _ (show t + 1 ≠ t by omega)]; exact K1
      have zK8 : hh8 (t + 2) = arI κ 50 s.1 := by rw [he8]; exact va_up_self _ _ _
      refine z_iload X 4 dX9_value_8 rfl ?_
      refine z_aload_n X 0 dX9_value_10 rfl ?_
      refine z_get X fl_X9_18_9 dX9_value_11 zK6 rfl ?_
      refine z_icmp_ge X 144 dX9_value_14 (by decide) (fun zc9 => ?_) (fun zc9 => ?_)
      · try replace zc9 := (nI_leI (a := L.length) (b := j) (by omega) (by omega)).mp zc9
        refine z_aload_n X 0 dX9_value_144 rfl ?_
        refine z_callV X (t_pop (κ := κ) (n := n) (t := (t)) (s := (s)) (sz := (nI L.length)) (pl := (pl)) zK6 zK8 (hs)) mk_X9_pop dX9_value_145 wd_456 wd_458 wd_4 rfl zK6 rfl rfl rfl (Nat.le_of_ble_eq_true rfl) (Nat.le_of_ble_eq_true rfl) (Nat.le_of_ble_eq_true rfl) (by omega) (by omega) (fun q zh10 zm12 zp13 => ?_)
        obtain ⟨rfl, ze11, zn14⟩ := zp13
        subst zm12
        refine z_st (st' := [.int ((skPop s).1)]) rfl ?_
        have zK15 : zh10 t = some (.inr (9, [.ref (t + 1), .ref (t + 2), .int ((nI L.length)), .int pl, .int (nI ((skPop s).2).2)])) := by rw [ze11]; rw [va_up_ne _ _ (show t ≠ t + 2 by omega)]; exact va_up_self _ _ _
        have zK16 : zh10 (t + 1) = arI κ 50 (wrs st 0 L) := by rw [ze11]; rw [va_up_ne _ _ (show t + 1 ≠ t + 2 by omega)]; rw [va_up_ne _ _ (show t + 1 ≠ t by omega)]; exact zK7
        have zK17 : zh10 (t + 2) = arI κ 50 (((skPop s).2).1) := by rw [ze11]; exact va_up_self _ _ _
        refine z_toe (y := v) (by (have e1 : L.take j = L := List.take_of_length_le (by omega)); rw [e1] at hE; obtain ⟨sk2, g1, g2, -⟩ := hG sk 0 (by omega); rw [← hE, g1, skPop_f (show ¬ (0 + 1 : Nat) = 0 by omega)]; exact g2) ?_
        refine z_iret X E dX9_value_148 (by omega) (by omega) ⟨nI (skPop s).2.2, (skPop s).2.1, ?_, ?_, ?_⟩
        · rfl
        · funext zz; by_cases zq1 : zz = t + 2; (rw [zq1, va_up_self]; exact zK17); by_cases zq0 : zz = t; (rw [zq0, va_up_ne _ _ (show t ≠ t + 2 by omega), va_up_self]; exact zK15); rw [va_up_ne _ _ zq1, va_up_ne _ _ zq0]; rw [ze11, he8]; simp only [va_up, if_neg zq0, if_neg zq1]
        · rfl
      · try replace zc9 := mt (nI_leI (a := L.length) (b := j) (by omega) (by omega)).mpr zc9
        refine z_aload_n X 0 dX9_value_17 rfl ?_
        refine z_get X fl_X9_9_9 dX9_value_18 zK6 rfl ?_
        refine z_iload X 4 dX9_value_21 rfl ?_
        refine z_iald2 (v := (wrs st 0 L) j) X dX9_value_23 zK7 (vp_in_nI (n := j) (by omega) (by omega)) (congrArg (wrs st 0 L) (nI_clamp (n := j) (by omega))) ?_
        refine z_toe (y := L.getD j 0) (wrs_at0 (by omega)) ?_
        refine z_ineg X dX9_value_24 ?_
        refine z_istore (ls' := [(5, .int (-(L.getD j 0))), (0, .ref t), (1, .int x), (2, .int y), (3, .int z), (4, .int (nI j))]) X dX9_value_25 (by decide) rfl ?_
        refine z_iload X 0 dX9_value_27 rfl ?_
        refine z_if_gt X 46 dX9_value_29 (by decide) (fun zc18 => ?_) (fun zc18 => ?_)
        · refine z_iload X 0 dX9_value_46 rfl ?_
          refine z_bipush (v := 116) X dX9_value_48 (by decide) ?_
          refine z_icmp_ne X 61 dX9_value_50 (by decide) (fun zc19 => ?_) (fun zc19 => ?_)
          · refine z_iload X 0 dX9_value_61 rfl ?_
            refine z_bipush (v := 119) X dX9_value_63 (by decide) ?_
            refine z_icmp_ne X 76 dX9_value_65 (by decide) (fun zc20 => ?_) (fun zc20 => ?_)
            · refine z_iload X 0 dX9_value_76 rfl ?_
              refine z_bipush (v := 99) X dX9_value_78 (by decide) ?_
              refine z_icmp_ne X 91 dX9_value_80 (by decide) (fun zc21 => ?_) (fun zc21 => ?_)
              · refine z_iload X 0 dX9_value_91 rfl ?_
                refine z_bipush (v := 33) X dX9_value_93 (by decide) ?_
                refine z_icmp_ne X 117 dX9_value_95 (by decide) (fun zc22 => ?_) (fun zc22 => ?_)
                · refine z_aload_n X 1 dX9_value_117 rfl ?_
                  refine z_callV X (t_pop (κ := κ) (n := n) (t := (t)) (s := (s)) (sz := (nI L.length)) (pl := (pl)) zK6 zK8 (hs)) mk_X9_pop dX9_value_118 wd_456 wd_458 wd_4 rfl zK6 rfl rfl rfl (Nat.le_of_ble_eq_true rfl) (Nat.le_of_ble_eq_true rfl) (Nat.le_of_ble_eq_true rfl) (by omega) (by omega) (fun q zh23 zm25 zp26 => ?_)
                  obtain ⟨rfl, ze24, zn27⟩ := zp26
                  subst zm25
                  refine z_st (st' := [.int ((skPop s).1)]) rfl ?_
                  have zK28 : zh23 t = some (.inr (9, [.ref (t + 1), .ref (t + 2), .int ((nI L.length)), .int pl, .int (nI ((skPop s).2).2)])) := by rw [ze24]; rw [va_up_ne _ _ (show t ≠ t + 2 by omega)]; exact va_up_self _ _ _
                  have zK29 : zh23 (t + 1) = arI κ 50 (wrs st 0 L) := by rw [ze24]; rw [va_up_ne _ _ (show t + 1 ≠ t + 2 by omega)]; rw [va_up_ne _ _ (show t + 1 ≠ t by omega)]; exact zK7
                  have zK30 : zh23 (t + 2) = arI κ 50 (((skPop s).2).1) := by rw [ze24]; exact va_up_self _ _ _
                  skip
                  refine z_istore (ls' := [(6, .int ((skPop s).1)), (5, .int (-(L.getD j 0))), (0, .ref t), (1, .int x), (2, .int y), (3, .int z), (4, .int (nI j))]) X dX9_value_121 (by decide) rfl ?_
                  refine z_aload_n X 2 dX9_value_123 rfl ?_
                  refine z_iload X 1 dX9_value_124 rfl ?_
                  refine z_aload_n X 2 dX9_value_126 rfl ?_
                  refine z_callV X (t_pop (κ := κ) (n := n) (t := (t)) (s := ((skPop s).2)) (sz := (nI L.length)) (pl := (pl)) zK28 zK30 (skPop_le hs)) mk_X9_pop dX9_value_127 wd_456 wd_458 wd_4 rfl zK28 rfl rfl rfl (Nat.le_of_ble_eq_true rfl) (Nat.le_of_ble_eq_true rfl) (Nat.le_of_ble_eq_true rfl) (by omega) (by omega) (fun q zh31 zm33 zp34 => ?_)
                  obtain ⟨rfl, ze32, zn35⟩ := zp34
                  subst zm33
                  refine z_st (st' := [.int ((skPop ((skPop s).2)).1), .int (-(L.getD j 0)), .ref t]) rfl ?_
                  have zK36 : zh31 t = some (.inr (9, [.ref (t + 1), .ref (t + 2), .int ((nI L.length)), .int pl, .int (nI ((skPop ((skPop s).2)).2).2)])) := by rw [ze32]; rw [va_up_ne _ _ (show t ≠ t + 2 by omega)]; exact va_up_self _ _ _
                  have zK37 : zh31 (t + 1) = arI κ 50 (wrs st 0 L) := by rw [ze32]; rw [va_up_ne _ _ (show t + 1 ≠ t + 2 by omega)]; rw [va_up_ne _ _ (show t + 1 ≠ t by omega)]; exact zK29
                  have zK38 : zh31 (t + 2) = arI κ 50 (((skPop ((skPop s).2)).2).1) := by rw [ze32]; exact va_up_self _ _ _
                  skip
                  refine z_iload X 0 dX9_value_130 rfl ?_
                  refine z_callS X (t_worked (κ := κ) (n := n) (c := (-(L.getD j 0))) (x := ((skPop ((skPop s).2)).1)) (y := ((skPop s).1))  (okS_op (hL j (by omega)) (by first | assumption | exact Int32.not_le.mpr (by assumption)) (by assumption) (by assumption) (by assumption) (by assumption))) mk_X9_worked dX9_value_132 wd_460 wd_461 rfl rfl (Nat.le_of_ble_eq_true rfl) (Nat.le_of_ble_eq_true rfl) (Nat.le_of_ble_eq_true rfl) (by omega) (by omega) (fun q zh39 zm41 zp42 => ?_)
                  obtain ⟨rfl, ze40, zn43⟩ := zp42
                  subst zm41
                  subst zh39
                  refine z_st (st' := [.int (wkO (-(L.getD j 0)) ((skPop ((skPop s).2)).1) ((skPop s).1)), .ref t]) rfl ?_
                  refine z_callV X (t_push (κ := κ) (n := n) (t := (t)) (s := ((skPop (skPop s).2).2)) (sz := (nI L.length)) (pl := (pl)) (v := (wkO (-(L.getD j 0)) ((skPop ((skPop s).2)).1) ((skPop s).1))) zK36 zK38 (skPop_le (skPop_le hs))) mk_X9_push dX9_value_135 wd_451 wd_453 wd_3 rfl zK36 rfl rfl rfl (Nat.le_of_ble_eq_true rfl) (Nat.le_of_ble_eq_true rfl) (Nat.le_of_ble_eq_true rfl) (by omega) (by omega) (fun q zh44 zm46 zp47 => ?_)
                  obtain ⟨rfl, ze45, zn48⟩ := zp47
                  subst zm46
                  refine z_st (st' := []) rfl ?_
                  have zK49 : zh44 t = some (.inr (9, [.ref (t + 1), .ref (t + 2), .int ((nI L.length)), .int pl, .int (nI (skPush (wkO (-(L.getD j 0)) ((skPop ((skPop s).2)).1) ((skPop s).1)) ((skPop (skPop s).2).2)).2)])) := by rw [ze45]; rw [va_up_ne _ _ (show t ≠ t + 2 by omega)]; exact va_up_self _ _ _
                  have zK50 : zh44 (t + 1) = arI κ 50 (wrs st 0 L) := by rw [ze45]; rw [va_up_ne _ _ (show t + 1 ≠ t + 2 by omega)]; rw [va_up_ne _ _ (show t + 1 ≠ t by omega)]; exact zK37
                  have zK51 : zh44 (t + 2) = arI κ 50 ((skPush (wkO (-(L.getD j 0)) ((skPop ((skPop s).2)).1) ((skPop s).1)) ((skPop (skPop s).2).2)).1) := by rw [ze45]; exact va_up_self _ _ _
                  refine z_iinc (v := nI (j + 1)) (ls' := [(4, .int (nI (j + 1))), (6, .int ((skPop s).1)), (5, .int (-(L.getD j 0))), (0, .ref t), (1, .int x), (2, .int y), (3, .int z)]) X 6 dX9_value_138 rfl (nI_1 (j)) (by decide) rfl ?_
                  refine z_goto X 8 dX9_value_141 (by decide) ?_
                  refine z_sub (ls' := [(0, .ref t), (1, .int x), (2, .int y), (3, .int z), (4, .int (nI (j + 1)))]) [3, 4, 5, 6, 0] rfl ?_
                  exact ih8 _ (j + 1) (exS (nm3 x y z) (L.getD j 0) s) (by omega) (by rw [exS_5 (nm := nm3 x y z) (x := L.getD j 0) (s := s) (by first | assumption | exact Int32.not_le.mpr (by assumption)) (by first | assumption | exact Int32.not_le.mpr (by assumption)) (by first | assumption | exact Int32.not_le.mpr (by assumption)) (by first | assumption | exact Int32.not_le.mpr (by assumption)) (by first | assumption | exact Int32.not_le.mpr (by assumption))]; funext zz; by_cases zq1 : zz = t + 2; (rw [zq1, va_up_self]; exact zK51); by_cases zq0 : zz = t; (rw [zq0, va_up_ne _ _ (show t ≠ t + 2 by omega), va_up_self]; exact zK49); rw [va_up_ne _ _ zq1, va_up_ne _ _ zq0]; rw [ze45, ze32, ze24, he8]; simp only [va_up, if_neg zq0, if_neg zq1]) (by first | assumption | rfl | omega) (by exact exS_le hs) (by exact exL_take (by omega) hE)
                · refine z_aload_n X 1 dX9_value_98 rfl ?_
                  refine z_aload_n X 1 dX9_value_99 rfl ?_
                  refine z_callV X (t_pop (κ := κ) (n := n) (t := (t)) (s := (s)) (sz := (nI L.length)) (pl := (pl)) zK6 zK8 (hs)) mk_X9_pop dX9_value_100 wd_456 wd_458 wd_4 rfl zK6 rfl rfl rfl (Nat.le_of_ble_eq_true rfl) (Nat.le_of_ble_eq_true rfl) (Nat.le_of_ble_eq_true rfl) (by omega) (by omega) (fun q zh52 zm54 zp55 => ?_)
                  obtain ⟨rfl, ze53, zn56⟩ := zp55
                  subst zm54
                  refine z_st (st' := [.int ((skPop s).1), .ref t]) rfl ?_
                  have zK57 : zh52 t = some (.inr (9, [.ref (t + 1), .ref (t + 2), .int ((nI L.length)), .int pl, .int (nI ((skPop s).2).2)])) := by rw [ze53]; rw [va_up_ne _ _ (show t ≠ t + 2 by omega)]; exact va_up_self _ _ _
                  have zK58 : zh52 (t + 1) = arI κ 50 (wrs st 0 L) := by rw [ze53]; rw [va_up_ne _ _ (show t + 1 ≠ t + 2 by omega)]; rw [va_up_ne _ _ (show t + 1 ≠ t by omega)]; exact zK7
                  have zK59 : zh52 (t + 2) = arI κ 50 (((skPop s).2).1) := by rw [ze53]; exact va_up_self _ _ _
                  skip
                  refine z_if_ne X 110 dX9_value_103 (by decide) (fun zc60 => ?_) (fun zc60 => ?_)
                  · refine z_iconst (v := 0) X dX9_value_110 (by decide) ?_
                    refine z_callV X (t_push (κ := κ) (n := n) (t := (t)) (s := ((skPop s).2)) (sz := (nI L.length)) (pl := (pl)) (v := (0)) zK57 zK59 (skPop_le hs)) mk_X9_push dX9_value_111 wd_451 wd_453 wd_3 rfl zK57 rfl rfl rfl (Nat.le_of_ble_eq_true rfl) (Nat.le_of_ble_eq_true rfl) (Nat.le_of_ble_eq_true rfl) (by omega) (by omega) (fun q zh61 zm63 zp64 => ?_)
                    obtain ⟨rfl, ze62, zn65⟩ := zp64
                    subst zm63
                    refine z_st (st' := []) rfl ?_
                    have zK66 : zh61 t = some (.inr (9, [.ref (t + 1), .ref (t + 2), .int ((nI L.length)), .int pl, .int (nI (skPush 0 ((skPop s).2)).2)])) := by rw [ze62]; rw [va_up_ne _ _ (show t ≠ t + 2 by omega)]; exact va_up_self _ _ _
                    have zK67 : zh61 (t + 1) = arI κ 50 (wrs st 0 L) := by rw [ze62]; rw [va_up_ne _ _ (show t + 1 ≠ t + 2 by omega)]; rw [va_up_ne _ _ (show t + 1 ≠ t by omega)]; exact zK58
                    have zK68 : zh61 (t + 2) = arI κ 50 ((skPush 0 ((skPop s).2)).1) := by rw [ze62]; exact va_up_self _ _ _
                    refine z_goto X 138 dX9_value_114 (by decide) ?_
                    refine z_iinc (v := nI (j + 1)) (ls' := [(4, .int (nI (j + 1))), (5, .int (-(L.getD j 0))), (0, .ref t), (1, .int x), (2, .int y), (3, .int z)]) X 5 dX9_value_138 rfl (nI_1 (j)) (by decide) rfl ?_
                    refine z_goto X 8 dX9_value_141 (by decide) ?_
                    refine z_sub (ls' := [(0, .ref t), (1, .int x), (2, .int y), (3, .int z), (4, .int (nI (j + 1)))]) [2, 3, 4, 5, 0] rfl ?_
                    exact ih8 _ (j + 1) (exS (nm3 x y z) (L.getD j 0) s) (by omega) (by rw [(exS_4 (nm := nm3 x y z) (x := L.getD j 0) (s := s) (by first | assumption | exact Int32.not_le.mpr (by assumption)) (by first | assumption | exact Int32.not_le.mpr (by assumption)) (by first | assumption | exact Int32.not_le.mpr (by assumption)) (by first | assumption | exact Int32.not_le.mpr (by assumption)) (by first | assumption | exact Int32.not_le.mpr (by assumption))).trans (congrArg (fun z => skPush z (skPop s).2) (b2i_0 (by assumption)))]; funext zz; by_cases zq1 : zz = t + 2; (rw [zq1, va_up_self]; exact zK68); by_cases zq0 : zz = t; (rw [zq0, va_up_ne _ _ (show t ≠ t + 2 by omega), va_up_self]; exact zK66); rw [va_up_ne _ _ zq1, va_up_ne _ _ zq0]; rw [ze62, ze53, he8]; simp only [va_up, if_neg zq0, if_neg zq1]) (by first | assumption | rfl | omega) (by exact exS_le hs) (by exact exL_take (by omega) hE)
                  · refine z_iconst (v := 1) X dX9_value_106 (by decide) ?_
                    refine z_goto X 111 dX9_value_107 (by decide) ?_
                    refine z_callV X (t_push (κ := κ) (n := n) (t := (t)) (s := ((skPop s).2)) (sz := (nI L.length)) (pl := (pl)) (v := (1)) zK57 zK59 (skPop_le hs)) mk_X9_push dX9_value_111 wd_451 wd_453 wd_3 rfl zK57 rfl rfl rfl (Nat.le_of_ble_eq_true rfl) (Nat.le_of_ble_eq_true rfl) (Nat.le_of_ble_eq_true rfl) (by omega) (by omega) (fun q zh69 zm71 zp72 => ?_)
                    obtain ⟨rfl, ze70, zn73⟩ := zp72
                    subst zm71
                    refine z_st (st' := []) rfl ?_
                    have zK74 : zh69 t = some (.inr (9, [.ref (t + 1), .ref (t + 2), .int ((nI L.length)), .int pl, .int (nI (skPush 1 ((skPop s).2)).2)])) := by rw [ze70]; rw [va_up_ne _ _ (show t ≠ t + 2 by omega)]; exact va_up_self _ _ _
                    have zK75 : zh69 (t + 1) = arI κ 50 (wrs st 0 L) := by rw [ze70]; rw [va_up_ne _ _ (show t + 1 ≠ t + 2 by omega)]; rw [va_up_ne _ _ (show t + 1 ≠ t by omega)]; exact zK58
                    have zK76 : zh69 (t + 2) = arI κ 50 ((skPush 1 ((skPop s).2)).1) := by rw [ze70]; exact va_up_self _ _ _
                    refine z_goto X 138 dX9_value_114 (by decide) ?_
                    refine z_iinc (v := nI (j + 1)) (ls' := [(4, .int (nI (j + 1))), (5, .int (-(L.getD j 0))), (0, .ref t), (1, .int x), (2, .int y), (3, .int z)]) X 5 dX9_value_138 rfl (nI_1 (j)) (by decide) rfl ?_
                    refine z_goto X 8 dX9_value_141 (by decide) ?_
                    refine z_sub (ls' := [(0, .ref t), (1, .int x), (2, .int y), (3, .int z), (4, .int (nI (j + 1)))]) [2, 3, 4, 5, 0] rfl ?_
                    exact ih8 _ (j + 1) (exS (nm3 x y z) (L.getD j 0) s) (by omega) (by rw [(exS_4 (nm := nm3 x y z) (x := L.getD j 0) (s := s) (by first | assumption | exact Int32.not_le.mpr (by assumption)) (by first | assumption | exact Int32.not_le.mpr (by assumption)) (by first | assumption | exact Int32.not_le.mpr (by assumption)) (by first | assumption | exact Int32.not_le.mpr (by assumption)) (by first | assumption | exact Int32.not_le.mpr (by assumption))).trans (congrArg (fun z => skPush z (skPop s).2) (b2i_1 (by assumption)))]; funext zz; by_cases zq1 : zz = t + 2; (rw [zq1, va_up_self]; exact zK76); by_cases zq0 : zz = t; (rw [zq0, va_up_ne _ _ (show t ≠ t + 2 by omega), va_up_self]; exact zK74); rw [va_up_ne _ _ zq1, va_up_ne _ _ zq0]; rw [ze70, ze53, he8]; simp only [va_up, if_neg zq0, if_neg zq1]) (by first | assumption | rfl | omega) (by exact exS_le hs) (by exact exL_take (by omega) hE)
              · refine z_aload_n X 1 dX9_value_83 rfl ?_
                refine z_iload_n X 4 dX9_value_84 rfl ?_
                refine z_callV X (t_push (κ := κ) (n := n) (t := (t)) (s := (s)) (sz := (nI L.length)) (pl := (pl)) (v := (z)) zK6 zK8 (hs)) mk_X9_push dX9_value_85 wd_451 wd_453 wd_3 rfl zK6 rfl rfl rfl (Nat.le_of_ble_eq_true rfl) (Nat.le_of_ble_eq_true rfl) (Nat.le_of_ble_eq_true rfl) (by omega) (by omega) (fun q zh77 zm79 zp80 => ?_)
                obtain ⟨rfl, ze78, zn81⟩ := zp80
                subst zm79
                refine z_st (st' := []) rfl ?_
                have zK82 : zh77 t = some (.inr (9, [.ref (t + 1), .ref (t + 2), .int ((nI L.length)), .int pl, .int (nI (skPush z s).2)])) := by rw [ze78]; rw [va_up_ne _ _ (show t ≠ t + 2 by omega)]; exact va_up_self _ _ _
                have zK83 : zh77 (t + 1) = arI κ 50 (wrs st 0 L) := by rw [ze78]; rw [va_up_ne _ _ (show t + 1 ≠ t + 2 by omega)]; rw [va_up_ne _ _ (show t + 1 ≠ t by omega)]; exact zK7
                have zK84 : zh77 (t + 2) = arI κ 50 ((skPush z s).1) := by rw [ze78]; exact va_up_self _ _ _
                refine z_goto X 138 dX9_value_88 (by decide) ?_
                refine z_iinc (v := nI (j + 1)) (ls' := [(4, .int (nI (j + 1))), (5, .int (-(L.getD j 0))), (0, .ref t), (1, .int x), (2, .int y), (3, .int z)]) X 5 dX9_value_138 rfl (nI_1 (j)) (by decide) rfl ?_
                refine z_goto X 8 dX9_value_141 (by decide) ?_
                refine z_sub (ls' := [(0, .ref t), (1, .int x), (2, .int y), (3, .int z), (4, .int (nI (j + 1)))]) [2, 3, 4, 5, 0] rfl ?_
                exact ih8 _ (j + 1) (exS (nm3 x y z) (L.getD j 0) s) (by omega) (by rw [exS_3 (nm := nm3 x y z) (x := L.getD j 0) (s := s) (by first | assumption | exact Int32.not_le.mpr (by assumption)) (by first | assumption | exact Int32.not_le.mpr (by assumption)) (by first | assumption | exact Int32.not_le.mpr (by assumption)) (by first | assumption | exact Int32.not_le.mpr (by assumption))]; funext zz; by_cases zq1 : zz = t + 2; (rw [zq1, va_up_self]; exact zK84); by_cases zq0 : zz = t; (rw [zq0, va_up_ne _ _ (show t ≠ t + 2 by omega), va_up_self]; exact zK82); rw [va_up_ne _ _ zq1, va_up_ne _ _ zq0]; rw [ze78, he8]; simp only [va_up, if_neg zq0, if_neg zq1]) (by first | assumption | rfl | omega) (by exact exS_le hs) (by exact exL_take (by omega) hE)
            · refine z_aload_n X 1 dX9_value_68 rfl ?_
              refine z_iload_n X 3 dX9_value_69 rfl ?_
              refine z_callV X (t_push (κ := κ) (n := n) (t := (t)) (s := (s)) (sz := (nI L.length)) (pl := (pl)) (v := (y)) zK6 zK8 (hs)) mk_X9_push dX9_value_70 wd_451 wd_453 wd_3 rfl zK6 rfl rfl rfl (Nat.le_of_ble_eq_true rfl) (Nat.le_of_ble_eq_true rfl) (Nat.le_of_ble_eq_true rfl) (by omega) (by omega) (fun q zh85 zm87 zp88 => ?_)
              obtain ⟨rfl, ze86, zn89⟩ := zp88
              subst zm87
              refine z_st (st' := []) rfl ?_
              have zK90 : zh85 t = some (.inr (9, [.ref (t + 1), .ref (t + 2), .int ((nI L.length)), .int pl, .int (nI (skPush y s).2)])) := by rw [ze86]; rw [va_up_ne _ _ (show t ≠ t + 2 by omega)]; exact va_up_self _ _ _
              have zK91 : zh85 (t + 1) = arI κ 50 (wrs st 0 L) := by rw [ze86]; rw [va_up_ne _ _ (show t + 1 ≠ t + 2 by omega)]; rw [va_up_ne _ _ (show t + 1 ≠ t by omega)]; exact zK7
              have zK92 : zh85 (t + 2) = arI κ 50 ((skPush y s).1) := by rw [ze86]; exact va_up_self _ _ _
              refine z_goto X 138 dX9_value_73 (by decide) ?_
              refine z_iinc (v := nI (j + 1)) (ls' := [(4, .int (nI (j + 1))), (5, .int (-(L.getD j 0))), (0, .ref t), (1, .int x), (2, .int y), (3, .int z)]) X 5 dX9_value_138 rfl (nI_1 (j)) (by decide) rfl ?_
              refine z_goto X 8 dX9_value_141 (by decide) ?_
              refine z_sub (ls' := [(0, .ref t), (1, .int x), (2, .int y), (3, .int z), (4, .int (nI (j + 1)))]) [2, 3, 4, 5, 0] rfl ?_
              exact ih8 _ (j + 1) (exS (nm3 x y z) (L.getD j 0) s) (by omega) (by rw [exS_2 (nm := nm3 x y z) (x := L.getD j 0) (s := s) (by first | assumption | exact Int32.not_le.mpr (by assumption)) (by first | assumption | exact Int32.not_le.mpr (by assumption)) (by first | assumption | exact Int32.not_le.mpr (by assumption))]; funext zz; by_cases zq1 : zz = t + 2; (rw [zq1, va_up_self]; exact zK92); by_cases zq0 : zz = t; (rw [zq0, va_up_ne _ _ (show t ≠ t + 2 by omega), va_up_self]; exact zK90); rw [va_up_ne _ _ zq1, va_up_ne _ _ zq0]; rw [ze86, he8]; simp only [va_up, if_neg zq0, if_neg zq1]) (by first | assumption | rfl | omega) (by exact exS_le hs) (by exact exL_take (by omega) hE)
          · refine z_aload_n X 1 dX9_value_53 rfl ?_
            refine z_iload_n X 2 dX9_value_54 rfl ?_
            refine z_callV X (t_push (κ := κ) (n := n) (t := (t)) (s := (s)) (sz := (nI L.length)) (pl := (pl)) (v := (x)) zK6 zK8 (hs)) mk_X9_push dX9_value_55 wd_451 wd_453 wd_3 rfl zK6 rfl rfl rfl (Nat.le_of_ble_eq_true rfl) (Nat.le_of_ble_eq_true rfl) (Nat.le_of_ble_eq_true rfl) (by omega) (by omega) (fun q zh93 zm95 zp96 => ?_)
            obtain ⟨rfl, ze94, zn97⟩ := zp96
            subst zm95
            refine z_st (st' := []) rfl ?_
            have zK98 : zh93 t = some (.inr (9, [.ref (t + 1), .ref (t + 2), .int ((nI L.length)), .int pl, .int (nI (skPush x s).2)])) := by rw [ze94]; rw [va_up_ne _ _ (show t ≠ t + 2 by omega)]; exact va_up_self _ _ _
            have zK99 : zh93 (t + 1) = arI κ 50 (wrs st 0 L) := by rw [ze94]; rw [va_up_ne _ _ (show t + 1 ≠ t + 2 by omega)]; rw [va_up_ne _ _ (show t + 1 ≠ t by omega)]; exact zK7
            have zK100 : zh93 (t + 2) = arI κ 50 ((skPush x s).1) := by rw [ze94]; exact va_up_self _ _ _
            refine z_goto X 138 dX9_value_58 (by decide) ?_
            refine z_iinc (v := nI (j + 1)) (ls' := [(4, .int (nI (j + 1))), (5, .int (-(L.getD j 0))), (0, .ref t), (1, .int x), (2, .int y), (3, .int z)]) X 5 dX9_value_138 rfl (nI_1 (j)) (by decide) rfl ?_
            refine z_goto X 8 dX9_value_141 (by decide) ?_
            refine z_sub (ls' := [(0, .ref t), (1, .int x), (2, .int y), (3, .int z), (4, .int (nI (j + 1)))]) [2, 3, 4, 5, 0] rfl ?_
            exact ih8 _ (j + 1) (exS (nm3 x y z) (L.getD j 0) s) (by omega) (by rw [exS_1 (nm := nm3 x y z) (x := L.getD j 0) (s := s) (by first | assumption | exact Int32.not_le.mpr (by assumption)) (by first | assumption | exact Int32.not_le.mpr (by assumption))]; funext zz; by_cases zq1 : zz = t + 2; (rw [zq1, va_up_self]; exact zK100); by_cases zq0 : zz = t; (rw [zq0, va_up_ne _ _ (show t ≠ t + 2 by omega), va_up_self]; exact zK98); rw [va_up_ne _ _ zq1, va_up_ne _ _ zq0]; rw [ze94, he8]; simp only [va_up, if_neg zq0, if_neg zq1]) (by first | assumption | rfl | omega) (by exact exS_le hs) (by exact exL_take (by omega) hE)
        · refine z_aload_n X 1 dX9_value_32 rfl ?_
          refine z_aload_n X 1 dX9_value_33 rfl ?_
          refine z_get X fl_X9_9_9 dX9_value_34 zK6 rfl ?_
          refine z_iload X 5 dX9_value_37 rfl ?_
          refine z_iald2 (v := (wrs st 0 L) j) X dX9_value_39 zK7 (vp_in_nI (n := j) (by omega) (by omega)) (congrArg (wrs st 0 L) (nI_clamp (n := j) (by omega))) ?_
          refine z_toe (y := L.getD j 0) (wrs_at0 (by omega)) ?_
          refine z_callV X (t_push (κ := κ) (n := n) (t := (t)) (s := (s)) (sz := (nI L.length)) (pl := (pl)) (v := (L.getD j 0)) zK6 zK8 (hs)) mk_X9_push dX9_value_40 wd_451 wd_453 wd_3 rfl zK6 rfl rfl rfl (Nat.le_of_ble_eq_true rfl) (Nat.le_of_ble_eq_true rfl) (Nat.le_of_ble_eq_true rfl) (by omega) (by omega) (fun q zh101 zm103 zp104 => ?_)
          obtain ⟨rfl, ze102, zn105⟩ := zp104
          subst zm103
          refine z_st (st' := []) rfl ?_
          have zK106 : zh101 t = some (.inr (9, [.ref (t + 1), .ref (t + 2), .int ((nI L.length)), .int pl, .int (nI (skPush (L.getD j 0) s).2)])) := by rw [ze102]; rw [va_up_ne _ _ (show t ≠ t + 2 by omega)]; exact va_up_self _ _ _
          have zK107 : zh101 (t + 1) = arI κ 50 (wrs st 0 L) := by rw [ze102]; rw [va_up_ne _ _ (show t + 1 ≠ t + 2 by omega)]; rw [va_up_ne _ _ (show t + 1 ≠ t by omega)]; exact zK7
          have zK108 : zh101 (t + 2) = arI κ 50 ((skPush (L.getD j 0) s).1) := by rw [ze102]; exact va_up_self _ _ _
          refine z_goto X 138 dX9_value_43 (by decide) ?_
          refine z_iinc (v := nI (j + 1)) (ls' := [(4, .int (nI (j + 1))), (5, .int (-(L.getD j 0))), (0, .ref t), (1, .int x), (2, .int y), (3, .int z)]) X 5 dX9_value_138 rfl (nI_1 (j)) (by decide) rfl ?_
          refine z_goto X 8 dX9_value_141 (by decide) ?_
          refine z_sub (ls' := [(0, .ref t), (1, .int x), (2, .int y), (3, .int z), (4, .int (nI (j + 1)))]) [2, 3, 4, 5, 0] rfl ?_
          exact ih8 _ (j + 1) (exS (nm3 x y z) (L.getD j 0) s) (by omega) (by rw [exS_0 (nm := nm3 x y z) (x := L.getD j 0) (s := s) (by first | assumption | exact Int32.not_lt.mp (by assumption))]; funext zz; by_cases zq1 : zz = t + 2; (rw [zq1, va_up_self]; exact zK108); by_cases zq0 : zz = t; (rw [zq0, va_up_ne _ _ (show t ≠ t + 2 by omega), va_up_self]; exact zK106); rw [va_up_ne _ _ zq1, va_up_ne _ _ zq0]; rw [ze102, he8]; simp only [va_up, if_neg zq0, if_neg zq1]) (by first | assumption | rfl | omega) (by exact exS_le hs) (by exact exL_take (by omega) hE)
  refine z_sub (ls' := [(0, .ref t), (1, .int x), (2, .int y), (3, .int z), (4, .int 0)]) [1, 2, 3, 4, 0] rfl ?_
  exact L8 _ _ 0 ((sk, 0)) (Nat.lt_succ_self _) (by funext zz; by_cases zq1 : zz = t + 2; (rw [zq1, va_up_self]; exact zK5); by_cases zq0 : zz = t; (rw [zq0, va_up_ne _ _ (show t ≠ t + 2 by omega), va_up_self]; exact zK3); rw [va_up_ne _ _ zq1, va_up_ne _ _ zq0]; rw [ze2]; simp only [va_up, if_neg zq0, if_neg zq1]) (by first | assumption | rfl | omega) (by exact Nat.zero_le _) (by rfl)
