/-- as at first, but for what is told -/
def bgn (d : Nat → Int32) : Nat → Int32 := upd (upd (upd (upd d 0 0) 1 1) 100 10) 140 0
theorem bgn_off {d : Nat → Int32} {q : Nat} (h : q ≠ 0 ∧ q ≠ 1 ∧ q ≠ 100 ∧ q ≠ 140) : bgn d q = d q := (pk_un h.2.2.2).trans ((pk_un h.2.2.1).trans ((pk_un h.2.1).trans (pk_un h.1)))
theorem bgn_1 (d : Nat → Int32) : bgn d 1 = nI 1 := (pk_un (by omega)).trans ((pk_un (by omega)).trans pk_us)
theorem bgn_ok (d : Nat → Int32) : lnOk (bgn d) := lnOk_of (bgn_1 d) (by omega) (by omega)
set_option maxHeartbeats 4000000 in
set_option maxRecDepth 100000 in
theorem r_begins {κ : Wc} {l : Launch} {h : Mm} {n : Nat} {o : Nat} {d : Nat → Int32} {e : Nat → Int32} {im : Int32} {ba : Int32} {at_ : Int32} {sz : Int32} {fa : Int32} {op : Int32} {rm : Int32} {ti : Int32} {tm : Int32} {wh : Int32} (K0 : h o = some (.inr (12, [.ref (o + 1), .ref (o + 2), .ref (o + 3), .int im, .ref (o + 4), .int ba, .int at_, .int sz, .int fa, .int op, .ref (o + 5), .ref (o + 6), .int rm, .ref (o + 7), .ref (o + 8), .int ti, .ref (o + 9), .int tm, .int wh, .ref (o + 10), .ref (o + 11), .ref (o + 12), .ref (o + 13)]))) (K1 : h (o + 1) = arI κ 340 d) (K2 : h (o + 2) = arI κ 340 e)  : Con κ l yX12_begins cX12_begins 1 none 2 0 0 [.ref o] h n (fun q h' n' => q = none ∧ h' = va_up h (o + 2) (arI κ 340 (bgn d)) ∧ n' = n) := by
  refine Con.of mk_X12_begins (Nat.le_of_ble_eq_true rfl) (fun G hG X E => ?_)
  subst hG
  refine z_ls (ls' := [(0, .ref o)]) rfl ?_
  refine z_aload_n X 0 dX12_begins_0 rfl ?_
  refine z_get X fl_X12_7_12 dX12_begins_1 K0 rfl ?_
  refine z_aload_n X 0 dX12_begins_4 rfl ?_
  refine z_get X fl_X12_13_12 dX12_begins_5 K0 rfl ?_
  refine z_callS X (r_copies (κ := κ) (n := n) (a := (o + 1)) (b := (o + 2)) (f := (d)) (g := (e)) K1 K2 (by first | assumption | omega)) mk_X12_copies dX12_begins_8 wd_1208 wd_1209 rfl rfl (Nat.le_of_ble_eq_true rfl) (Nat.le_of_ble_eq_true rfl) (Nat.le_of_ble_eq_true rfl) (by omega) (by omega) (fun q zh1 zm3 zp4 => ?_)
  obtain ⟨rfl, ze2, zn5⟩ := zp4
  subst zm3
  refine z_st (st' := []) rfl ?_
  have zK6 : zh1 o = some (.inr (12, [.ref (o + 1), .ref (o + 2), .ref (o + 3), .int im, .ref (o + 4), .int ba, .int at_, .int sz, .int fa, .int op, .ref (o + 5), .ref (o + 6), .int rm, .ref (o + 7), .ref (o + 8), .int ti, .ref (o + 9), .int tm, .int wh, .ref (o + 10), .ref (o + 11), .ref (o + 12), .ref (o + 13)])) := by rw [ze2]; rw [va_up_ne _ _ (show o ≠ o + 2 by omega)]; exact K0
  have zK7 : zh1 (o + 1) = arI κ 340 d := by rw [ze2]; rw [va_up_ne _ _ (show o + 1 ≠ o + 2 by omega)]; exact K1
  have zK8 : zh1 (o + 2) = arI κ 340 d := by rw [ze2]; exact va_up_self _ _ _
  refine z_aload_n X 0 dX12_begins_11 rfl ?_
  refine z_get X fl_X12_13_12 dX12_begins_12 zK6 rfl ?_
  refine z_iconst (v := 0) X dX12_begins_15 (by decide) ?_
  refine z_iconst (v := 0) X dX12_begins_16 (by decide) ?_
  refine z_iast X dX12_begins_17 zK8 (vp_in_nI (n := 0) (by omega) (by omega)) (congrArg (fun z => va_up zh1 (o + 2) (arI κ 340 (upd d z 0))) (nI_clamp (n := 0) (by omega))) ?_
  obtain ⟨zh9, ze10⟩ : ∃ z : Mm, z = va_up zh1 (o + 2) (arI κ 340 (upd d 0 0)) := ⟨_, rfl⟩
  refine z_heap (h' := zh9) ze10.symm ?_
  have zK11 := up_off ze10 (show o ≠ o + 2 by omega) zK6
  have zK12 := up_off ze10 (show o + 1 ≠ o + 2 by omega) zK7
  have zK13 := up_at ze10
  refine z_aload_n X 0 dX12_begins_18 rfl ?_
  refine z_get X fl_X12_13_12 dX12_begins_19 zK11 rfl ?_
  refine z_iconst (v := 1) X dX12_begins_22 (by decide) ?_
  refine z_iconst (v := 1) X dX12_begins_23 (by decide) ?_
  refine z_iast X dX12_begins_24 zK13 (vp_in_nI (n := 1) (by omega) (by omega)) (congrArg (fun z => va_up zh9 (o + 2) (arI κ 340 (upd (upd d 0 0) z 1))) (nI_clamp (n := 1) (by omega))) ?_
  obtain ⟨zh14, ze15⟩ : ∃ z : Mm, z = va_up zh9 (o + 2) (arI κ 340 (upd (upd d 0 0) 1 1)) := ⟨_, rfl⟩
  refine z_heap (h' := zh14) ze15.symm ?_
  have zK16 := up_off ze15 (show o ≠ o + 2 by omega) zK11
  have zK17 := up_off ze15 (show o + 1 ≠ o + 2 by omega) zK12
  have zK18 := up_at ze15
  refine z_aload_n X 0 dX12_begins_25 rfl ?_
  refine z_get X fl_X12_13_12 dX12_begins_26 zK16 rfl ?_
  refine z_bipush (v := 100) X dX12_begins_29 (by decide) ?_
  refine z_bipush (v := 10) X dX12_begins_31 (by decide) ?_
  refine z_iast X dX12_begins_33 zK18 (vp_in_nI (n := 100) (by omega) (by omega)) (congrArg (fun z => va_up zh14 (o + 2) (arI κ 340 (upd (upd (upd d 0 0) 1 1) z 10))) (nI_clamp (n := 100) (by omega))) ?_
  obtain ⟨zh19, ze20⟩ : ∃ z : Mm, z = va_up zh14 (o + 2) (arI κ 340 (upd (upd (upd d 0 0) 1 1) 100 10)) := ⟨_, rfl⟩
  refine z_heap (h' := zh19) ze20.symm ?_
  have zK21 := up_off ze20 (show o ≠ o + 2 by omega) zK16
  have zK22 := up_off ze20 (show o + 1 ≠ o + 2 by omega) zK17
  have zK23 := up_at ze20
  refine z_aload_n X 0 dX12_begins_34 rfl ?_
  refine z_get X fl_X12_13_12 dX12_begins_35 zK21 rfl ?_
  refine z_sipush (v := 140) X dX12_begins_38 (by decide) ?_
  refine z_iconst (v := 0) X dX12_begins_41 (by decide) ?_
  refine z_iast X dX12_begins_42 zK23 (vp_in_nI (n := 140) (by omega) (by omega)) (congrArg (fun z => va_up zh19 (o + 2) (arI κ 340 (upd (upd (upd (upd d 0 0) 1 1) 100 10) z 0))) (nI_clamp (n := 140) (by omega))) ?_
  obtain ⟨zh24, ze25⟩ : ∃ z : Mm, z = va_up zh19 (o + 2) (arI κ 340 (upd (upd (upd (upd d 0 0) 1 1) 100 10) 140 0)) := ⟨_, rfl⟩
  refine z_heap (h' := zh24) ze25.symm ?_
  have zK26 := up_off ze25 (show o ≠ o + 2 by omega) zK21
  have zK27 := up_off ze25 (show o + 1 ≠ o + 2 by omega) zK22
  have zK28 := up_at ze25
  refine z_vret X E dX12_begins_43 (by omega) (by omega) ⟨?_, ?_, ?_⟩
  · rfl
  · rw [ze25, ze20, ze15, ze10, ze2]; funext zz; simp only [va_up]; (repeat' split) <;> first | rfl | (exfalso; omega)
  · rfl
theorem eq0_of {x : Int32} (q : x.toInt = 0) : x = 0 := i_eq.mpr (q.trans (by decide))
/-- the first place of the least of f 0 .. f s, and that least -/
def argm (f : Nat → Int32) : Nat → Nat × Int32
  | 0 => (0, f 0)
  | s + 1 => if f (s + 1) < (argm f s).2 then (s + 1, f (s + 1)) else argm f s
theorem argm_le (f : Nat → Int32) : ∀ s, (argm f s).1 ≤ s := by
  intro s
  induction s with
  | zero => exact Nat.le_refl _
  | succ s ih =>
    unfold argm
    split
    · exact Nat.le_refl _
    · omega
def AM (f : Nat → Int32) (s : Nat) (b l : Int32) : Prop := (s = 0 ∧ b = -1) ∨ ∃ s', s = s' + 1 ∧ b = nI (argm f s').1 ∧ l = (argm f s').2
theorem AM_0 {f : Nat → Int32} {l : Int32} : AM f 0 (-1) l := Or.inl ⟨rfl, rfl⟩
theorem AM_t {f : Nat → Int32} {s : Nat} {b l : Int32} (h : AM f s b l) (hs : s < 1000) (hq : b < 0 ∨ f s < l) : AM f (s + 1) (nI s) (f s) := by
  refine Or.inr ⟨s, rfl, ?_⟩
  rcases h with ⟨rfl, -⟩ | ⟨s', rfl, rfl, rfl⟩
  · exact ⟨rfl, rfl⟩
  · have hl := argm_le f s'
    have h2 : f (s' + 1) < (argm f s').2 := hq.resolve_left (nI_pos (by omega))
    have e : argm f (s' + 1) = (s' + 1, f (s' + 1)) := if_pos h2
    rw [e]
    exact ⟨rfl, rfl⟩
theorem AM_f {f : Nat → Int32} {s : Nat} {b l : Int32} (h : AM f s b l) (h1 : ¬ b < 0) (h2 : ¬ f s < l) : AM f (s + 1) b l := by
  refine Or.inr ⟨s, rfl, ?_⟩
  rcases h with ⟨rfl, rfl⟩ | ⟨s', rfl, rfl, rfl⟩
  · exact absurd (by decide) h1
  · have e : argm f (s' + 1) = argm f s' := if_neg h2
    rw [e]
    exact ⟨rfl, rfl⟩
theorem AM_e {f : Nat → Int32} {s t : Nat} {b l : Int32} (h : AM f s b l) (hs : s = t + 1) : b = nI (argm f t).1 ∧ l = (argm f t).2 := by
  rcases h with ⟨rfl, rfl⟩ | ⟨s', rfl, rfl, rfl⟩
  · omega
  · have : s' = t := by omega
    subst this
    exact ⟨rfl, rfl⟩
theorem shl_pow {nc : Nat} (h : nc ≤ 6) : (1 : Int32) <<< (nI nc &&& 31) = nI (2 ^ nc) := by
  have h7 : nc < 7 := by omega
  match nc, h7 with
  | 0, _ => decide
  | 1, _ => decide
  | 2, _ => decide
  | 3, _ => decide
  | 4, _ => decide
  | 5, _ => decide
  | 6, _ => decide
theorem pow_le6 {nc : Nat} (h : nc ≤ 6) : 1 ≤ 2 ^ nc ∧ 2 ^ nc ≤ 64 := by
  have h7 : nc < 7 := by omega
  match nc, h7 with
  | 0, _ => decide
  | 1, _ => decide
  | 2, _ => decide
  | 3, _ => decide
  | 4, _ => decide
  | 5, _ => decide
  | 6, _ => decide
/-- by how much the picture of a sheet is off what grows with these causes; with this wind -/
def offE (m nu : Nat → Int32) (sz s : Nat) : Int32 := offS m nu (lnO m) sz s 40
abbrev madE (T : Nat → Nat → Int32) (tx : Nat → Nat) (d : Nat → Int32) (v k : Nat) : Nat → Int32 := gbyN T tx v (upd (bgn d) 10 (nI k))
abbrev bloE (T : Nat → Nat → Int32) (tx : Nat → Nat) (d : Nat → Int32) (v k : Nat) : Nat → Int32 := gbyN T tx v (upd (bgn d) 7 (nI k))
def madV (T : Nat → Nat → Int32) (tx : Nat → Nat) (d nu : Nat → Int32) (ss : Nat → Nat) (s v : Nat) : Nat → Int32 := fun k => offE (madE T tx d v k) nu (ss s) s
def bloV (T : Nat → Nat → Int32) (tx : Nat → Nat) (d nu : Nat → Int32) (ss : Nat → Nat) (s v : Nat) : Nat → Int32 := fun k => offE (bloE T tx d v k) nu (ss s) s
def opMade (T : Nat → Nat → Int32) (tx : Nat → Nat) (d bi nu : Nat → Int32) (ss : Nat → Nat) (nc : Nat) (s v w : Int32) : Nat × Int32 := if ¬ (0 ≤ s.toInt ∧ s.toInt ≤ 3 ∧ 0 ≤ v.toInt ∧ v.toInt ≤ 60 ∧ 0 ≤ w.toInt ∧ w.toInt ≤ 1) then (1, 0) else if (bi s.toNatClampNeg).toInt = 0 then (2, 0) else if w.toInt = 0 then (0, nI (argm (madV T tx d nu ss s.toNatClampNeg v.toNatClampNeg) (2 ^ nc - 1)).1) else (0, (argm (madV T tx d nu ss s.toNatClampNeg v.toNatClampNeg) (2 ^ nc - 1)).2)
def opBlown (T : Nat → Nat → Int32) (tx : Nat → Nat) (d bi nu : Nat → Int32) (ss : Nat → Nat) (s v : Int32) : Nat × Int32 := if ¬ (0 ≤ s.toInt ∧ s.toInt ≤ 3 ∧ 0 ≤ v.toInt ∧ v.toInt ≤ 60) then (1, 0) else if (bi s.toNatClampNeg).toInt = 0 then (2, 0) else (0, nI (argm (bloV T tx d nu ss s.toNatClampNeg v.toNatClampNeg) 99).1)
theorem opMade_0 {T : Nat → Nat → Int32} {tx : Nat → Nat} {d bi nu : Nat → Int32} {ss : Nat → Nat} {nc s v : Nat} {w b l : Int32} (hs : s < 4) (hv : v ≤ 60) (h2 : 0 ≤ w.toInt ∧ w.toInt ≤ 1) (h3 : ¬ bi s = 0) (hw : w = 0) (hb : AM (madV T tx d nu ss s v) (2 ^ nc) b l) (hn : 1 ≤ 2 ^ nc) : opMade T tx d bi nu ss nc (nI s) (nI v) w = (0, b) := by
  obtain ⟨e1, -⟩ := AM_e hb (t := 2 ^ nc - 1) (by omega)
  unfold opMade
  rw [i_nI (by omega), i_nI (by omega), nI_clamp (by omega), nI_clamp (by omega), if_neg (by omega), if_neg (fun q => h3 (eq0_of q)), if_pos (by rw [hw]; decide), e1]
theorem opMade_1 {T : Nat → Nat → Int32} {tx : Nat → Nat} {d bi nu : Nat → Int32} {ss : Nat → Nat} {nc s v : Nat} {w b l : Int32} (hs : s < 4) (hv : v ≤ 60) (h2 : 0 ≤ w.toInt ∧ w.toInt ≤ 1) (h3 : ¬ bi s = 0) (hw : ¬ w = 0) (hb : AM (madV T tx d nu ss s v) (2 ^ nc) b l) (hn : 1 ≤ 2 ^ nc) : opMade T tx d bi nu ss nc (nI s) (nI v) w = (0, l) := by
  obtain ⟨-, e1⟩ := AM_e hb (t := 2 ^ nc - 1) (by omega)
  unfold opMade
  rw [i_nI (by omega), i_nI (by omega), nI_clamp (by omega), nI_clamp (by omega), if_neg (by omega), if_neg (fun q => h3 (eq0_of q)), if_neg (fun q => hw (eq0_of q)), e1]
theorem opBlown_0 {T : Nat → Nat → Int32} {tx : Nat → Nat} {d bi nu : Nat → Int32} {ss : Nat → Nat} {s v i : Nat} {b l : Int32} (hs : s < 4) (hv : v ≤ 60) (h3 : ¬ bi s = 0) (hb : AM (bloV T tx d nu ss s v) i b l) (hi : i = 99 + 1) : opBlown T tx d bi nu ss (nI s) (nI v) = (0, b) := by
  obtain ⟨e1, -⟩ := AM_e hb hi
  unfold opBlown
  rw [i_nI (by omega), i_nI (by omega), nI_clamp (by omega), nI_clamp (by omega), if_neg (by omega), if_neg (fun q => h3 (eq0_of q)), e1]
set_option maxHeartbeats 4000000 in
set_option maxRecDepth 100000 in
theorem r_made {κ : Wc} {l : Launch} {h : Mm} {n : Nat} {o : Nat} {fo : Nat → Int32} {d : Nat → Int32} {e : Nat → Int32} {g : Nat → Int32} {nm : Nat → Int32} {nc : Nat} {tx : Nat → Nat} {im : Int32} {ba : Int32} {at_ : Int32} {sz : Int32} {fa : Int32} {op : Int32} {rm : Int32} {ti : Int32} {tm : Int32} {wh : Int32} {bi : Nat → Int32} {si : Nat → Int32} {nu : Nat → Int32} {ss : Nat → Nat} {s : Int32} {v : Int32} {w : Int32} (K0 : h o = some (.inr (12, [.ref (o + 1), .ref (o + 2), .ref (o + 3), .int im, .ref (o + 4), .int ba, .int at_, .int sz, .int fa, .int op, .ref (o + 5), .ref (o + 6), .int rm, .ref (o + 7), .ref (o + 8), .int ti, .ref (o + 9), .int tm, .int wh, .ref (o + 10), .ref (o + 11), .ref (o + 12), .ref (o + 13)]))) (K1 : h (o + 4) = arI κ 6 fo) (K2 : h (o + 1) = arI κ 340 d) (K3 : h (o + 2) = arI κ 340 e) (K4 : h (o + 5) = arI κ 3 nm) (K5 : h (o + 6) = arI κ 40 g) (K6 : h (o + 10) = arI κ 4 bi) (K7 : h (o + 11) = arI κ 4 si) (K8 : h (o + 12) = arI κ 160 nu) (q8 : ∀ u, u < 2 → d (60 + u) = nI (tx u) ∧ tx u ≤ 50) (hOk : lnOk d) (q4 : d 11 = nI nc) (q5 : nc ≤ 6) (p1 : ∀ k, k < 4 → si k = nI (ss k) ∧ ss k ≤ 40) : Con κ l yX12_made cX12_made 8 (some .int) 45 0 0 [.ref o, .int s, .int v, .int w] h n (fun q h' n' => ∃ ba' : Int32, ∃ at' : Int32, ∃ sz' : Int32, ∃ fa' : Int32, ∃ op' : Int32, ∃ nm' : Nat → Int32, ∃ rm' : Int32, ∃ e' : Nat → Int32, ∃ g' : Nat → Int32, q = some (.int (ansOf (opMade (Tx d) tx d bi nu ss nc s v w))) ∧ h' = va_up (va_up (va_up (va_up (va_up h o (some (.inr (12, [.ref (o + 1), .ref (o + 2), .ref (o + 3), .int im, .ref (o + 4), .int ba', .int at', .int sz', .int fa', .int op', .ref (o + 5), .ref (o + 6), .int rm', .ref (o + 7), .ref (o + 8), .int ti, .ref (o + 9), .int tm, .int wh, .ref (o + 10), .ref (o + 11), .ref (o + 12), .ref (o + 13)])))) (o + 5) (arI κ 3 nm')) (o + 2) (arI κ 340 e')) (o + 6) (arI κ 40 g')) (o + 4) (arI κ 6 (bump (opMade (Tx d) tx d bi nu ss nc s v w) fo)) ∧ n' = n) := by
  refine Con.of mk_X12_made (Nat.le_of_ble_eq_true rfl) (fun G hG X E => ?_)
  subst hG
  refine z_ls (ls' := [(0, .ref o), (1, .int s), (2, .int v), (3, .int w)]) rfl ?_
  refine z_iload_n X 1 dX12_made_0 rfl ?_
  refine z_callS X (r_isSheet (κ := κ) (n := n) (v := (s))  ) mk_X12_isSheet dX12_made_1 wd_1036 wd_1037 rfl rfl (Nat.le_of_ble_eq_true rfl) (Nat.le_of_ble_eq_true rfl) (Nat.le_of_ble_eq_true rfl) (by omega) (by omega) (fun q zh1 zm3 zp4 => ?_)
  obtain ⟨rfl, ze2, zn5⟩ := zp4
  subst zm3
  subst zh1
  refine z_st (st' := [.int (b2i (0 ≤ (s : Int32).toInt ∧ (s : Int32).toInt ≤ 3))]) rfl ?_
  refine z_if_eq X 24 dX12_made_4 (by decide) (fun zc6 => ?_) (fun zc6 => ?_)
  · replace zc6 := b2i_f zc6
    refine z_aload_n X 0 dX12_made_24 rfl ?_
    refine z_iconst (v := 1) X dX12_made_25 (by decide) ?_
    refine z_callV X (r_finds (κ := κ) (n := n) (o := (o)) (k := (1)) (fo := (fo)) (im := (im)) (ba := (ba)) (at_ := (at_)) (sz := (sz)) (fa := (fa)) (op := (op)) (rm := (rm)) (ti := (ti)) (tm := (tm)) (wh := (wh)) K0 K1 (by first | assumption | omega) (by first | assumption | omega)) mk_X12_finds dX12_made_26 wd_1018 wd_1020 wd_24 rfl K0 rfl rfl rfl (Nat.le_of_ble_eq_true rfl) (Nat.le_of_ble_eq_true rfl) (Nat.le_of_ble_eq_true rfl) (by omega) (by omega) (fun q zh7 zm9 zp10 => ?_)
    obtain ⟨rfl, ze8, zn11⟩ := zp10
    subst zm9
    refine z_st (st' := [.int (lowE 1)]) rfl ?_
    have zK12 : zh7 o = some (.inr (12, [.ref (o + 1), .ref (o + 2), .ref (o + 3), .int im, .ref (o + 4), .int ba, .int at_, .int sz, .int fa, .int op, .ref (o + 5), .ref (o + 6), .int rm, .ref (o + 7), .ref (o + 8), .int ti, .ref (o + 9), .int tm, .int wh, .ref (o + 10), .ref (o + 11), .ref (o + 12), .ref (o + 13)])) := by rw [ze8]; rw [va_up_ne _ _ (show o ≠ o + 4 by omega)]; exact K0
    have zK13 : zh7 (o + 4) = arI κ 6 (bmp fo 1) := by rw [ze8]; exact va_up_self _ _ _
    have zK14 : zh7 (o + 1) = arI κ 340 d := by rw [ze8]; rw [va_up_ne _ _ (show o + 1 ≠ o + 4 by omega)]; exact K2
    have zK15 : zh7 (o + 2) = arI κ 340 e := by rw [ze8]; rw [va_up_ne _ _ (show o + 2 ≠ o + 4 by omega)]; exact K3
    have zK16 : zh7 (o + 5) = arI κ 3 nm := by rw [ze8]; rw [va_up_ne _ _ (show o + 5 ≠ o + 4 by omega)]; exact K4
    have zK17 : zh7 (o + 6) = arI κ 40 g := by rw [ze8]; rw [va_up_ne _ _ (show o + 6 ≠ o + 4 by omega)]; exact K5
    have zK18 : zh7 (o + 10) = arI κ 4 bi := by rw [ze8]; rw [va_up_ne _ _ (show o + 10 ≠ o + 4 by omega)]; exact K6
    have zK19 : zh7 (o + 11) = arI κ 4 si := by rw [ze8]; rw [va_up_ne _ _ (show o + 11 ≠ o + 4 by omega)]; exact K7
    have zK20 : zh7 (o + 12) = arI κ 160 nu := by rw [ze8]; rw [va_up_ne _ _ (show o + 12 ≠ o + 4 by omega)]; exact K8
    refine z_iret X E dX12_made_29 (by omega) (by omega) ⟨ba, at_, sz, fa, op, nm, rm, e, g, ?_, ?_, ?_⟩
    · generalize hz : opMade (Tx d) tx d bi nu ss nc s v w = z; unfold opMade at hz; (try simp only [ i_eq, i_lt, i_le, show (-1 : Int32).toInt = -1 by decide, show (0 : Int32).toInt = 0 by decide, show (1 : Int32).toInt = 1 by decide, show (2 : Int32).toInt = 2 by decide, show (3 : Int32).toInt = 3 by decide, show (4 : Int32).toInt = 4 by decide, show (5 : Int32).toInt = 5 by decide, show (6 : Int32).toInt = 6 by decide, show (7 : Int32).toInt = 7 by decide, show (8 : Int32).toInt = 8 by decide, show (9 : Int32).toInt = 9 by decide, show (10 : Int32).toInt = 10 by decide, show (11 : Int32).toInt = 11 by decide, show (12 : Int32).toInt = 12 by decide, show (13 : Int32).toInt = 13 by decide, show (14 : Int32).toInt = 14 by decide, show (15 : Int32).toInt = 15 by decide, show (16 : Int32).toInt = 16 by decide, show (20 : Int32).toInt = 20 by decide, show (39 : Int32).toInt = 39 by decide, show (40 : Int32).toInt = 40 by decide, show (50 : Int32).toInt = 50 by decide, show (60 : Int32).toInt = 60 by decide, show (99 : Int32).toInt = 99 by decide, show (100 : Int32).toInt = 100 by decide, show (999 : Int32).toInt = 999 by decide, show (9999 : Int32).toInt = 9999 by decide, show (99999 : Int32).toInt = 99999 by decide, show (999999 : Int32).toInt = 999999 by decide, show (9999999 : Int32).toInt = 9999999 by decide, show (-50 : Int32).toInt = -50 by decide, show (32 : Int32).toInt = 32 by decide] at *); (repeat first | rw [if_pos (by omega)] at hz | rw [if_neg (by omega)] at hz); subst hz; first | exact congrArg (fun z => some (Value.int z)) (ansOf_0 _).symm | rfl
    · generalize hz : opMade (Tx d) tx d bi nu ss nc s v w = z; unfold opMade at hz; (try simp only [ i_eq, i_lt, i_le, show (-1 : Int32).toInt = -1 by decide, show (0 : Int32).toInt = 0 by decide, show (1 : Int32).toInt = 1 by decide, show (2 : Int32).toInt = 2 by decide, show (3 : Int32).toInt = 3 by decide, show (4 : Int32).toInt = 4 by decide, show (5 : Int32).toInt = 5 by decide, show (6 : Int32).toInt = 6 by decide, show (7 : Int32).toInt = 7 by decide, show (8 : Int32).toInt = 8 by decide, show (9 : Int32).toInt = 9 by decide, show (10 : Int32).toInt = 10 by decide, show (11 : Int32).toInt = 11 by decide, show (12 : Int32).toInt = 12 by decide, show (13 : Int32).toInt = 13 by decide, show (14 : Int32).toInt = 14 by decide, show (15 : Int32).toInt = 15 by decide, show (16 : Int32).toInt = 16 by decide, show (20 : Int32).toInt = 20 by decide, show (39 : Int32).toInt = 39 by decide, show (40 : Int32).toInt = 40 by decide, show (50 : Int32).toInt = 50 by decide, show (60 : Int32).toInt = 60 by decide, show (99 : Int32).toInt = 99 by decide, show (100 : Int32).toInt = 100 by decide, show (999 : Int32).toInt = 999 by decide, show (9999 : Int32).toInt = 9999 by decide, show (99999 : Int32).toInt = 99999 by decide, show (999999 : Int32).toInt = 999999 by decide, show (9999999 : Int32).toInt = 9999999 by decide, show (-50 : Int32).toInt = -50 by decide, show (32 : Int32).toInt = 32 by decide] at *); (repeat first | rw [if_pos (by omega)] at hz | rw [if_neg (by omega)] at hz); subst hz; funext zz; by_cases zq4 : zz = o + 4; (rw [zq4, va_up_self]; exact zK13); by_cases zq3 : zz = o + 6; (rw [zq3, va_up_ne _ _ (show o + 6 ≠ o + 4 by omega), va_up_self]; exact zK17); by_cases zq2 : zz = o + 2; (rw [zq2, va_up_ne _ _ (show o + 2 ≠ o + 4 by omega), va_up_ne _ _ (show o + 2 ≠ o + 6 by omega), va_up_self]; exact zK15); by_cases zq1 : zz = o + 5; (rw [zq1, va_up_ne _ _ (show o + 5 ≠ o + 4 by omega), va_up_ne _ _ (show o + 5 ≠ o + 6 by omega), va_up_ne _ _ (show o + 5 ≠ o + 2 by omega), va_up_self]; exact zK16); by_cases zq0 : zz = o; (rw [zq0, va_up_ne _ _ (show o ≠ o + 4 by omega), va_up_ne _ _ (show o ≠ o + 6 by omega), va_up_ne _ _ (show o ≠ o + 2 by omega), va_up_ne _ _ (show o ≠ o + 5 by omega), va_up_self]; exact zK12); rw [va_up_ne _ _ zq4, va_up_ne _ _ zq3, va_up_ne _ _ zq2, va_up_ne _ _ zq1, va_up_ne _ _ zq0]; rw [ze8]; simp only [va_up, if_neg zq0, if_neg zq1, if_neg zq2, if_neg zq3, if_neg zq4]
    · rfl
  · replace zc6 := b2i_t zc6
    refine z_iload_n X 2 dX12_made_7 rfl ?_
    refine z_callS X (r_isAhead (κ := κ) (n := n) (v := (v))  ) mk_X12_isAhead dX12_made_8 wd_1200 wd_1201 rfl rfl (Nat.le_of_ble_eq_true rfl) (Nat.le_of_ble_eq_true rfl) (Nat.le_of_ble_eq_true rfl) (by omega) (by omega) (fun q zh21 zm23 zp24 => ?_)
    obtain ⟨rfl, ze22, zn25⟩ := zp24
    subst zm23
    subst zh21
    refine z_st (st' := [.int (b2i (0 ≤ (v : Int32).toInt ∧ (v : Int32).toInt ≤ 60))]) rfl ?_
    refine z_if_eq X 24 dX12_made_11 (by decide) (fun zc26 => ?_) (fun zc26 => ?_)
    · replace zc26 := b2i_f zc26
      refine z_aload_n X 0 dX12_made_24 rfl ?_
      refine z_iconst (v := 1) X dX12_made_25 (by decide) ?_
      refine z_callV X (r_finds (κ := κ) (n := n) (o := (o)) (k := (1)) (fo := (fo)) (im := (im)) (ba := (ba)) (at_ := (at_)) (sz := (sz)) (fa := (fa)) (op := (op)) (rm := (rm)) (ti := (ti)) (tm := (tm)) (wh := (wh)) K0 K1 (by first | assumption | omega) (by first | assumption | omega)) mk_X12_finds dX12_made_26 wd_1018 wd_1020 wd_24 rfl K0 rfl rfl rfl (Nat.le_of_ble_eq_true rfl) (Nat.le_of_ble_eq_true rfl) (Nat.le_of_ble_eq_true rfl) (by omega) (by omega) (fun q zh27 zm29 zp30 => ?_)
      obtain ⟨rfl, ze28, zn31⟩ := zp30
      subst zm29
      refine z_st (st' := [.int (lowE 1)]) rfl ?_
      have zK32 : zh27 o = some (.inr (12, [.ref (o + 1), .ref (o + 2), .ref (o + 3), .int im, .ref (o + 4), .int ba, .int at_, .int sz, .int fa, .int op, .ref (o + 5), .ref (o + 6), .int rm, .ref (o + 7), .ref (o + 8), .int ti, .ref (o + 9), .int tm, .int wh, .ref (o + 10), .ref (o + 11), .ref (o + 12), .ref (o + 13)])) := by rw [ze28]; rw [va_up_ne _ _ (show o ≠ o + 4 by omega)]; exact K0
      have zK33 : zh27 (o + 4) = arI κ 6 (bmp fo 1) := by rw [ze28]; exact va_up_self _ _ _
      have zK34 : zh27 (o + 1) = arI κ 340 d := by rw [ze28]; rw [va_up_ne _ _ (show o + 1 ≠ o + 4 by omega)]; exact K2
      have zK35 : zh27 (o + 2) = arI κ 340 e := by rw [ze28]; rw [va_up_ne _ _ (show o + 2 ≠ o + 4 by omega)]; exact K3
      have zK36 : zh27 (o + 5) = arI κ 3 nm := by rw [ze28]; rw [va_up_ne _ _ (show o + 5 ≠ o + 4 by omega)]; exact K4
      have zK37 : zh27 (o + 6) = arI κ 40 g := by rw [ze28]; rw [va_up_ne _ _ (show o + 6 ≠ o + 4 by omega)]; exact K5
      have zK38 : zh27 (o + 10) = arI κ 4 bi := by rw [ze28]; rw [va_up_ne _ _ (show o + 10 ≠ o + 4 by omega)]; exact K6
      have zK39 : zh27 (o + 11) = arI κ 4 si := by rw [ze28]; rw [va_up_ne _ _ (show o + 11 ≠ o + 4 by omega)]; exact K7
      have zK40 : zh27 (o + 12) = arI κ 160 nu := by rw [ze28]; rw [va_up_ne _ _ (show o + 12 ≠ o + 4 by omega)]; exact K8
      refine z_iret X E dX12_made_29 (by omega) (by omega) ⟨ba, at_, sz, fa, op, nm, rm, e, g, ?_, ?_, ?_⟩
      · generalize hz : opMade (Tx d) tx d bi nu ss nc s v w = z; unfold opMade at hz; (try simp only [ i_eq, i_lt, i_le, show (-1 : Int32).toInt = -1 by decide, show (0 : Int32).toInt = 0 by decide, show (1 : Int32).toInt = 1 by decide, show (2 : Int32).toInt = 2 by decide, show (3 : Int32).toInt = 3 by decide, show (4 : Int32).toInt = 4 by decide, show (5 : Int32).toInt = 5 by decide, show (6 : Int32).toInt = 6 by decide, show (7 : Int32).toInt = 7 by decide, show (8 : Int32).toInt = 8 by decide, show (9 : Int32).toInt = 9 by decide, show (10 : Int32).toInt = 10 by decide, show (11 : Int32).toInt = 11 by decide, show (12 : Int32).toInt = 12 by decide, show (13 : Int32).toInt = 13 by decide, show (14 : Int32).toInt = 14 by decide, show (15 : Int32).toInt = 15 by decide, show (16 : Int32).toInt = 16 by decide, show (20 : Int32).toInt = 20 by decide, show (39 : Int32).toInt = 39 by decide, show (40 : Int32).toInt = 40 by decide, show (50 : Int32).toInt = 50 by decide, show (60 : Int32).toInt = 60 by decide, show (99 : Int32).toInt = 99 by decide, show (100 : Int32).toInt = 100 by decide, show (999 : Int32).toInt = 999 by decide, show (9999 : Int32).toInt = 9999 by decide, show (99999 : Int32).toInt = 99999 by decide, show (999999 : Int32).toInt = 999999 by decide, show (9999999 : Int32).toInt = 9999999 by decide, show (-50 : Int32).toInt = -50 by decide, show (32 : Int32).toInt = 32 by decide] at *); (repeat first | rw [if_pos (by omega)] at hz | rw [if_neg (by omega)] at hz); subst hz; first | exact congrArg (fun z => some (Value.int z)) (ansOf_0 _).symm | rfl
      · generalize hz : opMade (Tx d) tx d bi nu ss nc s v w = z; unfold opMade at hz; (try simp only [ i_eq, i_lt, i_le, show (-1 : Int32).toInt = -1 by decide, show (0 : Int32).toInt = 0 by decide, show (1 : Int32).toInt = 1 by decide, show (2 : Int32).toInt = 2 by decide, show (3 : Int32).toInt = 3 by decide, show (4 : Int32).toInt = 4 by decide, show (5 : Int32).toInt = 5 by decide, show (6 : Int32).toInt = 6 by decide, show (7 : Int32).toInt = 7 by decide, show (8 : Int32).toInt = 8 by decide, show (9 : Int32).toInt = 9 by decide, show (10 : Int32).toInt = 10 by decide, show (11 : Int32).toInt = 11 by decide, show (12 : Int32).toInt = 12 by decide, show (13 : Int32).toInt = 13 by decide, show (14 : Int32).toInt = 14 by decide, show (15 : Int32).toInt = 15 by decide, show (16 : Int32).toInt = 16 by decide, show (20 : Int32).toInt = 20 by decide, show (39 : Int32).toInt = 39 by decide, show (40 : Int32).toInt = 40 by decide, show (50 : Int32).toInt = 50 by decide, show (60 : Int32).toInt = 60 by decide, show (99 : Int32).toInt = 99 by decide, show (100 : Int32).toInt = 100 by decide, show (999 : Int32).toInt = 999 by decide, show (9999 : Int32).toInt = 9999 by decide, show (99999 : Int32).toInt = 99999 by decide, show (999999 : Int32).toInt = 999999 by decide, show (9999999 : Int32).toInt = 9999999 by decide, show (-50 : Int32).toInt = -50 by decide, show (32 : Int32).toInt = 32 by decide] at *); (repeat first | rw [if_pos (by omega)] at hz | rw [if_neg (by omega)] at hz); subst hz; funext zz; by_cases zq4 : zz = o + 4; (rw [zq4, va_up_self]; exact zK33); by_cases zq3 : zz = o + 6; (rw [zq3, va_up_ne _ _ (show o + 6 ≠ o + 4 by omega), va_up_self]; exact zK37); by_cases zq2 : zz = o + 2; (rw [zq2, va_up_ne _ _ (show o + 2 ≠ o + 4 by omega), va_up_ne _ _ (show o + 2 ≠ o + 6 by omega), va_up_self]; exact zK35); by_cases zq1 : zz = o + 5; (rw [zq1, va_up_ne _ _ (show o + 5 ≠ o + 4 by omega), va_up_ne _ _ (show o + 5 ≠ o + 6 by omega), va_up_ne _ _ (show o + 5 ≠ o + 2 by omega), va_up_self]; exact zK36); by_cases zq0 : zz = o; (rw [zq0, va_up_ne _ _ (show o ≠ o + 4 by omega), va_up_ne _ _ (show o ≠ o + 6 by omega), va_up_ne _ _ (show o ≠ o + 2 by omega), va_up_ne _ _ (show o ≠ o + 5 by omega), va_up_self]; exact zK32); rw [va_up_ne _ _ zq4, va_up_ne _ _ zq3, va_up_ne _ _ zq2, va_up_ne _ _ zq1, va_up_ne _ _ zq0]; rw [ze28]; simp only [va_up, if_neg zq0, if_neg zq1, if_neg zq2, if_neg zq3, if_neg zq4]
      · rfl
    · replace zc26 := b2i_t zc26
      refine z_iload_n X 3 dX12_made_14 rfl ?_
      refine z_i2l X dX12_made_15 rfl ?_
      refine z_lconst (v := 0) X dX12_made_16 (by decide) ?_
      refine z_lconst (v := 1) X dX12_made_17 (by decide) ?_
      refine z_callS X (r_in (κ := κ) (n := n) (v := (w.toInt64)) (lo := (0 : Int64)) (hi := (1 : Int64))  ) mk_X12_in dX12_made_18 wd_1014 wd_1015 rfl rfl (Nat.le_of_ble_eq_true rfl) (Nat.le_of_ble_eq_true rfl) (Nat.le_of_ble_eq_true rfl) (by omega) (by omega) (fun q zh41 zm43 zp44 => ?_)
      obtain ⟨rfl, ze42, zn45⟩ := zp44
      subst zm43
      subst zh41
      refine z_st (st' := [.int (b2i ((0 : Int64).toInt ≤ (w.toInt64 : Int64).toInt ∧ (w.toInt64 : Int64).toInt ≤ (1 : Int64).toInt))]) rfl ?_
      refine z_toe (y := b2i (0 ≤ w.toInt ∧ w.toInt ≤ 1)) (by simp only [Int32.toInt_toInt64, show (0 : Int64).toInt = 0 by decide, show (1 : Int64).toInt = 1 by decide]) ?_
      refine z_if_ne X 30 dX12_made_21 (by decide) (fun zc46 => ?_) (fun zc46 => ?_)
      · replace zc46 := b2i_t zc46
        have hww : 0 ≤ w.toInt ∧ w.toInt ≤ 1 := by assumption
        obtain ⟨sk, hsk, rfl⟩ := ix_of (c := s) (len := 4) (by omega) (by omega)
        obtain ⟨vk, hvk, rfl⟩ := ix_of (c := v) (len := 61) (by omega) (by omega)
        have hss := (p1 sk hsk).2
        refine z_aload_n X 0 dX12_made_30 rfl ?_
        refine z_get X fl_X12_37_12 dX12_made_31 K0 rfl ?_
        refine z_iload_n X 1 dX12_made_34 rfl ?_
        refine z_iald2 (v := bi sk) X dX12_made_35 K6 (vp_in_nI (n := sk) (by omega) (by omega)) (congrArg bi (nI_clamp (n := sk) (by omega))) ?_
        refine z_if_ne X 45 dX12_made_36 (by decide) (fun zc47 => ?_) (fun zc47 => ?_)
        · have hp6 := pow_le6 q5
          refine z_iconst (v := -1) X dX12_made_45 (by decide) ?_
          refine z_istore (ls' := [(4, .int ((-1))), (0, .ref o), (1, .int (nI sk)), (2, .int (nI vk)), (3, .int w)]) X dX12_made_46 (by decide) rfl ?_
          refine z_iconst (v := 0) X dX12_made_48 (by decide) ?_
          refine z_istore (ls' := [(5, .int 0), (4, .int ((-1))), (0, .ref o), (1, .int (nI sk)), (2, .int (nI vk)), (3, .int w)]) X dX12_made_49 (by decide) rfl ?_
          refine z_iconst (v := 0) X dX12_made_51 (by decide) ?_
          refine z_istore (ls' := [(6, .int 0), (5, .int 0), (4, .int ((-1))), (0, .ref o), (1, .int (nI sk)), (2, .int (nI vk)), (3, .int w)]) X dX12_made_52 (by decide) rfl ?_
          have L54 : ∀ (jj : Nat) (hh54 : Mm)  (i : Nat) (ba2 : Int32) (at2 : Int32) (sz2 : Int32) (fa2 : Int32) (op2 : Int32) (nm2 : Nat → Int32) (e2 : Nat → Int32) (b : Int32) (l : Int32), (2 ^ nc - i < jj) → (hh54 = va_up (va_up (va_up h o (some (.inr (12, [.ref (o + 1), .ref (o + 2), .ref (o + 3), .int im, .ref (o + 4), .int ba2, .int at2, .int sz2, .int fa2, .int op2, .ref (o + 5), .ref (o + 6), .int rm, .ref (o + 7), .ref (o + 8), .int ti, .ref (o + 9), .int tm, .int wh, .ref (o + 10), .ref (o + 11), .ref (o + 12), .ref (o + 13)])))) (o + 5) (arI κ 3 nm2)) (o + 2) (arI κ 340 e2)) → (hi : i ≤ 2 ^ nc) → (hA : AM (madV (Tx d) tx d nu ss sk vk) i b l) → Z κ G 8 54 [(0, .ref o), (1, .int (nI sk)), (2, .int (nI vk)), (3, .int w), (4, .int b), (5, .int l), (6, .int (nI i))] [] hh54 n 0 (0) := by
            intro jj
            induction jj with
            | zero => intro hh54 i ba2 at2 sz2 fa2 op2 nm2 e2 b l hmu; exact absurd hmu (Nat.not_lt_zero _)
            | succ jj ih54 =>
              intro hh54 i ba2 at2 sz2 fa2 op2 nm2 e2 b l hmu he54 hi hA
              have zK48 : hh54 o = some (.inr (12, [.ref (o + 1), .ref (o + 2), .ref (o + 3), .int im, .ref (o + 4), .int ba2, .int at2, .int sz2, .int fa2, .int op2, .ref (o + 5), .ref (o + 6), .int rm, .ref (o + 7), .ref (o + 8), .int ti, .ref (o + 9), .int tm, .int wh, .ref (o + 10), .ref (o + 11), .ref (o + 12), .ref (o + 13)])) := by rw [he54]; rw [va_up_ne _ _ (show o ≠ o + 2 by omega)]; rw [va_up_ne _ _ (show o ≠ o + 5 by omega)]; exact va_up_self _ _ _
              have zK49 : hh54 (o + 4) = arI κ 6 fo := by rw [he54]; rw [va_up_ne _ _ (show o + 4 ≠ o + 2 by omega)]; rw [va_up_ne _ _ (show o + 4 ≠ o + 5 by omega)]; rw [va_up_ne _ _ (show o + 4 ≠ o by omega)]; exact K1
              have zK50 : hh54 (o + 1) = arI κ 340 d := by rw [he54]; rw [va_up_ne _ _ (show o + 1 ≠ o + 2 by omega)]; rw [va_up_ne _ _ (show o + 1 ≠ o + 5 by omega)]; rw [va_up_ne _ _ (show o + 1 ≠ o by omega)]; exact K2
              have zK51 : hh54 (o + 2) = arI κ 340 e2 := by rw [he54]; exact va_up_self _ _ _
              have zK52 : hh54 (o + 5) = arI κ 3 nm2 := by rw [he54]; rw [va_up_ne _ _ (show o + 5 ≠ o + 2 by omega)]; exact va_up_self _ _ _
              have zK53 : hh54 (o + 6) = arI κ 40 g := by rw [he54]; rw [va_up_ne _ _ (show o + 6 ≠ o + 2 by omega)]; rw [va_up_ne _ _ (show o + 6 ≠ o + 5 by omega)]; rw [va_up_ne _ _ (show o + 6 ≠ o by omega)]; exact K5
              have zK54 : hh54 (o + 10) = arI κ 4 bi := by rw [he54]; rw [va_up_ne _ _ (show o + 10 ≠ o + 2 by omega)]; rw [va_up_ne _ _ (show o + 10 ≠ o + 5 by omega)]; rw [va_up_ne _ _ (show o + 10 ≠ o by omega)]; exact K6
              have zK55 : hh54 (o + 11) = arI κ 4 si := by rw [he54]; rw [va_up_ne _ _ (show o + 11 ≠ o + 2 by omega)]; rw [va_up_ne _ _ (show o + 11 ≠ o + 5 by omega)]; rw [va_up_ne _ _ (show o + 11 ≠ o by omega)]; exact K7
              have zK56 : hh54 (o + 12) = arI κ 160 nu := by rw [he54]; rw [va_up_ne _ _ (show o + 12 ≠ o + 2 by omega)]; rw [va_up_ne _ _ (show o + 12 ≠ o + 5 by omega)]; rw [va_up_ne _ _ (show o + 12 ≠ o by omega)]; exact K8
              refine z_iload X 6 dX12_made_54 rfl ?_
              refine z_iconst (v := 1) X dX12_made_56 (by decide) ?_
              refine z_aload_n X 0 dX12_made_57 rfl ?_
              refine z_get X fl_X12_7_12 dX12_made_58 zK48 rfl ?_
              refine z_bipush (v := 11) X dX12_made_61 (by decide) ?_
              refine z_iald2 (v := d 11) X dX12_made_63 zK50 (vp_in_nI (n := 11) (by omega) (by omega)) (congrArg d (nI_clamp (n := 11) (by omega))) ?_
              refine z_toe (y := nI nc) (q4) ?_
              refine z_ishl X dX12_made_64 ?_
              refine z_toe (y := nI (2 ^ nc)) (shl_pow q5) ?_
              refine z_icmp_ge X 123 dX12_made_65 (by decide) (fun zc57 => ?_) (fun zc57 => ?_)
              · try replace zc57 := (nI_leI (a := 2 ^ nc) (b := i) (by omega) (by omega)).mp zc57
                refine z_iload_n X 3 dX12_made_123 rfl ?_
                refine z_if_ne X 132 dX12_made_124 (by decide) (fun zc58 => ?_) (fun zc58 => ?_)
                · refine z_iload X 5 dX12_made_132 rfl ?_
                  refine z_iret X E dX12_made_134 (by omega) (by omega) ⟨ba2, at2, sz2, fa2, op2, nm2, rm, e2, g, ?_, ?_, ?_⟩
                  · rw [opMade_1 hsk (by omega) hww (by assumption) zc58 (by rw [show 2 ^ nc = i by omega]; exact hA) hp6.1]; first | exact congrArg (fun z => some (Value.int z)) (ansOf_0 _).symm | rfl
                  · rw [opMade_1 hsk (by omega) hww (by assumption) zc58 (by rw [show 2 ^ nc = i by omega]; exact hA) hp6.1]; funext zz; by_cases zq4 : zz = o + 4; (rw [zq4, va_up_self]; exact zK49); by_cases zq3 : zz = o + 6; (rw [zq3, va_up_ne _ _ (show o + 6 ≠ o + 4 by omega), va_up_self]; exact zK53); by_cases zq2 : zz = o + 2; (rw [zq2, va_up_ne _ _ (show o + 2 ≠ o + 4 by omega), va_up_ne _ _ (show o + 2 ≠ o + 6 by omega), va_up_self]; exact zK51); by_cases zq1 : zz = o + 5; (rw [zq1, va_up_ne _ _ (show o + 5 ≠ o + 4 by omega), va_up_ne _ _ (show o + 5 ≠ o + 6 by omega), va_up_ne _ _ (show o + 5 ≠ o + 2 by omega), va_up_self]; exact zK52); by_cases zq0 : zz = o; (rw [zq0, va_up_ne _ _ (show o ≠ o + 4 by omega), va_up_ne _ _ (show o ≠ o + 6 by omega), va_up_ne _ _ (show o ≠ o + 2 by omega), va_up_ne _ _ (show o ≠ o + 5 by omega), va_up_self]; exact zK48); rw [va_up_ne _ _ zq4, va_up_ne _ _ zq3, va_up_ne _ _ zq2, va_up_ne _ _ zq1, va_up_ne _ _ zq0]; rw [he54]; simp only [va_up, if_neg zq0, if_neg zq1, if_neg zq2, if_neg zq3, if_neg zq4]
                  · rfl
                · refine z_iload X 4 dX12_made_127 rfl ?_
                  refine z_goto X 134 dX12_made_129 (by decide) ?_
                  refine z_iret X E dX12_made_134 (by omega) (by omega) ⟨ba2, at2, sz2, fa2, op2, nm2, rm, e2, g, ?_, ?_, ?_⟩
                  · rw [opMade_0 hsk (by omega) hww (by assumption) zc58 (by rw [show 2 ^ nc = i by omega]; exact hA) hp6.1]; first | exact congrArg (fun z => some (Value.int z)) (ansOf_0 _).symm | rfl
                  · rw [opMade_0 hsk (by omega) hww (by assumption) zc58 (by rw [show 2 ^ nc = i by omega]; exact hA) hp6.1]; funext zz; by_cases zq4 : zz = o + 4; (rw [zq4, va_up_self]; exact zK49); by_cases zq3 : zz = o + 6; (rw [zq3, va_up_ne _ _ (show o + 6 ≠ o + 4 by omega), va_up_self]; exact zK53); by_cases zq2 : zz = o + 2; (rw [zq2, va_up_ne _ _ (show o + 2 ≠ o + 4 by omega), va_up_ne _ _ (show o + 2 ≠ o + 6 by omega), va_up_self]; exact zK51); by_cases zq1 : zz = o + 5; (rw [zq1, va_up_ne _ _ (show o + 5 ≠ o + 4 by omega), va_up_ne _ _ (show o + 5 ≠ o + 6 by omega), va_up_ne _ _ (show o + 5 ≠ o + 2 by omega), va_up_self]; exact zK52); by_cases zq0 : zz = o; (rw [zq0, va_up_ne _ _ (show o ≠ o + 4 by omega), va_up_ne _ _ (show o ≠ o + 6 by omega), va_up_ne _ _ (show o ≠ o + 2 by omega), va_up_ne _ _ (show o ≠ o + 5 by omega), va_up_self]; exact zK48); rw [va_up_ne _ _ zq4, va_up_ne _ _ zq3, va_up_ne _ _ zq2, va_up_ne _ _ zq1, va_up_ne _ _ zq0]; rw [he54]; simp only [va_up, if_neg zq0, if_neg zq1, if_neg zq2, if_neg zq3, if_neg zq4]
                  · rfl
              · try replace zc57 := mt (nI_leI (a := 2 ^ nc) (b := i) (by omega) (by omega)).mpr zc57
                refine z_aload_n X 0 dX12_made_68 rfl ?_
                refine z_callV X (r_begins (κ := κ) (n := n) (o := (o)) (d := (d)) (e := (e2)) (im := (im)) (ba := (ba2)) (at_ := (at2)) (sz := (sz2)) (fa := (fa2)) (op := (op2)) (rm := (rm)) (ti := (ti)) (tm := (tm)) (wh := (wh)) zK48 zK50 zK51 ) mk_X12_begins dX12_made_69 wd_1263 wd_1265 wd_47 rfl zK48 rfl rfl rfl (Nat.le_of_ble_eq_true rfl) (Nat.le_of_ble_eq_true rfl) (Nat.le_of_ble_eq_true rfl) (by omega) (by omega) (fun q zh59 zm61 zp62 => ?_)
                obtain ⟨rfl, ze60, zn63⟩ := zp62
                subst zm61
                refine z_st (st' := []) rfl ?_
                have zK64 : zh59 o = some (.inr (12, [.ref (o + 1), .ref (o + 2), .ref (o + 3), .int im, .ref (o + 4), .int ba2, .int at2, .int sz2, .int fa2, .int op2, .ref (o + 5), .ref (o + 6), .int rm, .ref (o + 7), .ref (o + 8), .int ti, .ref (o + 9), .int tm, .int wh, .ref (o + 10), .ref (o + 11), .ref (o + 12), .ref (o + 13)])) := by rw [ze60]; rw [va_up_ne _ _ (show o ≠ o + 2 by omega)]; exact zK48
                have zK65 : zh59 (o + 4) = arI κ 6 fo := by rw [ze60]; rw [va_up_ne _ _ (show o + 4 ≠ o + 2 by omega)]; exact zK49
                have zK66 : zh59 (o + 1) = arI κ 340 d := by rw [ze60]; rw [va_up_ne _ _ (show o + 1 ≠ o + 2 by omega)]; exact zK50
                have zK67 : zh59 (o + 2) = arI κ 340 (bgn d) := by rw [ze60]; exact va_up_self _ _ _
                have zK68 : zh59 (o + 5) = arI κ 3 nm2 := by rw [ze60]; rw [va_up_ne _ _ (show o + 5 ≠ o + 2 by omega)]; exact zK52
                have zK69 : zh59 (o + 6) = arI κ 40 g := by rw [ze60]; rw [va_up_ne _ _ (show o + 6 ≠ o + 2 by omega)]; exact zK53
                have zK70 : zh59 (o + 10) = arI κ 4 bi := by rw [ze60]; rw [va_up_ne _ _ (show o + 10 ≠ o + 2 by omega)]; exact zK54
                have zK71 : zh59 (o + 11) = arI κ 4 si := by rw [ze60]; rw [va_up_ne _ _ (show o + 11 ≠ o + 2 by omega)]; exact zK55
                have zK72 : zh59 (o + 12) = arI κ 160 nu := by rw [ze60]; rw [va_up_ne _ _ (show o + 12 ≠ o + 2 by omega)]; exact zK56
                refine z_aload_n X 0 dX12_made_72 rfl ?_
                refine z_get X fl_X12_13_12 dX12_made_73 zK64 rfl ?_
                refine z_bipush (v := 10) X dX12_made_76 (by decide) ?_
                refine z_iload X 6 dX12_made_78 rfl ?_
                refine z_iast X dX12_made_80 zK67 (vp_in_nI (n := 10) (by omega) (by omega)) (congrArg (fun z => va_up zh59 (o + 2) (arI κ 340 (upd (bgn d) z (nI i)))) (nI_clamp (n := 10) (by omega))) ?_
                obtain ⟨zh73, ze74⟩ : ∃ z : Mm, z = va_up zh59 (o + 2) (arI κ 340 (upd (bgn d) 10 (nI i))) := ⟨_, rfl⟩
                refine z_heap (h' := zh73) ze74.symm ?_
                have zK75 := up_off ze74 (show o ≠ o + 2 by omega) zK64
                have zK76 := up_off ze74 (show o + 4 ≠ o + 2 by omega) zK65
                have zK77 := up_off ze74 (show o + 1 ≠ o + 2 by omega) zK66
                have zK78 := up_at ze74
                have zK79 := up_off ze74 (show o + 5 ≠ o + 2 by omega) zK68
                have zK80 := up_off ze74 (show o + 6 ≠ o + 2 by omega) zK69
                have zK81 := up_off ze74 (show o + 10 ≠ o + 2 by omega) zK70
                have zK82 := up_off ze74 (show o + 11 ≠ o + 2 by omega) zK71
                have zK83 := up_off ze74 (show o + 12 ≠ o + 2 by omega) zK72
                refine z_aload_n X 0 dX12_made_81 rfl ?_
                refine z_iload_n X 2 dX12_made_82 rfl ?_
                refine z_callV X (r_goesAhead (κ := κ) (n := n) (o := (o)) (v := (vk)) (d := (d)) (m := (upd (bgn d) 10 (nI i))) (nm := (nm2)) (nc := (nc)) (im := (im)) (ba := (ba2)) (at_ := (at2)) (sz := (sz2)) (fa := (fa2)) (op := (op2)) (rm := (rm)) (ti := (ti)) (tm := (tm)) (wh := (wh)) zK75 zK77 zK78 zK79 (q8) (lnOk_upd (bgn_ok d) (by omega)) ((pk_un (by omega)).trans ((bgn_off (by omega)).trans q4)) (by first | assumption | omega) (by first | assumption | omega)) mk_X12_goesAhead dX12_made_83 wd_1211 wd_1213 wd_43 rfl zK75 rfl rfl rfl (Nat.le_of_ble_eq_true rfl) (Nat.le_of_ble_eq_true rfl) (Nat.le_of_ble_eq_true rfl) (by omega) (by omega) (fun q zh90 zm92 zp93 => ?_)
                obtain ⟨ba'84, at'85, sz'86, fa'87, op'88, nm'89, rfl, ze91, zn94⟩ := zp93
                subst zm92
                refine z_st (st' := []) rfl ?_
                have zK95 : zh90 o = some (.inr (12, [.ref (o + 1), .ref (o + 2), .ref (o + 3), .int im, .ref (o + 4), .int ba'84, .int at'85, .int sz'86, .int fa'87, .int op'88, .ref (o + 5), .ref (o + 6), .int rm, .ref (o + 7), .ref (o + 8), .int ti, .ref (o + 9), .int tm, .int wh, .ref (o + 10), .ref (o + 11), .ref (o + 12), .ref (o + 13)])) := by rw [ze91]; rw [va_up_ne _ _ (show o ≠ o + 2 by omega)]; rw [va_up_ne _ _ (show o ≠ o + 5 by omega)]; exact va_up_self _ _ _
                have zK96 : zh90 (o + 4) = arI κ 6 fo := by rw [ze91]; rw [va_up_ne _ _ (show o + 4 ≠ o + 2 by omega)]; rw [va_up_ne _ _ (show o + 4 ≠ o + 5 by omega)]; rw [va_up_ne _ _ (show o + 4 ≠ o by omega)]; exact zK76
                have zK97 : zh90 (o + 1) = arI κ 340 d := by rw [ze91]; rw [va_up_ne _ _ (show o + 1 ≠ o + 2 by omega)]; rw [va_up_ne _ _ (show o + 1 ≠ o + 5 by omega)]; rw [va_up_ne _ _ (show o + 1 ≠ o by omega)]; exact zK77
                have zK98 : zh90 (o + 2) = arI κ 340 (gbyN (Tx d) tx vk (upd (bgn d) 10 (nI i))) := by rw [ze91]; exact va_up_self _ _ _
                have zK99 : zh90 (o + 5) = arI κ 3 nm'89 := by rw [ze91]; rw [va_up_ne _ _ (show o + 5 ≠ o + 2 by omega)]; exact va_up_self _ _ _
                have zK100 : zh90 (o + 6) = arI κ 40 g := by rw [ze91]; rw [va_up_ne _ _ (show o + 6 ≠ o + 2 by omega)]; rw [va_up_ne _ _ (show o + 6 ≠ o + 5 by omega)]; rw [va_up_ne _ _ (show o + 6 ≠ o by omega)]; exact zK80
                have zK101 : zh90 (o + 10) = arI κ 4 bi := by rw [ze91]; rw [va_up_ne _ _ (show o + 10 ≠ o + 2 by omega)]; rw [va_up_ne _ _ (show o + 10 ≠ o + 5 by omega)]; rw [va_up_ne _ _ (show o + 10 ≠ o by omega)]; exact zK81
                have zK102 : zh90 (o + 11) = arI κ 4 si := by rw [ze91]; rw [va_up_ne _ _ (show o + 11 ≠ o + 2 by omega)]; rw [va_up_ne _ _ (show o + 11 ≠ o + 5 by omega)]; rw [va_up_ne _ _ (show o + 11 ≠ o by omega)]; exact zK82
                have zK103 : zh90 (o + 12) = arI κ 160 nu := by rw [ze91]; rw [va_up_ne _ _ (show o + 12 ≠ o + 2 by omega)]; rw [va_up_ne _ _ (show o + 12 ≠ o + 5 by omega)]; rw [va_up_ne _ _ (show o + 12 ≠ o by omega)]; exact zK83
                refine z_aload_n X 0 dX12_made_86 rfl ?_
                refine z_aload_n X 0 dX12_made_87 rfl ?_
                refine z_get X fl_X12_13_12 dX12_made_88 zK95 rfl ?_
                refine z_iload_n X 1 dX12_made_91 rfl ?_
                refine z_callV X (r_offBy (κ := κ) (n := n) (o := (o)) (a := (o + 2)) (m := (gbyN (Tx d) tx vk (upd (bgn d) 10 (nI i)))) (len := (lnO (gbyN (Tx d) tx vk (upd (bgn d) 10 (nI i))))) (sk := (sk)) (bi := (bi)) (si := (si)) (nu := (nu)) (ss := (ss)) (im := (im)) (ba := (ba'84)) (at_ := (at'85)) (sz := (sz'86)) (fa := (fa'87)) (op := (op'88)) (rm := (rm)) (ti := (ti)) (tm := (tm)) (wh := (wh)) zK95 zK98 zK101 zK102 zK103 (by first | assumption | omega) ((gbyN_ok (lnOk_upd (bgn_ok d) (by omega)) vk).1) ((gbyN_ok (lnOk_upd (bgn_ok d) (by omega)) vk).2.1) ((gbyN_ok (lnOk_upd (bgn_ok d) (by omega)) vk).2.2) (by first | assumption | omega) (by first | assumption | omega)) mk_X12_offBy dX12_made_92 wd_1253 wd_1255 wd_46 rfl zK95 rfl rfl rfl (Nat.le_of_ble_eq_true rfl) (Nat.le_of_ble_eq_true rfl) (Nat.le_of_ble_eq_true rfl) (by omega) (by omega) (fun q zh104 zm106 zp107 => ?_)
                obtain ⟨rfl, ze105, zn108⟩ := zp107
                subst zm106
                subst zh104
                refine z_st (st' := [.int (offS (gbyN (Tx d) tx vk (upd (bgn d) 10 (nI i))) nu (lnO (gbyN (Tx d) tx vk (upd (bgn d) 10 (nI i)))) (ss sk) sk 40)]) rfl ?_
                refine z_istore (ls' := [(7, .int (offS (gbyN (Tx d) tx vk (upd (bgn d) 10 (nI i))) nu (lnO (gbyN (Tx d) tx vk (upd (bgn d) 10 (nI i)))) (ss sk) sk 40)), (0, .ref o), (1, .int (nI sk)), (2, .int (nI vk)), (3, .int w), (4, .int b), (5, .int l), (6, .int (nI i))]) X dX12_made_95 (by decide) rfl ?_
                refine z_iload X 5 dX12_made_97 rfl ?_
                refine z_if_lt X 109 dX12_made_99 (by decide) (fun zc109 => ?_) (fun zc109 => ?_)
                · refine z_iload X 7 dX12_made_109 rfl ?_
                  refine z_istore (ls' := [(4, .int (nI i)), (7, .int (offS (gbyN (Tx d) tx vk (upd (bgn d) 10 (nI i))) nu (lnO (gbyN (Tx d) tx vk (upd (bgn d) 10 (nI i)))) (ss sk) sk 40)), (0, .ref o), (1, .int (nI sk)), (2, .int (nI vk)), (3, .int w), (5, .int l), (6, .int (nI i))]) X dX12_made_111 (by decide) rfl ?_
                  refine z_iload X 1 dX12_made_113 rfl ?_
                  refine z_istore (ls' := [(5, .int (offS (gbyN (Tx d) tx vk (upd (bgn d) 10 (nI i))) nu (lnO (gbyN (Tx d) tx vk (upd (bgn d) 10 (nI i)))) (ss sk) sk 40)), (4, .int (nI i)), (7, .int (offS (gbyN (Tx d) tx vk (upd (bgn d) 10 (nI i))) nu (lnO (gbyN (Tx d) tx vk (upd (bgn d) 10 (nI i)))) (ss sk) sk 40)), (0, .ref o), (1, .int (nI sk)), (2, .int (nI vk)), (3, .int w), (6, .int (nI i))]) X dX12_made_115 (by decide) rfl ?_
                  refine z_iinc (v := nI (i + 1)) (ls' := [(6, .int (nI (i + 1))), (5, .int (offS (gbyN (Tx d) tx vk (upd (bgn d) 10 (nI i))) nu (lnO (gbyN (Tx d) tx vk (upd (bgn d) 10 (nI i)))) (ss sk) sk 40)), (4, .int (nI i)), (7, .int (offS (gbyN (Tx d) tx vk (upd (bgn d) 10 (nI i))) nu (lnO (gbyN (Tx d) tx vk (upd (bgn d) 10 (nI i)))) (ss sk) sk 40)), (0, .ref o), (1, .int (nI sk)), (2, .int (nI vk)), (3, .int w)]) X 7 dX12_made_117 rfl (nI_1 (i)) (by decide) rfl ?_
                  refine z_goto X 54 dX12_made_120 (by decide) ?_
                  refine z_sub (ls' := [(0, .ref o), (1, .int (nI sk)), (2, .int (nI vk)), (3, .int w), (4, .int (nI i)), (5, .int (offS (gbyN (Tx d) tx vk (upd (bgn d) 10 (nI i))) nu (lnO (gbyN (Tx d) tx vk (upd (bgn d) 10 (nI i)))) (ss sk) sk 40)), (6, .int (nI (i + 1)))]) [4, 5, 6, 7, 2, 1, 0] rfl ?_
                  exact ih54 _ (i + 1) ba'84 at'85 sz'86 fa'87 op'88 nm'89 (gbyN (Tx d) tx vk (upd (bgn d) 10 (nI i))) (nI i) (offS (gbyN (Tx d) tx vk (upd (bgn d) 10 (nI i))) nu (lnO (gbyN (Tx d) tx vk (upd (bgn d) 10 (nI i)))) (ss sk) sk 40) (by omega) (by funext zz; by_cases zq2 : zz = o + 2; (rw [zq2, va_up_self]; exact zK98); by_cases zq1 : zz = o + 5; (rw [zq1, va_up_ne _ _ (show o + 5 ≠ o + 2 by omega), va_up_self]; exact zK99); by_cases zq0 : zz = o; (rw [zq0, va_up_ne _ _ (show o ≠ o + 2 by omega), va_up_ne _ _ (show o ≠ o + 5 by omega), va_up_self]; exact zK95); rw [va_up_ne _ _ zq2, va_up_ne _ _ zq1, va_up_ne _ _ zq0]; rw [ze91, ze74, ze60, he54]; simp only [va_up, if_neg zq0, if_neg zq1, if_neg zq2]) (by first | assumption | rfl | omega) (by first | exact AM_t hA (by omega) (Or.inl (by assumption)) | exact AM_t hA (by omega) (Or.inr (Int32.not_le.mp (by assumption))) | exact AM_f hA (by first | assumption | exact Int32.not_lt.mpr (by assumption)) (Int32.not_lt.mpr (by assumption)))
                · refine z_iload X 0 dX12_made_102 rfl ?_
                  refine z_iload X 6 dX12_made_104 rfl ?_
                  refine z_icmp_ge X 117 dX12_made_106 (by decide) (fun zc110 => ?_) (fun zc110 => ?_)
                  · refine z_iinc (v := nI (i + 1)) (ls' := [(6, .int (nI (i + 1))), (7, .int (offS (gbyN (Tx d) tx vk (upd (bgn d) 10 (nI i))) nu (lnO (gbyN (Tx d) tx vk (upd (bgn d) 10 (nI i)))) (ss sk) sk 40)), (0, .ref o), (1, .int (nI sk)), (2, .int (nI vk)), (3, .int w), (4, .int b), (5, .int l)]) X 7 dX12_made_117 rfl (nI_1 (i)) (by decide) rfl ?_
                    refine z_goto X 54 dX12_made_120 (by decide) ?_
                    refine z_sub (ls' := [(0, .ref o), (1, .int (nI sk)), (2, .int (nI vk)), (3, .int w), (4, .int b), (5, .int l), (6, .int (nI (i + 1)))]) [2, 3, 4, 5, 6, 7, 0] rfl ?_
                    exact ih54 _ (i + 1) ba'84 at'85 sz'86 fa'87 op'88 nm'89 (gbyN (Tx d) tx vk (upd (bgn d) 10 (nI i))) b l (by omega) (by funext zz; by_cases zq2 : zz = o + 2; (rw [zq2, va_up_self]; exact zK98); by_cases zq1 : zz = o + 5; (rw [zq1, va_up_ne _ _ (show o + 5 ≠ o + 2 by omega), va_up_self]; exact zK99); by_cases zq0 : zz = o; (rw [zq0, va_up_ne _ _ (show o ≠ o + 2 by omega), va_up_ne _ _ (show o ≠ o + 5 by omega), va_up_self]; exact zK95); rw [va_up_ne _ _ zq2, va_up_ne _ _ zq1, va_up_ne _ _ zq0]; rw [ze91, ze74, ze60, he54]; simp only [va_up, if_neg zq0, if_neg zq1, if_neg zq2]) (by first | assumption | rfl | omega) (by first | exact AM_t hA (by omega) (Or.inl (by assumption)) | exact AM_t hA (by omega) (Or.inr (Int32.not_le.mp (by assumption))) | exact AM_f hA (by first | assumption | exact Int32.not_lt.mpr (by assumption)) (Int32.not_lt.mpr (by assumption)))
                  · refine z_iload X 7 dX12_made_109 rfl ?_
                    refine z_istore (ls' := [(4, .int (nI i)), (7, .int (offS (gbyN (Tx d) tx vk (upd (bgn d) 10 (nI i))) nu (lnO (gbyN (Tx d) tx vk (upd (bgn d) 10 (nI i)))) (ss sk) sk 40)), (0, .ref o), (1, .int (nI sk)), (2, .int (nI vk)), (3, .int w), (5, .int l), (6, .int (nI i))]) X dX12_made_111 (by decide) rfl ?_
                    refine z_iload X 1 dX12_made_113 rfl ?_
                    refine z_istore (ls' := [(5, .int (offS (gbyN (Tx d) tx vk (upd (bgn d) 10 (nI i))) nu (lnO (gbyN (Tx d) tx vk (upd (bgn d) 10 (nI i)))) (ss sk) sk 40)), (4, .int (nI i)), (7, .int (offS (gbyN (Tx d) tx vk (upd (bgn d) 10 (nI i))) nu (lnO (gbyN (Tx d) tx vk (upd (bgn d) 10 (nI i)))) (ss sk) sk 40)), (0, .ref o), (1, .int (nI sk)), (2, .int (nI vk)), (3, .int w), (6, .int (nI i))]) X dX12_made_115 (by decide) rfl ?_
                    refine z_iinc (v := nI (i + 1)) (ls' := [(6, .int (nI (i + 1))), (5, .int (offS (gbyN (Tx d) tx vk (upd (bgn d) 10 (nI i))) nu (lnO (gbyN (Tx d) tx vk (upd (bgn d) 10 (nI i)))) (ss sk) sk 40)), (4, .int (nI i)), (7, .int (offS (gbyN (Tx d) tx vk (upd (bgn d) 10 (nI i))) nu (lnO (gbyN (Tx d) tx vk (upd (bgn d) 10 (nI i)))) (ss sk) sk 40)), (0, .ref o), (1, .int (nI sk)), (2, .int (nI vk)), (3, .int w)]) X 7 dX12_made_117 rfl (nI_1 (i)) (by decide) rfl ?_
                    refine z_goto X 54 dX12_made_120 (by decide) ?_
                    refine z_sub (ls' := [(0, .ref o), (1, .int (nI sk)), (2, .int (nI vk)), (3, .int w), (4, .int (nI i)), (5, .int (offS (gbyN (Tx d) tx vk (upd (bgn d) 10 (nI i))) nu (lnO (gbyN (Tx d) tx vk (upd (bgn d) 10 (nI i)))) (ss sk) sk 40)), (6, .int (nI (i + 1)))]) [4, 5, 6, 7, 2, 1, 0] rfl ?_
                    exact ih54 _ (i + 1) ba'84 at'85 sz'86 fa'87 op'88 nm'89 (gbyN (Tx d) tx vk (upd (bgn d) 10 (nI i))) (nI i) (offS (gbyN (Tx d) tx vk (upd (bgn d) 10 (nI i))) nu (lnO (gbyN (Tx d) tx vk (upd (bgn d) 10 (nI i)))) (ss sk) sk 40) (by omega) (by funext zz; by_cases zq2 : zz = o + 2; (rw [zq2, va_up_self]; exact zK98); by_cases zq1 : zz = o + 5; (rw [zq1, va_up_ne _ _ (show o + 5 ≠ o + 2 by omega), va_up_self]; exact zK99); by_cases zq0 : zz = o; (rw [zq0, va_up_ne _ _ (show o ≠ o + 2 by omega), va_up_ne _ _ (show o ≠ o + 5 by omega), va_up_self]; exact zK95); rw [va_up_ne _ _ zq2, va_up_ne _ _ zq1, va_up_ne _ _ zq0]; rw [ze91, ze74, ze60, he54]; simp only [va_up, if_neg zq0, if_neg zq1, if_neg zq2]) (by first | assumption | rfl | omega) (by first | exact AM_t hA (by omega) (Or.inl (by assumption)) | exact AM_t hA (by omega) (Or.inr (Int32.not_le.mp (by assumption))) | exact AM_f hA (by first | assumption | exact Int32.not_lt.mpr (by assumption)) (Int32.not_lt.mpr (by assumption)))
          refine z_sub (ls' := [(0, .ref o), (1, .int (nI sk)), (2, .int (nI vk)), (3, .int w), (4, .int ((-1))), (5, .int 0), (6, .int 0)]) [3, 4, 5, 6, 2, 1, 0] rfl ?_
          exact L54 _ _ 0 ba at_ sz fa op nm e ((-1)) 0 (Nat.lt_succ_self _) (by rw [up_same _ _ K0, up_same _ _ K4, up_same _ _ K3]) (by first | assumption | rfl | omega) (by exact AM_0)
        · refine z_aload_n X 0 dX12_made_39 rfl ?_
          refine z_iconst (v := 2) X dX12_made_40 (by decide) ?_
          refine z_callV X (r_finds (κ := κ) (n := n) (o := (o)) (k := (2)) (fo := (fo)) (im := (im)) (ba := (ba)) (at_ := (at_)) (sz := (sz)) (fa := (fa)) (op := (op)) (rm := (rm)) (ti := (ti)) (tm := (tm)) (wh := (wh)) K0 K1 (by first | assumption | omega) (by first | assumption | omega)) mk_X12_finds dX12_made_41 wd_1018 wd_1020 wd_24 rfl K0 rfl rfl rfl (Nat.le_of_ble_eq_true rfl) (Nat.le_of_ble_eq_true rfl) (Nat.le_of_ble_eq_true rfl) (by omega) (by omega) (fun q zh111 zm113 zp114 => ?_)
          obtain ⟨rfl, ze112, zn115⟩ := zp114
          subst zm113
          refine z_st (st' := [.int (lowE 2)]) rfl ?_
          have zK116 : zh111 o = some (.inr (12, [.ref (o + 1), .ref (o + 2), .ref (o + 3), .int im, .ref (o + 4), .int ba, .int at_, .int sz, .int fa, .int op, .ref (o + 5), .ref (o + 6), .int rm, .ref (o + 7), .ref (o + 8), .int ti, .ref (o + 9), .int tm, .int wh, .ref (o + 10), .ref (o + 11), .ref (o + 12), .ref (o + 13)])) := by rw [ze112]; rw [va_up_ne _ _ (show o ≠ o + 4 by omega)]; exact K0
          have zK117 : zh111 (o + 4) = arI κ 6 (bmp fo 2) := by rw [ze112]; exact va_up_self _ _ _
          have zK118 : zh111 (o + 1) = arI κ 340 d := by rw [ze112]; rw [va_up_ne _ _ (show o + 1 ≠ o + 4 by omega)]; exact K2
          have zK119 : zh111 (o + 2) = arI κ 340 e := by rw [ze112]; rw [va_up_ne _ _ (show o + 2 ≠ o + 4 by omega)]; exact K3
          have zK120 : zh111 (o + 5) = arI κ 3 nm := by rw [ze112]; rw [va_up_ne _ _ (show o + 5 ≠ o + 4 by omega)]; exact K4
          have zK121 : zh111 (o + 6) = arI κ 40 g := by rw [ze112]; rw [va_up_ne _ _ (show o + 6 ≠ o + 4 by omega)]; exact K5
          have zK122 : zh111 (o + 10) = arI κ 4 bi := by rw [ze112]; rw [va_up_ne _ _ (show o + 10 ≠ o + 4 by omega)]; exact K6
          have zK123 : zh111 (o + 11) = arI κ 4 si := by rw [ze112]; rw [va_up_ne _ _ (show o + 11 ≠ o + 4 by omega)]; exact K7
          have zK124 : zh111 (o + 12) = arI κ 160 nu := by rw [ze112]; rw [va_up_ne _ _ (show o + 12 ≠ o + 4 by omega)]; exact K8
          refine z_iret X E dX12_made_44 (by omega) (by omega) ⟨ba, at_, sz, fa, op, nm, rm, e, g, ?_, ?_, ?_⟩
          · generalize hz : opMade (Tx d) tx d bi nu ss nc (nI sk) (nI vk) w = z; unfold opMade at hz; (try simp only [i_nI (n := sk) (by omega), nI_clamp (n := sk) (by omega), i_nI (n := vk) (by omega), nI_clamp (n := vk) (by omega),  i_eq, i_lt, i_le, show (-1 : Int32).toInt = -1 by decide, show (0 : Int32).toInt = 0 by decide, show (1 : Int32).toInt = 1 by decide, show (2 : Int32).toInt = 2 by decide, show (3 : Int32).toInt = 3 by decide, show (4 : Int32).toInt = 4 by decide, show (5 : Int32).toInt = 5 by decide, show (6 : Int32).toInt = 6 by decide, show (7 : Int32).toInt = 7 by decide, show (8 : Int32).toInt = 8 by decide, show (9 : Int32).toInt = 9 by decide, show (10 : Int32).toInt = 10 by decide, show (11 : Int32).toInt = 11 by decide, show (12 : Int32).toInt = 12 by decide, show (13 : Int32).toInt = 13 by decide, show (14 : Int32).toInt = 14 by decide, show (15 : Int32).toInt = 15 by decide, show (16 : Int32).toInt = 16 by decide, show (20 : Int32).toInt = 20 by decide, show (39 : Int32).toInt = 39 by decide, show (40 : Int32).toInt = 40 by decide, show (50 : Int32).toInt = 50 by decide, show (60 : Int32).toInt = 60 by decide, show (99 : Int32).toInt = 99 by decide, show (100 : Int32).toInt = 100 by decide, show (999 : Int32).toInt = 999 by decide, show (9999 : Int32).toInt = 9999 by decide, show (99999 : Int32).toInt = 99999 by decide, show (999999 : Int32).toInt = 999999 by decide, show (9999999 : Int32).toInt = 9999999 by decide, show (-50 : Int32).toInt = -50 by decide, show (32 : Int32).toInt = 32 by decide] at *); (repeat first | rw [if_pos (by omega)] at hz | rw [if_neg (by omega)] at hz); subst hz; first | exact congrArg (fun z => some (Value.int z)) (ansOf_0 _).symm | rfl
          · generalize hz : opMade (Tx d) tx d bi nu ss nc (nI sk) (nI vk) w = z; unfold opMade at hz; (try simp only [i_nI (n := sk) (by omega), nI_clamp (n := sk) (by omega), i_nI (n := vk) (by omega), nI_clamp (n := vk) (by omega),  i_eq, i_lt, i_le, show (-1 : Int32).toInt = -1 by decide, show (0 : Int32).toInt = 0 by decide, show (1 : Int32).toInt = 1 by decide, show (2 : Int32).toInt = 2 by decide, show (3 : Int32).toInt = 3 by decide, show (4 : Int32).toInt = 4 by decide, show (5 : Int32).toInt = 5 by decide, show (6 : Int32).toInt = 6 by decide, show (7 : Int32).toInt = 7 by decide, show (8 : Int32).toInt = 8 by decide, show (9 : Int32).toInt = 9 by decide, show (10 : Int32).toInt = 10 by decide, show (11 : Int32).toInt = 11 by decide, show (12 : Int32).toInt = 12 by decide, show (13 : Int32).toInt = 13 by decide, show (14 : Int32).toInt = 14 by decide, show (15 : Int32).toInt = 15 by decide, show (16 : Int32).toInt = 16 by decide, show (20 : Int32).toInt = 20 by decide, show (39 : Int32).toInt = 39 by decide, show (40 : Int32).toInt = 40 by decide, show (50 : Int32).toInt = 50 by decide, show (60 : Int32).toInt = 60 by decide, show (99 : Int32).toInt = 99 by decide, show (100 : Int32).toInt = 100 by decide, show (999 : Int32).toInt = 999 by decide, show (9999 : Int32).toInt = 9999 by decide, show (99999 : Int32).toInt = 99999 by decide, show (999999 : Int32).toInt = 999999 by decide, show (9999999 : Int32).toInt = 9999999 by decide, show (-50 : Int32).toInt = -50 by decide, show (32 : Int32).toInt = 32 by decide] at *); (repeat first | rw [if_pos (by omega)] at hz | rw [if_neg (by omega)] at hz); subst hz; funext zz; by_cases zq4 : zz = o + 4; (rw [zq4, va_up_self]; exact zK117); by_cases zq3 : zz = o + 6; (rw [zq3, va_up_ne _ _ (show o + 6 ≠ o + 4 by omega), va_up_self]; exact zK121); by_cases zq2 : zz = o + 2; (rw [zq2, va_up_ne _ _ (show o + 2 ≠ o + 4 by omega), va_up_ne _ _ (show o + 2 ≠ o + 6 by omega), va_up_self]; exact zK119); by_cases zq1 : zz = o + 5; (rw [zq1, va_up_ne _ _ (show o + 5 ≠ o + 4 by omega), va_up_ne _ _ (show o + 5 ≠ o + 6 by omega), va_up_ne _ _ (show o + 5 ≠ o + 2 by omega), va_up_self]; exact zK120); by_cases zq0 : zz = o; (rw [zq0, va_up_ne _ _ (show o ≠ o + 4 by omega), va_up_ne _ _ (show o ≠ o + 6 by omega), va_up_ne _ _ (show o ≠ o + 2 by omega), va_up_ne _ _ (show o ≠ o + 5 by omega), va_up_self]; exact zK116); rw [va_up_ne _ _ zq4, va_up_ne _ _ zq3, va_up_ne _ _ zq2, va_up_ne _ _ zq1, va_up_ne _ _ zq0]; rw [ze112]; simp only [va_up, if_neg zq0, if_neg zq1, if_neg zq2, if_neg zq3, if_neg zq4]
          · rfl
      · replace zc46 := b2i_f zc46
        refine z_aload_n X 0 dX12_made_24 rfl ?_
        refine z_iconst (v := 1) X dX12_made_25 (by decide) ?_
        refine z_callV X (r_finds (κ := κ) (n := n) (o := (o)) (k := (1)) (fo := (fo)) (im := (im)) (ba := (ba)) (at_ := (at_)) (sz := (sz)) (fa := (fa)) (op := (op)) (rm := (rm)) (ti := (ti)) (tm := (tm)) (wh := (wh)) K0 K1 (by first | assumption | omega) (by first | assumption | omega)) mk_X12_finds dX12_made_26 wd_1018 wd_1020 wd_24 rfl K0 rfl rfl rfl (Nat.le_of_ble_eq_true rfl) (Nat.le_of_ble_eq_true rfl) (Nat.le_of_ble_eq_true rfl) (by omega) (by omega) (fun q zh125 zm127 zp128 => ?_)
        obtain ⟨rfl, ze126, zn129⟩ := zp128
        subst zm127
        refine z_st (st' := [.int (lowE 1)]) rfl ?_
        have zK130 : zh125 o = some (.inr (12, [.ref (o + 1), .ref (o + 2), .ref (o + 3), .int im, .ref (o + 4), .int ba, .int at_, .int sz, .int fa, .int op, .ref (o + 5), .ref (o + 6), .int rm, .ref (o + 7), .ref (o + 8), .int ti, .ref (o + 9), .int tm, .int wh, .ref (o + 10), .ref (o + 11), .ref (o + 12), .ref (o + 13)])) := by rw [ze126]; rw [va_up_ne _ _ (show o ≠ o + 4 by omega)]; exact K0
        have zK131 : zh125 (o + 4) = arI κ 6 (bmp fo 1) := by rw [ze126]; exact va_up_self _ _ _
        have zK132 : zh125 (o + 1) = arI κ 340 d := by rw [ze126]; rw [va_up_ne _ _ (show o + 1 ≠ o + 4 by omega)]; exact K2
        have zK133 : zh125 (o + 2) = arI κ 340 e := by rw [ze126]; rw [va_up_ne _ _ (show o + 2 ≠ o + 4 by omega)]; exact K3
        have zK134 : zh125 (o + 5) = arI κ 3 nm := by rw [ze126]; rw [va_up_ne _ _ (show o + 5 ≠ o + 4 by omega)]; exact K4
        have zK135 : zh125 (o + 6) = arI κ 40 g := by rw [ze126]; rw [va_up_ne _ _ (show o + 6 ≠ o + 4 by omega)]; exact K5
        have zK136 : zh125 (o + 10) = arI κ 4 bi := by rw [ze126]; rw [va_up_ne _ _ (show o + 10 ≠ o + 4 by omega)]; exact K6
        have zK137 : zh125 (o + 11) = arI κ 4 si := by rw [ze126]; rw [va_up_ne _ _ (show o + 11 ≠ o + 4 by omega)]; exact K7
        have zK138 : zh125 (o + 12) = arI κ 160 nu := by rw [ze126]; rw [va_up_ne _ _ (show o + 12 ≠ o + 4 by omega)]; exact K8
        refine z_iret X E dX12_made_29 (by omega) (by omega) ⟨ba, at_, sz, fa, op, nm, rm, e, g, ?_, ?_, ?_⟩
        · generalize hz : opMade (Tx d) tx d bi nu ss nc s v w = z; unfold opMade at hz; (try simp only [ i_eq, i_lt, i_le, show (-1 : Int32).toInt = -1 by decide, show (0 : Int32).toInt = 0 by decide, show (1 : Int32).toInt = 1 by decide, show (2 : Int32).toInt = 2 by decide, show (3 : Int32).toInt = 3 by decide, show (4 : Int32).toInt = 4 by decide, show (5 : Int32).toInt = 5 by decide, show (6 : Int32).toInt = 6 by decide, show (7 : Int32).toInt = 7 by decide, show (8 : Int32).toInt = 8 by decide, show (9 : Int32).toInt = 9 by decide, show (10 : Int32).toInt = 10 by decide, show (11 : Int32).toInt = 11 by decide, show (12 : Int32).toInt = 12 by decide, show (13 : Int32).toInt = 13 by decide, show (14 : Int32).toInt = 14 by decide, show (15 : Int32).toInt = 15 by decide, show (16 : Int32).toInt = 16 by decide, show (20 : Int32).toInt = 20 by decide, show (39 : Int32).toInt = 39 by decide, show (40 : Int32).toInt = 40 by decide, show (50 : Int32).toInt = 50 by decide, show (60 : Int32).toInt = 60 by decide, show (99 : Int32).toInt = 99 by decide, show (100 : Int32).toInt = 100 by decide, show (999 : Int32).toInt = 999 by decide, show (9999 : Int32).toInt = 9999 by decide, show (99999 : Int32).toInt = 99999 by decide, show (999999 : Int32).toInt = 999999 by decide, show (9999999 : Int32).toInt = 9999999 by decide, show (-50 : Int32).toInt = -50 by decide, show (32 : Int32).toInt = 32 by decide] at *); (repeat first | rw [if_pos (by omega)] at hz | rw [if_neg (by omega)] at hz); subst hz; first | exact congrArg (fun z => some (Value.int z)) (ansOf_0 _).symm | rfl
        · generalize hz : opMade (Tx d) tx d bi nu ss nc s v w = z; unfold opMade at hz; (try simp only [ i_eq, i_lt, i_le, show (-1 : Int32).toInt = -1 by decide, show (0 : Int32).toInt = 0 by decide, show (1 : Int32).toInt = 1 by decide, show (2 : Int32).toInt = 2 by decide, show (3 : Int32).toInt = 3 by decide, show (4 : Int32).toInt = 4 by decide, show (5 : Int32).toInt = 5 by decide, show (6 : Int32).toInt = 6 by decide, show (7 : Int32).toInt = 7 by decide, show (8 : Int32).toInt = 8 by decide, show (9 : Int32).toInt = 9 by decide, show (10 : Int32).toInt = 10 by decide, show (11 : Int32).toInt = 11 by decide, show (12 : Int32).toInt = 12 by decide, show (13 : Int32).toInt = 13 by decide, show (14 : Int32).toInt = 14 by decide, show (15 : Int32).toInt = 15 by decide, show (16 : Int32).toInt = 16 by decide, show (20 : Int32).toInt = 20 by decide, show (39 : Int32).toInt = 39 by decide, show (40 : Int32).toInt = 40 by decide, show (50 : Int32).toInt = 50 by decide, show (60 : Int32).toInt = 60 by decide, show (99 : Int32).toInt = 99 by decide, show (100 : Int32).toInt = 100 by decide, show (999 : Int32).toInt = 999 by decide, show (9999 : Int32).toInt = 9999 by decide, show (99999 : Int32).toInt = 99999 by decide, show (999999 : Int32).toInt = 999999 by decide, show (9999999 : Int32).toInt = 9999999 by decide, show (-50 : Int32).toInt = -50 by decide, show (32 : Int32).toInt = 32 by decide] at *); (repeat first | rw [if_pos (by omega)] at hz | rw [if_neg (by omega)] at hz); subst hz; funext zz; by_cases zq4 : zz = o + 4; (rw [zq4, va_up_self]; exact zK131); by_cases zq3 : zz = o + 6; (rw [zq3, va_up_ne _ _ (show o + 6 ≠ o + 4 by omega), va_up_self]; exact zK135); by_cases zq2 : zz = o + 2; (rw [zq2, va_up_ne _ _ (show o + 2 ≠ o + 4 by omega), va_up_ne _ _ (show o + 2 ≠ o + 6 by omega), va_up_self]; exact zK133); by_cases zq1 : zz = o + 5; (rw [zq1, va_up_ne _ _ (show o + 5 ≠ o + 4 by omega), va_up_ne _ _ (show o + 5 ≠ o + 6 by omega), va_up_ne _ _ (show o + 5 ≠ o + 2 by omega), va_up_self]; exact zK134); by_cases zq0 : zz = o; (rw [zq0, va_up_ne _ _ (show o ≠ o + 4 by omega), va_up_ne _ _ (show o ≠ o + 6 by omega), va_up_ne _ _ (show o ≠ o + 2 by omega), va_up_ne _ _ (show o ≠ o + 5 by omega), va_up_self]; exact zK130); rw [va_up_ne _ _ zq4, va_up_ne _ _ zq3, va_up_ne _ _ zq2, va_up_ne _ _ zq1, va_up_ne _ _ zq0]; rw [ze126]; simp only [va_up, if_neg zq0, if_neg zq1, if_neg zq2, if_neg zq3, if_neg zq4]
        · rfl
set_option maxHeartbeats 4000000 in
set_option maxRecDepth 100000 in
theorem r_blown {κ : Wc} {l : Launch} {h : Mm} {n : Nat} {o : Nat} {fo : Nat → Int32} {d : Nat → Int32} {e : Nat → Int32} {g : Nat → Int32} {nm : Nat → Int32} {nc : Nat} {tx : Nat → Nat} {im : Int32} {ba : Int32} {at_ : Int32} {sz : Int32} {fa : Int32} {op : Int32} {rm : Int32} {ti : Int32} {tm : Int32} {wh : Int32} {bi : Nat → Int32} {si : Nat → Int32} {nu : Nat → Int32} {ss : Nat → Nat} {s : Int32} {v : Int32} (K0 : h o = some (.inr (12, [.ref (o + 1), .ref (o + 2), .ref (o + 3), .int im, .ref (o + 4), .int ba, .int at_, .int sz, .int fa, .int op, .ref (o + 5), .ref (o + 6), .int rm, .ref (o + 7), .ref (o + 8), .int ti, .ref (o + 9), .int tm, .int wh, .ref (o + 10), .ref (o + 11), .ref (o + 12), .ref (o + 13)]))) (K1 : h (o + 4) = arI κ 6 fo) (K2 : h (o + 1) = arI κ 340 d) (K3 : h (o + 2) = arI κ 340 e) (K4 : h (o + 5) = arI κ 3 nm) (K5 : h (o + 6) = arI κ 40 g) (K6 : h (o + 10) = arI κ 4 bi) (K7 : h (o + 11) = arI κ 4 si) (K8 : h (o + 12) = arI κ 160 nu) (q8 : ∀ u, u < 2 → d (60 + u) = nI (tx u) ∧ tx u ≤ 50) (hOk : lnOk d) (q4 : d 11 = nI nc) (q5 : nc ≤ 6) (p1 : ∀ k, k < 4 → si k = nI (ss k) ∧ ss k ≤ 40) : Con κ l yX12_blown cX12_blown 7 (some .int) 45 0 0 [.ref o, .int s, .int v] h n (fun q h' n' => ∃ ba' : Int32, ∃ at' : Int32, ∃ sz' : Int32, ∃ fa' : Int32, ∃ op' : Int32, ∃ nm' : Nat → Int32, ∃ rm' : Int32, ∃ e' : Nat → Int32, ∃ g' : Nat → Int32, q = some (.int (ansOf (opBlown (Tx d) tx d bi nu ss s v))) ∧ h' = va_up (va_up (va_up (va_up (va_up h o (some (.inr (12, [.ref (o + 1), .ref (o + 2), .ref (o + 3), .int im, .ref (o + 4), .int ba', .int at', .int sz', .int fa', .int op', .ref (o + 5), .ref (o + 6), .int rm', .ref (o + 7), .ref (o + 8), .int ti, .ref (o + 9), .int tm, .int wh, .ref (o + 10), .ref (o + 11), .ref (o + 12), .ref (o + 13)])))) (o + 5) (arI κ 3 nm')) (o + 2) (arI κ 340 e')) (o + 6) (arI κ 40 g')) (o + 4) (arI κ 6 (bump (opBlown (Tx d) tx d bi nu ss s v) fo)) ∧ n' = n) := by
  refine Con.of mk_X12_blown (Nat.le_of_ble_eq_true rfl) (fun G hG X E => ?_)
  subst hG
  refine z_ls (ls' := [(0, .ref o), (1, .int s), (2, .int v)]) rfl ?_
  refine z_iload_n X 1 dX12_blown_0 rfl ?_
  refine z_callS X (r_isSheet (κ := κ) (n := n) (v := (s))  ) mk_X12_isSheet dX12_blown_1 wd_1036 wd_1037 rfl rfl (Nat.le_of_ble_eq_true rfl) (Nat.le_of_ble_eq_true rfl) (Nat.le_of_ble_eq_true rfl) (by omega) (by omega) (fun q zh1 zm3 zp4 => ?_)
  obtain ⟨rfl, ze2, zn5⟩ := zp4
  subst zm3
  subst zh1
  refine z_st (st' := [.int (b2i (0 ≤ (s : Int32).toInt ∧ (s : Int32).toInt ≤ 3))]) rfl ?_
  refine z_if_eq X 14 dX12_blown_4 (by decide) (fun zc6 => ?_) (fun zc6 => ?_)
  · replace zc6 := b2i_f zc6
    refine z_aload_n X 0 dX12_blown_14 rfl ?_
    refine z_iconst (v := 1) X dX12_blown_15 (by decide) ?_
    refine z_callV X (r_finds (κ := κ) (n := n) (o := (o)) (k := (1)) (fo := (fo)) (im := (im)) (ba := (ba)) (at_ := (at_)) (sz := (sz)) (fa := (fa)) (op := (op)) (rm := (rm)) (ti := (ti)) (tm := (tm)) (wh := (wh)) K0 K1 (by first | assumption | omega) (by first | assumption | omega)) mk_X12_finds dX12_blown_16 wd_1018 wd_1020 wd_24 rfl K0 rfl rfl rfl (Nat.le_of_ble_eq_true rfl) (Nat.le_of_ble_eq_true rfl) (Nat.le_of_ble_eq_true rfl) (by omega) (by omega) (fun q zh7 zm9 zp10 => ?_)
    obtain ⟨rfl, ze8, zn11⟩ := zp10
    subst zm9
    refine z_st (st' := [.int (lowE 1)]) rfl ?_
    have zK12 : zh7 o = some (.inr (12, [.ref (o + 1), .ref (o + 2), .ref (o + 3), .int im, .ref (o + 4), .int ba, .int at_, .int sz, .int fa, .int op, .ref (o + 5), .ref (o + 6), .int rm, .ref (o + 7), .ref (o + 8), .int ti, .ref (o + 9), .int tm, .int wh, .ref (o + 10), .ref (o + 11), .ref (o + 12), .ref (o + 13)])) := by rw [ze8]; rw [va_up_ne _ _ (show o ≠ o + 4 by omega)]; exact K0
    have zK13 : zh7 (o + 4) = arI κ 6 (bmp fo 1) := by rw [ze8]; exact va_up_self _ _ _
    have zK14 : zh7 (o + 1) = arI κ 340 d := by rw [ze8]; rw [va_up_ne _ _ (show o + 1 ≠ o + 4 by omega)]; exact K2
    have zK15 : zh7 (o + 2) = arI κ 340 e := by rw [ze8]; rw [va_up_ne _ _ (show o + 2 ≠ o + 4 by omega)]; exact K3
    have zK16 : zh7 (o + 5) = arI κ 3 nm := by rw [ze8]; rw [va_up_ne _ _ (show o + 5 ≠ o + 4 by omega)]; exact K4
    have zK17 : zh7 (o + 6) = arI κ 40 g := by rw [ze8]; rw [va_up_ne _ _ (show o + 6 ≠ o + 4 by omega)]; exact K5
    have zK18 : zh7 (o + 10) = arI κ 4 bi := by rw [ze8]; rw [va_up_ne _ _ (show o + 10 ≠ o + 4 by omega)]; exact K6
    have zK19 : zh7 (o + 11) = arI κ 4 si := by rw [ze8]; rw [va_up_ne _ _ (show o + 11 ≠ o + 4 by omega)]; exact K7
    have zK20 : zh7 (o + 12) = arI κ 160 nu := by rw [ze8]; rw [va_up_ne _ _ (show o + 12 ≠ o + 4 by omega)]; exact K8
    refine z_iret X E dX12_blown_19 (by omega) (by omega) ⟨ba, at_, sz, fa, op, nm, rm, e, g, ?_, ?_, ?_⟩
    · generalize hz : opBlown (Tx d) tx d bi nu ss s v = z; unfold opBlown at hz; (try simp only [ i_eq, i_lt, i_le, show (-1 : Int32).toInt = -1 by decide, show (0 : Int32).toInt = 0 by decide, show (1 : Int32).toInt = 1 by decide, show (2 : Int32).toInt = 2 by decide, show (3 : Int32).toInt = 3 by decide, show (4 : Int32).toInt = 4 by decide, show (5 : Int32).toInt = 5 by decide, show (6 : Int32).toInt = 6 by decide, show (7 : Int32).toInt = 7 by decide, show (8 : Int32).toInt = 8 by decide, show (9 : Int32).toInt = 9 by decide, show (10 : Int32).toInt = 10 by decide, show (11 : Int32).toInt = 11 by decide, show (12 : Int32).toInt = 12 by decide, show (13 : Int32).toInt = 13 by decide, show (14 : Int32).toInt = 14 by decide, show (15 : Int32).toInt = 15 by decide, show (16 : Int32).toInt = 16 by decide, show (20 : Int32).toInt = 20 by decide, show (39 : Int32).toInt = 39 by decide, show (40 : Int32).toInt = 40 by decide, show (50 : Int32).toInt = 50 by decide, show (60 : Int32).toInt = 60 by decide, show (99 : Int32).toInt = 99 by decide, show (100 : Int32).toInt = 100 by decide, show (999 : Int32).toInt = 999 by decide, show (9999 : Int32).toInt = 9999 by decide, show (99999 : Int32).toInt = 99999 by decide, show (999999 : Int32).toInt = 999999 by decide, show (9999999 : Int32).toInt = 9999999 by decide, show (-50 : Int32).toInt = -50 by decide, show (32 : Int32).toInt = 32 by decide] at *); (repeat first | rw [if_pos (by omega)] at hz | rw [if_neg (by omega)] at hz); subst hz; first | exact congrArg (fun z => some (Value.int z)) (ansOf_0 _).symm | rfl
    · generalize hz : opBlown (Tx d) tx d bi nu ss s v = z; unfold opBlown at hz; (try simp only [ i_eq, i_lt, i_le, show (-1 : Int32).toInt = -1 by decide, show (0 : Int32).toInt = 0 by decide, show (1 : Int32).toInt = 1 by decide, show (2 : Int32).toInt = 2 by decide, show (3 : Int32).toInt = 3 by decide, show (4 : Int32).toInt = 4 by decide, show (5 : Int32).toInt = 5 by decide, show (6 : Int32).toInt = 6 by decide, show (7 : Int32).toInt = 7 by decide, show (8 : Int32).toInt = 8 by decide, show (9 : Int32).toInt = 9 by decide, show (10 : Int32).toInt = 10 by decide, show (11 : Int32).toInt = 11 by decide, show (12 : Int32).toInt = 12 by decide, show (13 : Int32).toInt = 13 by decide, show (14 : Int32).toInt = 14 by decide, show (15 : Int32).toInt = 15 by decide, show (16 : Int32).toInt = 16 by decide, show (20 : Int32).toInt = 20 by decide, show (39 : Int32).toInt = 39 by decide, show (40 : Int32).toInt = 40 by decide, show (50 : Int32).toInt = 50 by decide, show (60 : Int32).toInt = 60 by decide, show (99 : Int32).toInt = 99 by decide, show (100 : Int32).toInt = 100 by decide, show (999 : Int32).toInt = 999 by decide, show (9999 : Int32).toInt = 9999 by decide, show (99999 : Int32).toInt = 99999 by decide, show (999999 : Int32).toInt = 999999 by decide, show (9999999 : Int32).toInt = 9999999 by decide, show (-50 : Int32).toInt = -50 by decide, show (32 : Int32).toInt = 32 by decide] at *); (repeat first | rw [if_pos (by omega)] at hz | rw [if_neg (by omega)] at hz); subst hz; funext zz; by_cases zq4 : zz = o + 4; (rw [zq4, va_up_self]; exact zK13); by_cases zq3 : zz = o + 6; (rw [zq3, va_up_ne _ _ (show o + 6 ≠ o + 4 by omega), va_up_self]; exact zK17); by_cases zq2 : zz = o + 2; (rw [zq2, va_up_ne _ _ (show o + 2 ≠ o + 4 by omega), va_up_ne _ _ (show o + 2 ≠ o + 6 by omega), va_up_self]; exact zK15); by_cases zq1 : zz = o + 5; (rw [zq1, va_up_ne _ _ (show o + 5 ≠ o + 4 by omega), va_up_ne _ _ (show o + 5 ≠ o + 6 by omega), va_up_ne _ _ (show o + 5 ≠ o + 2 by omega), va_up_self]; exact zK16); by_cases zq0 : zz = o; (rw [zq0, va_up_ne _ _ (show o ≠ o + 4 by omega), va_up_ne _ _ (show o ≠ o + 6 by omega), va_up_ne _ _ (show o ≠ o + 2 by omega), va_up_ne _ _ (show o ≠ o + 5 by omega), va_up_self]; exact zK12); rw [va_up_ne _ _ zq4, va_up_ne _ _ zq3, va_up_ne _ _ zq2, va_up_ne _ _ zq1, va_up_ne _ _ zq0]; rw [ze8]; simp only [va_up, if_neg zq0, if_neg zq1, if_neg zq2, if_neg zq3, if_neg zq4]
    · rfl
  · replace zc6 := b2i_t zc6
    refine z_iload_n X 2 dX12_blown_7 rfl ?_
    refine z_callS X (r_isAhead (κ := κ) (n := n) (v := (v))  ) mk_X12_isAhead dX12_blown_8 wd_1200 wd_1201 rfl rfl (Nat.le_of_ble_eq_true rfl) (Nat.le_of_ble_eq_true rfl) (Nat.le_of_ble_eq_true rfl) (by omega) (by omega) (fun q zh21 zm23 zp24 => ?_)
    obtain ⟨rfl, ze22, zn25⟩ := zp24
    subst zm23
    subst zh21
    refine z_st (st' := [.int (b2i (0 ≤ (v : Int32).toInt ∧ (v : Int32).toInt ≤ 60))]) rfl ?_
    refine z_if_ne X 20 dX12_blown_11 (by decide) (fun zc26 => ?_) (fun zc26 => ?_)
    · replace zc26 := b2i_t zc26
      obtain ⟨sk, hsk, rfl⟩ := ix_of (c := s) (len := 4) (by omega) (by omega)
      obtain ⟨vk, hvk, rfl⟩ := ix_of (c := v) (len := 61) (by omega) (by omega)
      have hss := (p1 sk hsk).2
      refine z_aload_n X 0 dX12_blown_20 rfl ?_
      refine z_get X fl_X12_37_12 dX12_blown_21 K0 rfl ?_
      refine z_iload_n X 1 dX12_blown_24 rfl ?_
      refine z_iald2 (v := bi sk) X dX12_blown_25 K6 (vp_in_nI (n := sk) (by omega) (by omega)) (congrArg bi (nI_clamp (n := sk) (by omega))) ?_
      refine z_if_ne X 35 dX12_blown_26 (by decide) (fun zc27 => ?_) (fun zc27 => ?_)
      · refine z_iconst (v := -1) X dX12_blown_35 (by decide) ?_
        refine z_istore_n (ls' := [(3, .int ((-1))), (0, .ref o), (1, .int (nI sk)), (2, .int (nI vk))]) X dX12_blown_36 (by decide) rfl ?_
        refine z_iconst (v := 0) X dX12_blown_37 (by decide) ?_
        refine z_istore (ls' := [(4, .int 0), (3, .int ((-1))), (0, .ref o), (1, .int (nI sk)), (2, .int (nI vk))]) X dX12_blown_38 (by decide) rfl ?_
        refine z_iconst (v := 0) X dX12_blown_40 (by decide) ?_
        refine z_istore (ls' := [(5, .int 0), (4, .int 0), (3, .int ((-1))), (0, .ref o), (1, .int (nI sk)), (2, .int (nI vk))]) X dX12_blown_41 (by decide) rfl ?_
        have L43 : ∀ (jj : Nat) (hh43 : Mm)  (i : Nat) (ba2 : Int32) (at2 : Int32) (sz2 : Int32) (fa2 : Int32) (op2 : Int32) (nm2 : Nat → Int32) (e2 : Nat → Int32) (b : Int32) (l : Int32), (100 - i < jj) → (hh43 = va_up (va_up (va_up h o (some (.inr (12, [.ref (o + 1), .ref (o + 2), .ref (o + 3), .int im, .ref (o + 4), .int ba2, .int at2, .int sz2, .int fa2, .int op2, .ref (o + 5), .ref (o + 6), .int rm, .ref (o + 7), .ref (o + 8), .int ti, .ref (o + 9), .int tm, .int wh, .ref (o + 10), .ref (o + 11), .ref (o + 12), .ref (o + 13)])))) (o + 5) (arI κ 3 nm2)) (o + 2) (arI κ 340 e2)) → (hi : i ≤ 100) → (hA : AM (bloV (Tx d) tx d nu ss sk vk) i b l) → Z κ G 7 43 [(0, .ref o), (1, .int (nI sk)), (2, .int (nI vk)), (3, .int b), (4, .int l), (5, .int (nI i))] [] hh43 n 0 (0) := by
          intro jj
          induction jj with
          | zero => intro hh43 i ba2 at2 sz2 fa2 op2 nm2 e2 b l hmu; exact absurd hmu (Nat.not_lt_zero _)
          | succ jj ih43 =>
            intro hh43 i ba2 at2 sz2 fa2 op2 nm2 e2 b l hmu he43 hi hA
            have zK28 : hh43 o = some (.inr (12, [.ref (o + 1), .ref (o + 2), .ref (o + 3), .int im, .ref (o + 4), .int ba2, .int at2, .int sz2, .int fa2, .int op2, .ref (o + 5), .ref (o + 6), .int rm, .ref (o + 7), .ref (o + 8), .int ti, .ref (o + 9), .int tm, .int wh, .ref (o + 10), .ref (o + 11), .ref (o + 12), .ref (o + 13)])) := by rw [he43]; rw [va_up_ne _ _ (show o ≠ o + 2 by omega)]; rw [va_up_ne _ _ (show o ≠ o + 5 by omega)]; exact va_up_self _ _ _
            have zK29 : hh43 (o + 4) = arI κ 6 fo := by rw [he43]; rw [va_up_ne _ _ (show o + 4 ≠ o + 2 by omega)]; rw [va_up_ne _ _ (show o + 4 ≠ o + 5 by omega)]; rw [va_up_ne _ _ (show o + 4 ≠ o by omega)]; exact K1
            have zK30 : hh43 (o + 1) = arI κ 340 d := by rw [he43]; rw [va_up_ne _ _ (show o + 1 ≠ o + 2 by omega)]; rw [va_up_ne _ _ (show o + 1 ≠ o + 5 by omega)]; rw [va_up_ne _ _ (show o + 1 ≠ o by omega)]; exact K2
            have zK31 : hh43 (o + 2) = arI κ 340 e2 := by rw [he43]; exact va_up_self _ _ _
            have zK32 : hh43 (o + 5) = arI κ 3 nm2 := by rw [he43]; rw [va_up_ne _ _ (show o + 5 ≠ o + 2 by omega)]; exact va_up_self _ _ _
            have zK33 : hh43 (o + 6) = arI κ 40 g := by rw [he43]; rw [va_up_ne _ _ (show o + 6 ≠ o + 2 by omega)]; rw [va_up_ne _ _ (show o + 6 ≠ o + 5 by omega)]; rw [va_up_ne _ _ (show o + 6 ≠ o by omega)]; exact K5
            have zK34 : hh43 (o + 10) = arI κ 4 bi := by rw [he43]; rw [va_up_ne _ _ (show o + 10 ≠ o + 2 by omega)]; rw [va_up_ne _ _ (show o + 10 ≠ o + 5 by omega)]; rw [va_up_ne _ _ (show o + 10 ≠ o by omega)]; exact K6
            have zK35 : hh43 (o + 11) = arI κ 4 si := by rw [he43]; rw [va_up_ne _ _ (show o + 11 ≠ o + 2 by omega)]; rw [va_up_ne _ _ (show o + 11 ≠ o + 5 by omega)]; rw [va_up_ne _ _ (show o + 11 ≠ o by omega)]; exact K7
            have zK36 : hh43 (o + 12) = arI κ 160 nu := by rw [he43]; rw [va_up_ne _ _ (show o + 12 ≠ o + 2 by omega)]; rw [va_up_ne _ _ (show o + 12 ≠ o + 5 by omega)]; rw [va_up_ne _ _ (show o + 12 ≠ o by omega)]; exact K8
            refine z_iload X 5 dX12_blown_43 rfl ?_
            refine z_bipush (v := 100) X dX12_blown_45 (by decide) ?_
            refine z_icmp_ge X 103 dX12_blown_47 (by decide) (fun zc37 => ?_) (fun zc37 => ?_)
            · try replace zc37 := (nI_leI (a := 100) (b := i) (by omega) (by omega)).mp zc37
              refine z_iload_n X 3 dX12_blown_103 rfl ?_
              refine z_iret X E dX12_blown_104 (by omega) (by omega) ⟨ba2, at2, sz2, fa2, op2, nm2, rm, e2, g, ?_, ?_, ?_⟩
              · rw [opBlown_0 hsk (by omega) (by assumption) hA (by omega)]; first | exact congrArg (fun z => some (Value.int z)) (ansOf_0 _).symm | rfl
              · rw [opBlown_0 hsk (by omega) (by assumption) hA (by omega)]; funext zz; by_cases zq4 : zz = o + 4; (rw [zq4, va_up_self]; exact zK29); by_cases zq3 : zz = o + 6; (rw [zq3, va_up_ne _ _ (show o + 6 ≠ o + 4 by omega), va_up_self]; exact zK33); by_cases zq2 : zz = o + 2; (rw [zq2, va_up_ne _ _ (show o + 2 ≠ o + 4 by omega), va_up_ne _ _ (show o + 2 ≠ o + 6 by omega), va_up_self]; exact zK31); by_cases zq1 : zz = o + 5; (rw [zq1, va_up_ne _ _ (show o + 5 ≠ o + 4 by omega), va_up_ne _ _ (show o + 5 ≠ o + 6 by omega), va_up_ne _ _ (show o + 5 ≠ o + 2 by omega), va_up_self]; exact zK32); by_cases zq0 : zz = o; (rw [zq0, va_up_ne _ _ (show o ≠ o + 4 by omega), va_up_ne _ _ (show o ≠ o + 6 by omega), va_up_ne _ _ (show o ≠ o + 2 by omega), va_up_ne _ _ (show o ≠ o + 5 by omega), va_up_self]; exact zK28); rw [va_up_ne _ _ zq4, va_up_ne _ _ zq3, va_up_ne _ _ zq2, va_up_ne _ _ zq1, va_up_ne _ _ zq0]; rw [he43]; simp only [va_up, if_neg zq0, if_neg zq1, if_neg zq2, if_neg zq3, if_neg zq4]
              · rfl
            · try replace zc37 := mt (nI_leI (a := 100) (b := i) (by omega) (by omega)).mpr zc37
              refine z_aload_n X 0 dX12_blown_50 rfl ?_
              refine z_callV X (r_begins (κ := κ) (n := n) (o := (o)) (d := (d)) (e := (e2)) (im := (im)) (ba := (ba2)) (at_ := (at2)) (sz := (sz2)) (fa := (fa2)) (op := (op2)) (rm := (rm)) (ti := (ti)) (tm := (tm)) (wh := (wh)) zK28 zK30 zK31 ) mk_X12_begins dX12_blown_51 wd_1263 wd_1265 wd_47 rfl zK28 rfl rfl rfl (Nat.le_of_ble_eq_true rfl) (Nat.le_of_ble_eq_true rfl) (Nat.le_of_ble_eq_true rfl) (by omega) (by omega) (fun q zh38 zm40 zp41 => ?_)
              obtain ⟨rfl, ze39, zn42⟩ := zp41
              subst zm40
              refine z_st (st' := []) rfl ?_
              have zK43 : zh38 o = some (.inr (12, [.ref (o + 1), .ref (o + 2), .ref (o + 3), .int im, .ref (o + 4), .int ba2, .int at2, .int sz2, .int fa2, .int op2, .ref (o + 5), .ref (o + 6), .int rm, .ref (o + 7), .ref (o + 8), .int ti, .ref (o + 9), .int tm, .int wh, .ref (o + 10), .ref (o + 11), .ref (o + 12), .ref (o + 13)])) := by rw [ze39]; rw [va_up_ne _ _ (show o ≠ o + 2 by omega)]; exact zK28
              have zK44 : zh38 (o + 4) = arI κ 6 fo := by rw [ze39]; rw [va_up_ne _ _ (show o + 4 ≠ o + 2 by omega)]; exact zK29
              have zK45 : zh38 (o + 1) = arI κ 340 d := by rw [ze39]; rw [va_up_ne _ _ (show o + 1 ≠ o + 2 by omega)]; exact zK30
              have zK46 : zh38 (o + 2) = arI κ 340 (bgn d) := by rw [ze39]; exact va_up_self _ _ _
              have zK47 : zh38 (o + 5) = arI κ 3 nm2 := by rw [ze39]; rw [va_up_ne _ _ (show o + 5 ≠ o + 2 by omega)]; exact zK32
              have zK48 : zh38 (o + 6) = arI κ 40 g := by rw [ze39]; rw [va_up_ne _ _ (show o + 6 ≠ o + 2 by omega)]; exact zK33
              have zK49 : zh38 (o + 10) = arI κ 4 bi := by rw [ze39]; rw [va_up_ne _ _ (show o + 10 ≠ o + 2 by omega)]; exact zK34
              have zK50 : zh38 (o + 11) = arI κ 4 si := by rw [ze39]; rw [va_up_ne _ _ (show o + 11 ≠ o + 2 by omega)]; exact zK35
              have zK51 : zh38 (o + 12) = arI κ 160 nu := by rw [ze39]; rw [va_up_ne _ _ (show o + 12 ≠ o + 2 by omega)]; exact zK36
              refine z_aload_n X 0 dX12_blown_54 rfl ?_
              refine z_get X fl_X12_13_12 dX12_blown_55 zK43 rfl ?_
              refine z_bipush (v := 7) X dX12_blown_58 (by decide) ?_
              refine z_iload X 5 dX12_blown_60 rfl ?_
              refine z_iast X dX12_blown_62 zK46 (vp_in_nI (n := 7) (by omega) (by omega)) (congrArg (fun z => va_up zh38 (o + 2) (arI κ 340 (upd (bgn d) z (nI i)))) (nI_clamp (n := 7) (by omega))) ?_
              obtain ⟨zh52, ze53⟩ : ∃ z : Mm, z = va_up zh38 (o + 2) (arI κ 340 (upd (bgn d) 7 (nI i))) := ⟨_, rfl⟩
              refine z_heap (h' := zh52) ze53.symm ?_
              have zK54 := up_off ze53 (show o ≠ o + 2 by omega) zK43
              have zK55 := up_off ze53 (show o + 4 ≠ o + 2 by omega) zK44
              have zK56 := up_off ze53 (show o + 1 ≠ o + 2 by omega) zK45
              have zK57 := up_at ze53
              have zK58 := up_off ze53 (show o + 5 ≠ o + 2 by omega) zK47
              have zK59 := up_off ze53 (show o + 6 ≠ o + 2 by omega) zK48
              have zK60 := up_off ze53 (show o + 10 ≠ o + 2 by omega) zK49
              have zK61 := up_off ze53 (show o + 11 ≠ o + 2 by omega) zK50
              have zK62 := up_off ze53 (show o + 12 ≠ o + 2 by omega) zK51
              refine z_aload_n X 0 dX12_blown_63 rfl ?_
              refine z_iload_n X 2 dX12_blown_64 rfl ?_
              refine z_callV X (r_goesAhead (κ := κ) (n := n) (o := (o)) (v := (vk)) (d := (d)) (m := (upd (bgn d) 7 (nI i))) (nm := (nm2)) (nc := (nc)) (im := (im)) (ba := (ba2)) (at_ := (at2)) (sz := (sz2)) (fa := (fa2)) (op := (op2)) (rm := (rm)) (ti := (ti)) (tm := (tm)) (wh := (wh)) zK54 zK56 zK57 zK58 (q8) (lnOk_upd (bgn_ok d) (by omega)) ((pk_un (by omega)).trans ((bgn_off (by omega)).trans q4)) (by first | assumption | omega) (by first | assumption | omega)) mk_X12_goesAhead dX12_blown_65 wd_1211 wd_1213 wd_43 rfl zK54 rfl rfl rfl (Nat.le_of_ble_eq_true rfl) (Nat.le_of_ble_eq_true rfl) (Nat.le_of_ble_eq_true rfl) (by omega) (by omega) (fun q zh69 zm71 zp72 => ?_)
              obtain ⟨ba'63, at'64, sz'65, fa'66, op'67, nm'68, rfl, ze70, zn73⟩ := zp72
              subst zm71
              refine z_st (st' := []) rfl ?_
              have zK74 : zh69 o = some (.inr (12, [.ref (o + 1), .ref (o + 2), .ref (o + 3), .int im, .ref (o + 4), .int ba'63, .int at'64, .int sz'65, .int fa'66, .int op'67, .ref (o + 5), .ref (o + 6), .int rm, .ref (o + 7), .ref (o + 8), .int ti, .ref (o + 9), .int tm, .int wh, .ref (o + 10), .ref (o + 11), .ref (o + 12), .ref (o + 13)])) := by rw [ze70]; rw [va_up_ne _ _ (show o ≠ o + 2 by omega)]; rw [va_up_ne _ _ (show o ≠ o + 5 by omega)]; exact va_up_self _ _ _
              have zK75 : zh69 (o + 4) = arI κ 6 fo := by rw [ze70]; rw [va_up_ne _ _ (show o + 4 ≠ o + 2 by omega)]; rw [va_up_ne _ _ (show o + 4 ≠ o + 5 by omega)]; rw [va_up_ne _ _ (show o + 4 ≠ o by omega)]; exact zK55
              have zK76 : zh69 (o + 1) = arI κ 340 d := by rw [ze70]; rw [va_up_ne _ _ (show o + 1 ≠ o + 2 by omega)]; rw [va_up_ne _ _ (show o + 1 ≠ o + 5 by omega)]; rw [va_up_ne _ _ (show o + 1 ≠ o by omega)]; exact zK56
              have zK77 : zh69 (o + 2) = arI κ 340 (gbyN (Tx d) tx vk (upd (bgn d) 7 (nI i))) := by rw [ze70]; exact va_up_self _ _ _
              have zK78 : zh69 (o + 5) = arI κ 3 nm'68 := by rw [ze70]; rw [va_up_ne _ _ (show o + 5 ≠ o + 2 by omega)]; exact va_up_self _ _ _
              have zK79 : zh69 (o + 6) = arI κ 40 g := by rw [ze70]; rw [va_up_ne _ _ (show o + 6 ≠ o + 2 by omega)]; rw [va_up_ne _ _ (show o + 6 ≠ o + 5 by omega)]; rw [va_up_ne _ _ (show o + 6 ≠ o by omega)]; exact zK59
              have zK80 : zh69 (o + 10) = arI κ 4 bi := by rw [ze70]; rw [va_up_ne _ _ (show o + 10 ≠ o + 2 by omega)]; rw [va_up_ne _ _ (show o + 10 ≠ o + 5 by omega)]; rw [va_up_ne _ _ (show o + 10 ≠ o by omega)]; exact zK60
              have zK81 : zh69 (o + 11) = arI κ 4 si := by rw [ze70]; rw [va_up_ne _ _ (show o + 11 ≠ o + 2 by omega)]; rw [va_up_ne _ _ (show o + 11 ≠ o + 5 by omega)]; rw [va_up_ne _ _ (show o + 11 ≠ o by omega)]; exact zK61
              have zK82 : zh69 (o + 12) = arI κ 160 nu := by rw [ze70]; rw [va_up_ne _ _ (show o + 12 ≠ o + 2 by omega)]; rw [va_up_ne _ _ (show o + 12 ≠ o + 5 by omega)]; rw [va_up_ne _ _ (show o + 12 ≠ o by omega)]; exact zK62
              refine z_aload_n X 0 dX12_blown_68 rfl ?_
              refine z_aload_n X 0 dX12_blown_69 rfl ?_
              refine z_get X fl_X12_13_12 dX12_blown_70 zK74 rfl ?_
              refine z_iload_n X 1 dX12_blown_73 rfl ?_
              refine z_callV X (r_offBy (κ := κ) (n := n) (o := (o)) (a := (o + 2)) (m := (gbyN (Tx d) tx vk (upd (bgn d) 7 (nI i)))) (len := (lnO (gbyN (Tx d) tx vk (upd (bgn d) 7 (nI i))))) (sk := (sk)) (bi := (bi)) (si := (si)) (nu := (nu)) (ss := (ss)) (im := (im)) (ba := (ba'63)) (at_ := (at'64)) (sz := (sz'65)) (fa := (fa'66)) (op := (op'67)) (rm := (rm)) (ti := (ti)) (tm := (tm)) (wh := (wh)) zK74 zK77 zK80 zK81 zK82 (by first | assumption | omega) ((gbyN_ok (lnOk_upd (bgn_ok d) (by omega)) vk).1) ((gbyN_ok (lnOk_upd (bgn_ok d) (by omega)) vk).2.1) ((gbyN_ok (lnOk_upd (bgn_ok d) (by omega)) vk).2.2) (by first | assumption | omega) (by first | assumption | omega)) mk_X12_offBy dX12_blown_74 wd_1253 wd_1255 wd_46 rfl zK74 rfl rfl rfl (Nat.le_of_ble_eq_true rfl) (Nat.le_of_ble_eq_true rfl) (Nat.le_of_ble_eq_true rfl) (by omega) (by omega) (fun q zh83 zm85 zp86 => ?_)
              obtain ⟨rfl, ze84, zn87⟩ := zp86
              subst zm85
              subst zh83
              refine z_st (st' := [.int (offS (gbyN (Tx d) tx vk (upd (bgn d) 7 (nI i))) nu (lnO (gbyN (Tx d) tx vk (upd (bgn d) 7 (nI i)))) (ss sk) sk 40)]) rfl ?_
              refine z_istore (ls' := [(6, .int (offS (gbyN (Tx d) tx vk (upd (bgn d) 7 (nI i))) nu (lnO (gbyN (Tx d) tx vk (upd (bgn d) 7 (nI i)))) (ss sk) sk 40)), (0, .ref o), (1, .int (nI sk)), (2, .int (nI vk)), (3, .int b), (4, .int l), (5, .int (nI i))]) X dX12_blown_77 (by decide) rfl ?_
              refine z_iload_n X 4 dX12_blown_79 rfl ?_
              refine z_if_lt X 90 dX12_blown_80 (by decide) (fun zc88 => ?_) (fun zc88 => ?_)
              · refine z_iload X 6 dX12_blown_90 rfl ?_
                refine z_istore_n (ls' := [(3, .int (nI i)), (6, .int (offS (gbyN (Tx d) tx vk (upd (bgn d) 7 (nI i))) nu (lnO (gbyN (Tx d) tx vk (upd (bgn d) 7 (nI i)))) (ss sk) sk 40)), (0, .ref o), (1, .int (nI sk)), (2, .int (nI vk)), (4, .int l), (5, .int (nI i))]) X dX12_blown_92 (by decide) rfl ?_
                refine z_iload X 1 dX12_blown_93 rfl ?_
                refine z_istore (ls' := [(4, .int (offS (gbyN (Tx d) tx vk (upd (bgn d) 7 (nI i))) nu (lnO (gbyN (Tx d) tx vk (upd (bgn d) 7 (nI i)))) (ss sk) sk 40)), (3, .int (nI i)), (6, .int (offS (gbyN (Tx d) tx vk (upd (bgn d) 7 (nI i))) nu (lnO (gbyN (Tx d) tx vk (upd (bgn d) 7 (nI i)))) (ss sk) sk 40)), (0, .ref o), (1, .int (nI sk)), (2, .int (nI vk)), (5, .int (nI i))]) X dX12_blown_95 (by decide) rfl ?_
                refine z_iinc (v := nI (i + 1)) (ls' := [(5, .int (nI (i + 1))), (4, .int (offS (gbyN (Tx d) tx vk (upd (bgn d) 7 (nI i))) nu (lnO (gbyN (Tx d) tx vk (upd (bgn d) 7 (nI i)))) (ss sk) sk 40)), (3, .int (nI i)), (6, .int (offS (gbyN (Tx d) tx vk (upd (bgn d) 7 (nI i))) nu (lnO (gbyN (Tx d) tx vk (upd (bgn d) 7 (nI i)))) (ss sk) sk 40)), (0, .ref o), (1, .int (nI sk)), (2, .int (nI vk))]) X 6 dX12_blown_97 rfl (nI_1 (i)) (by decide) rfl ?_
                refine z_goto X 43 dX12_blown_100 (by decide) ?_
                refine z_sub (ls' := [(0, .ref o), (1, .int (nI sk)), (2, .int (nI vk)), (3, .int (nI i)), (4, .int (offS (gbyN (Tx d) tx vk (upd (bgn d) 7 (nI i))) nu (lnO (gbyN (Tx d) tx vk (upd (bgn d) 7 (nI i)))) (ss sk) sk 40)), (5, .int (nI (i + 1)))]) [4, 5, 6, 2, 1, 0] rfl ?_
                exact ih43 _ (i + 1) ba'63 at'64 sz'65 fa'66 op'67 nm'68 (gbyN (Tx d) tx vk (upd (bgn d) 7 (nI i))) (nI i) (offS (gbyN (Tx d) tx vk (upd (bgn d) 7 (nI i))) nu (lnO (gbyN (Tx d) tx vk (upd (bgn d) 7 (nI i)))) (ss sk) sk 40) (by omega) (by funext zz; by_cases zq2 : zz = o + 2; (rw [zq2, va_up_self]; exact zK77); by_cases zq1 : zz = o + 5; (rw [zq1, va_up_ne _ _ (show o + 5 ≠ o + 2 by omega), va_up_self]; exact zK78); by_cases zq0 : zz = o; (rw [zq0, va_up_ne _ _ (show o ≠ o + 2 by omega), va_up_ne _ _ (show o ≠ o + 5 by omega), va_up_self]; exact zK74); rw [va_up_ne _ _ zq2, va_up_ne _ _ zq1, va_up_ne _ _ zq0]; rw [ze70, ze53, ze39, he43]; simp only [va_up, if_neg zq0, if_neg zq1, if_neg zq2]) (by first | assumption | rfl | omega) (by first | exact AM_t hA (by omega) (Or.inl (by assumption)) | exact AM_t hA (by omega) (Or.inr (Int32.not_le.mp (by assumption))) | exact AM_f hA (by first | assumption | exact Int32.not_lt.mpr (by assumption)) (Int32.not_lt.mpr (by assumption)))
              · refine z_iload X 0 dX12_blown_83 rfl ?_
                refine z_iload X 5 dX12_blown_85 rfl ?_
                refine z_icmp_ge X 97 dX12_blown_87 (by decide) (fun zc89 => ?_) (fun zc89 => ?_)
                · refine z_iinc (v := nI (i + 1)) (ls' := [(5, .int (nI (i + 1))), (6, .int (offS (gbyN (Tx d) tx vk (upd (bgn d) 7 (nI i))) nu (lnO (gbyN (Tx d) tx vk (upd (bgn d) 7 (nI i)))) (ss sk) sk 40)), (0, .ref o), (1, .int (nI sk)), (2, .int (nI vk)), (3, .int b), (4, .int l)]) X 6 dX12_blown_97 rfl (nI_1 (i)) (by decide) rfl ?_
                  refine z_goto X 43 dX12_blown_100 (by decide) ?_
                  refine z_sub (ls' := [(0, .ref o), (1, .int (nI sk)), (2, .int (nI vk)), (3, .int b), (4, .int l), (5, .int (nI (i + 1)))]) [2, 3, 4, 5, 6, 0] rfl ?_
                  exact ih43 _ (i + 1) ba'63 at'64 sz'65 fa'66 op'67 nm'68 (gbyN (Tx d) tx vk (upd (bgn d) 7 (nI i))) b l (by omega) (by funext zz; by_cases zq2 : zz = o + 2; (rw [zq2, va_up_self]; exact zK77); by_cases zq1 : zz = o + 5; (rw [zq1, va_up_ne _ _ (show o + 5 ≠ o + 2 by omega), va_up_self]; exact zK78); by_cases zq0 : zz = o; (rw [zq0, va_up_ne _ _ (show o ≠ o + 2 by omega), va_up_ne _ _ (show o ≠ o + 5 by omega), va_up_self]; exact zK74); rw [va_up_ne _ _ zq2, va_up_ne _ _ zq1, va_up_ne _ _ zq0]; rw [ze70, ze53, ze39, he43]; simp only [va_up, if_neg zq0, if_neg zq1, if_neg zq2]) (by first | assumption | rfl | omega) (by first | exact AM_t hA (by omega) (Or.inl (by assumption)) | exact AM_t hA (by omega) (Or.inr (Int32.not_le.mp (by assumption))) | exact AM_f hA (by first | assumption | exact Int32.not_lt.mpr (by assumption)) (Int32.not_lt.mpr (by assumption)))
                · refine z_iload X 6 dX12_blown_90 rfl ?_
                  refine z_istore_n (ls' := [(3, .int (nI i)), (6, .int (offS (gbyN (Tx d) tx vk (upd (bgn d) 7 (nI i))) nu (lnO (gbyN (Tx d) tx vk (upd (bgn d) 7 (nI i)))) (ss sk) sk 40)), (0, .ref o), (1, .int (nI sk)), (2, .int (nI vk)), (4, .int l), (5, .int (nI i))]) X dX12_blown_92 (by decide) rfl ?_
                  refine z_iload X 1 dX12_blown_93 rfl ?_
                  refine z_istore (ls' := [(4, .int (offS (gbyN (Tx d) tx vk (upd (bgn d) 7 (nI i))) nu (lnO (gbyN (Tx d) tx vk (upd (bgn d) 7 (nI i)))) (ss sk) sk 40)), (3, .int (nI i)), (6, .int (offS (gbyN (Tx d) tx vk (upd (bgn d) 7 (nI i))) nu (lnO (gbyN (Tx d) tx vk (upd (bgn d) 7 (nI i)))) (ss sk) sk 40)), (0, .ref o), (1, .int (nI sk)), (2, .int (nI vk)), (5, .int (nI i))]) X dX12_blown_95 (by decide) rfl ?_
                  refine z_iinc (v := nI (i + 1)) (ls' := [(5, .int (nI (i + 1))), (4, .int (offS (gbyN (Tx d) tx vk (upd (bgn d) 7 (nI i))) nu (lnO (gbyN (Tx d) tx vk (upd (bgn d) 7 (nI i)))) (ss sk) sk 40)), (3, .int (nI i)), (6, .int (offS (gbyN (Tx d) tx vk (upd (bgn d) 7 (nI i))) nu (lnO (gbyN (Tx d) tx vk (upd (bgn d) 7 (nI i)))) (ss sk) sk 40)), (0, .ref o), (1, .int (nI sk)), (2, .int (nI vk))]) X 6 dX12_blown_97 rfl (nI_1 (i)) (by decide) rfl ?_
                  refine z_goto X 43 dX12_blown_100 (by decide) ?_
                  refine z_sub (ls' := [(0, .ref o), (1, .int (nI sk)), (2, .int (nI vk)), (3, .int (nI i)), (4, .int (offS (gbyN (Tx d) tx vk (upd (bgn d) 7 (nI i))) nu (lnO (gbyN (Tx d) tx vk (upd (bgn d) 7 (nI i)))) (ss sk) sk 40)), (5, .int (nI (i + 1)))]) [4, 5, 6, 2, 1, 0] rfl ?_
                  exact ih43 _ (i + 1) ba'63 at'64 sz'65 fa'66 op'67 nm'68 (gbyN (Tx d) tx vk (upd (bgn d) 7 (nI i))) (nI i) (offS (gbyN (Tx d) tx vk (upd (bgn d) 7 (nI i))) nu (lnO (gbyN (Tx d) tx vk (upd (bgn d) 7 (nI i)))) (ss sk) sk 40) (by omega) (by funext zz; by_cases zq2 : zz = o + 2; (rw [zq2, va_up_self]; exact zK77); by_cases zq1 : zz = o + 5; (rw [zq1, va_up_ne _ _ (show o + 5 ≠ o + 2 by omega), va_up_self]; exact zK78); by_cases zq0 : zz = o; (rw [zq0, va_up_ne _ _ (show o ≠ o + 2 by omega), va_up_ne _ _ (show o ≠ o + 5 by omega), va_up_self]; exact zK74); rw [va_up_ne _ _ zq2, va_up_ne _ _ zq1, va_up_ne _ _ zq0]; rw [ze70, ze53, ze39, he43]; simp only [va_up, if_neg zq0, if_neg zq1, if_neg zq2]) (by first | assumption | rfl | omega) (by first | exact AM_t hA (by omega) (Or.inl (by assumption)) | exact AM_t hA (by omega) (Or.inr (Int32.not_le.mp (by assumption))) | exact AM_f hA (by first | assumption | exact Int32.not_lt.mpr (by assumption)) (Int32.not_lt.mpr (by assumption)))
        refine z_sub (ls' := [(0, .ref o), (1, .int (nI sk)), (2, .int (nI vk)), (3, .int ((-1))), (4, .int 0), (5, .int 0)]) [3, 4, 5, 2, 1, 0] rfl ?_
        exact L43 _ _ 0 ba at_ sz fa op nm e ((-1)) 0 (Nat.lt_succ_self _) (by rw [up_same _ _ K0, up_same _ _ K4, up_same _ _ K3]) (by first | assumption | rfl | omega) (by exact AM_0)
      · refine z_aload_n X 0 dX12_blown_29 rfl ?_
        refine z_iconst (v := 2) X dX12_blown_30 (by decide) ?_
        refine z_callV X (r_finds (κ := κ) (n := n) (o := (o)) (k := (2)) (fo := (fo)) (im := (im)) (ba := (ba)) (at_ := (at_)) (sz := (sz)) (fa := (fa)) (op := (op)) (rm := (rm)) (ti := (ti)) (tm := (tm)) (wh := (wh)) K0 K1 (by first | assumption | omega) (by first | assumption | omega)) mk_X12_finds dX12_blown_31 wd_1018 wd_1020 wd_24 rfl K0 rfl rfl rfl (Nat.le_of_ble_eq_true rfl) (Nat.le_of_ble_eq_true rfl) (Nat.le_of_ble_eq_true rfl) (by omega) (by omega) (fun q zh90 zm92 zp93 => ?_)
        obtain ⟨rfl, ze91, zn94⟩ := zp93
        subst zm92
        refine z_st (st' := [.int (lowE 2)]) rfl ?_
        have zK95 : zh90 o = some (.inr (12, [.ref (o + 1), .ref (o + 2), .ref (o + 3), .int im, .ref (o + 4), .int ba, .int at_, .int sz, .int fa, .int op, .ref (o + 5), .ref (o + 6), .int rm, .ref (o + 7), .ref (o + 8), .int ti, .ref (o + 9), .int tm, .int wh, .ref (o + 10), .ref (o + 11), .ref (o + 12), .ref (o + 13)])) := by rw [ze91]; rw [va_up_ne _ _ (show o ≠ o + 4 by omega)]; exact K0
        have zK96 : zh90 (o + 4) = arI κ 6 (bmp fo 2) := by rw [ze91]; exact va_up_self _ _ _
        have zK97 : zh90 (o + 1) = arI κ 340 d := by rw [ze91]; rw [va_up_ne _ _ (show o + 1 ≠ o + 4 by omega)]; exact K2
        have zK98 : zh90 (o + 2) = arI κ 340 e := by rw [ze91]; rw [va_up_ne _ _ (show o + 2 ≠ o + 4 by omega)]; exact K3
        have zK99 : zh90 (o + 5) = arI κ 3 nm := by rw [ze91]; rw [va_up_ne _ _ (show o + 5 ≠ o + 4 by omega)]; exact K4
        have zK100 : zh90 (o + 6) = arI κ 40 g := by rw [ze91]; rw [va_up_ne _ _ (show o + 6 ≠ o + 4 by omega)]; exact K5
        have zK101 : zh90 (o + 10) = arI κ 4 bi := by rw [ze91]; rw [va_up_ne _ _ (show o + 10 ≠ o + 4 by omega)]; exact K6
        have zK102 : zh90 (o + 11) = arI κ 4 si := by rw [ze91]; rw [va_up_ne _ _ (show o + 11 ≠ o + 4 by omega)]; exact K7
        have zK103 : zh90 (o + 12) = arI κ 160 nu := by rw [ze91]; rw [va_up_ne _ _ (show o + 12 ≠ o + 4 by omega)]; exact K8
        refine z_iret X E dX12_blown_34 (by omega) (by omega) ⟨ba, at_, sz, fa, op, nm, rm, e, g, ?_, ?_, ?_⟩
        · generalize hz : opBlown (Tx d) tx d bi nu ss (nI sk) (nI vk) = z; unfold opBlown at hz; (try simp only [i_nI (n := sk) (by omega), nI_clamp (n := sk) (by omega), i_nI (n := vk) (by omega), nI_clamp (n := vk) (by omega),  i_eq, i_lt, i_le, show (-1 : Int32).toInt = -1 by decide, show (0 : Int32).toInt = 0 by decide, show (1 : Int32).toInt = 1 by decide, show (2 : Int32).toInt = 2 by decide, show (3 : Int32).toInt = 3 by decide, show (4 : Int32).toInt = 4 by decide, show (5 : Int32).toInt = 5 by decide, show (6 : Int32).toInt = 6 by decide, show (7 : Int32).toInt = 7 by decide, show (8 : Int32).toInt = 8 by decide, show (9 : Int32).toInt = 9 by decide, show (10 : Int32).toInt = 10 by decide, show (11 : Int32).toInt = 11 by decide, show (12 : Int32).toInt = 12 by decide, show (13 : Int32).toInt = 13 by decide, show (14 : Int32).toInt = 14 by decide, show (15 : Int32).toInt = 15 by decide, show (16 : Int32).toInt = 16 by decide, show (20 : Int32).toInt = 20 by decide, show (39 : Int32).toInt = 39 by decide, show (40 : Int32).toInt = 40 by decide, show (50 : Int32).toInt = 50 by decide, show (60 : Int32).toInt = 60 by decide, show (99 : Int32).toInt = 99 by decide, show (100 : Int32).toInt = 100 by decide, show (999 : Int32).toInt = 999 by decide, show (9999 : Int32).toInt = 9999 by decide, show (99999 : Int32).toInt = 99999 by decide, show (999999 : Int32).toInt = 999999 by decide, show (9999999 : Int32).toInt = 9999999 by decide, show (-50 : Int32).toInt = -50 by decide, show (32 : Int32).toInt = 32 by decide] at *); (repeat first | rw [if_pos (by omega)] at hz | rw [if_neg (by omega)] at hz); subst hz; first | exact congrArg (fun z => some (Value.int z)) (ansOf_0 _).symm | rfl
        · generalize hz : opBlown (Tx d) tx d bi nu ss (nI sk) (nI vk) = z; unfold opBlown at hz; (try simp only [i_nI (n := sk) (by omega), nI_clamp (n := sk) (by omega), i_nI (n := vk) (by omega), nI_clamp (n := vk) (by omega),  i_eq, i_lt, i_le, show (-1 : Int32).toInt = -1 by decide, show (0 : Int32).toInt = 0 by decide, show (1 : Int32).toInt = 1 by decide, show (2 : Int32).toInt = 2 by decide, show (3 : Int32).toInt = 3 by decide, show (4 : Int32).toInt = 4 by decide, show (5 : Int32).toInt = 5 by decide, show (6 : Int32).toInt = 6 by decide, show (7 : Int32).toInt = 7 by decide, show (8 : Int32).toInt = 8 by decide, show (9 : Int32).toInt = 9 by decide, show (10 : Int32).toInt = 10 by decide, show (11 : Int32).toInt = 11 by decide, show (12 : Int32).toInt = 12 by decide, show (13 : Int32).toInt = 13 by decide, show (14 : Int32).toInt = 14 by decide, show (15 : Int32).toInt = 15 by decide, show (16 : Int32).toInt = 16 by decide, show (20 : Int32).toInt = 20 by decide, show (39 : Int32).toInt = 39 by decide, show (40 : Int32).toInt = 40 by decide, show (50 : Int32).toInt = 50 by decide, show (60 : Int32).toInt = 60 by decide, show (99 : Int32).toInt = 99 by decide, show (100 : Int32).toInt = 100 by decide, show (999 : Int32).toInt = 999 by decide, show (9999 : Int32).toInt = 9999 by decide, show (99999 : Int32).toInt = 99999 by decide, show (999999 : Int32).toInt = 999999 by decide, show (9999999 : Int32).toInt = 9999999 by decide, show (-50 : Int32).toInt = -50 by decide, show (32 : Int32).toInt = 32 by decide] at *); (repeat first | rw [if_pos (by omega)] at hz | rw [if_neg (by omega)] at hz); subst hz; funext zz; by_cases zq4 : zz = o + 4; (rw [zq4, va_up_self]; exact zK96); by_cases zq3 : zz = o + 6; (rw [zq3, va_up_ne _ _ (show o + 6 ≠ o + 4 by omega), va_up_self]; exact zK100); by_cases zq2 : zz = o + 2; (rw [zq2, va_up_ne _ _ (show o + 2 ≠ o + 4 by omega), va_up_ne _ _ (show o + 2 ≠ o + 6 by omega), va_up_self]; exact zK98); by_cases zq1 : zz = o + 5; (rw [zq1, va_up_ne _ _ (show o + 5 ≠ o + 4 by omega), va_up_ne _ _ (show o + 5 ≠ o + 6 by omega), va_up_ne _ _ (show o + 5 ≠ o + 2 by omega), va_up_self]; exact zK99); by_cases zq0 : zz = o; (rw [zq0, va_up_ne _ _ (show o ≠ o + 4 by omega), va_up_ne _ _ (show o ≠ o + 6 by omega), va_up_ne _ _ (show o ≠ o + 2 by omega), va_up_ne _ _ (show o ≠ o + 5 by omega), va_up_self]; exact zK95); rw [va_up_ne _ _ zq4, va_up_ne _ _ zq3, va_up_ne _ _ zq2, va_up_ne _ _ zq1, va_up_ne _ _ zq0]; rw [ze91]; simp only [va_up, if_neg zq0, if_neg zq1, if_neg zq2, if_neg zq3, if_neg zq4]
        · rfl
    · replace zc26 := b2i_f zc26
      refine z_aload_n X 0 dX12_blown_14 rfl ?_
      refine z_iconst (v := 1) X dX12_blown_15 (by decide) ?_
      refine z_callV X (r_finds (κ := κ) (n := n) (o := (o)) (k := (1)) (fo := (fo)) (im := (im)) (ba := (ba)) (at_ := (at_)) (sz := (sz)) (fa := (fa)) (op := (op)) (rm := (rm)) (ti := (ti)) (tm := (tm)) (wh := (wh)) K0 K1 (by first | assumption | omega) (by first | assumption | omega)) mk_X12_finds dX12_blown_16 wd_1018 wd_1020 wd_24 rfl K0 rfl rfl rfl (Nat.le_of_ble_eq_true rfl) (Nat.le_of_ble_eq_true rfl) (Nat.le_of_ble_eq_true rfl) (by omega) (by omega) (fun q zh104 zm106 zp107 => ?_)
      obtain ⟨rfl, ze105, zn108⟩ := zp107
      subst zm106
      refine z_st (st' := [.int (lowE 1)]) rfl ?_
      have zK109 : zh104 o = some (.inr (12, [.ref (o + 1), .ref (o + 2), .ref (o + 3), .int im, .ref (o + 4), .int ba, .int at_, .int sz, .int fa, .int op, .ref (o + 5), .ref (o + 6), .int rm, .ref (o + 7), .ref (o + 8), .int ti, .ref (o + 9), .int tm, .int wh, .ref (o + 10), .ref (o + 11), .ref (o + 12), .ref (o + 13)])) := by rw [ze105]; rw [va_up_ne _ _ (show o ≠ o + 4 by omega)]; exact K0
      have zK110 : zh104 (o + 4) = arI κ 6 (bmp fo 1) := by rw [ze105]; exact va_up_self _ _ _
      have zK111 : zh104 (o + 1) = arI κ 340 d := by rw [ze105]; rw [va_up_ne _ _ (show o + 1 ≠ o + 4 by omega)]; exact K2
      have zK112 : zh104 (o + 2) = arI κ 340 e := by rw [ze105]; rw [va_up_ne _ _ (show o + 2 ≠ o + 4 by omega)]; exact K3
      have zK113 : zh104 (o + 5) = arI κ 3 nm := by rw [ze105]; rw [va_up_ne _ _ (show o + 5 ≠ o + 4 by omega)]; exact K4
      have zK114 : zh104 (o + 6) = arI κ 40 g := by rw [ze105]; rw [va_up_ne _ _ (show o + 6 ≠ o + 4 by omega)]; exact K5
      have zK115 : zh104 (o + 10) = arI κ 4 bi := by rw [ze105]; rw [va_up_ne _ _ (show o + 10 ≠ o + 4 by omega)]; exact K6
      have zK116 : zh104 (o + 11) = arI κ 4 si := by rw [ze105]; rw [va_up_ne _ _ (show o + 11 ≠ o + 4 by omega)]; exact K7
      have zK117 : zh104 (o + 12) = arI κ 160 nu := by rw [ze105]; rw [va_up_ne _ _ (show o + 12 ≠ o + 4 by omega)]; exact K8
      refine z_iret X E dX12_blown_19 (by omega) (by omega) ⟨ba, at_, sz, fa, op, nm, rm, e, g, ?_, ?_, ?_⟩
      · generalize hz : opBlown (Tx d) tx d bi nu ss s v = z; unfold opBlown at hz; (try simp only [ i_eq, i_lt, i_le, show (-1 : Int32).toInt = -1 by decide, show (0 : Int32).toInt = 0 by decide, show (1 : Int32).toInt = 1 by decide, show (2 : Int32).toInt = 2 by decide, show (3 : Int32).toInt = 3 by decide, show (4 : Int32).toInt = 4 by decide, show (5 : Int32).toInt = 5 by decide, show (6 : Int32).toInt = 6 by decide, show (7 : Int32).toInt = 7 by decide, show (8 : Int32).toInt = 8 by decide, show (9 : Int32).toInt = 9 by decide, show (10 : Int32).toInt = 10 by decide, show (11 : Int32).toInt = 11 by decide, show (12 : Int32).toInt = 12 by decide, show (13 : Int32).toInt = 13 by decide, show (14 : Int32).toInt = 14 by decide, show (15 : Int32).toInt = 15 by decide, show (16 : Int32).toInt = 16 by decide, show (20 : Int32).toInt = 20 by decide, show (39 : Int32).toInt = 39 by decide, show (40 : Int32).toInt = 40 by decide, show (50 : Int32).toInt = 50 by decide, show (60 : Int32).toInt = 60 by decide, show (99 : Int32).toInt = 99 by decide, show (100 : Int32).toInt = 100 by decide, show (999 : Int32).toInt = 999 by decide, show (9999 : Int32).toInt = 9999 by decide, show (99999 : Int32).toInt = 99999 by decide, show (999999 : Int32).toInt = 999999 by decide, show (9999999 : Int32).toInt = 9999999 by decide, show (-50 : Int32).toInt = -50 by decide, show (32 : Int32).toInt = 32 by decide] at *); (repeat first | rw [if_pos (by omega)] at hz | rw [if_neg (by omega)] at hz); subst hz; first | exact congrArg (fun z => some (Value.int z)) (ansOf_0 _).symm | rfl
      · generalize hz : opBlown (Tx d) tx d bi nu ss s v = z; unfold opBlown at hz; (try simp only [ i_eq, i_lt, i_le, show (-1 : Int32).toInt = -1 by decide, show (0 : Int32).toInt = 0 by decide, show (1 : Int32).toInt = 1 by decide, show (2 : Int32).toInt = 2 by decide, show (3 : Int32).toInt = 3 by decide, show (4 : Int32).toInt = 4 by decide, show (5 : Int32).toInt = 5 by decide, show (6 : Int32).toInt = 6 by decide, show (7 : Int32).toInt = 7 by decide, show (8 : Int32).toInt = 8 by decide, show (9 : Int32).toInt = 9 by decide, show (10 : Int32).toInt = 10 by decide, show (11 : Int32).toInt = 11 by decide, show (12 : Int32).toInt = 12 by decide, show (13 : Int32).toInt = 13 by decide, show (14 : Int32).toInt = 14 by decide, show (15 : Int32).toInt = 15 by decide, show (16 : Int32).toInt = 16 by decide, show (20 : Int32).toInt = 20 by decide, show (39 : Int32).toInt = 39 by decide, show (40 : Int32).toInt = 40 by decide, show (50 : Int32).toInt = 50 by decide, show (60 : Int32).toInt = 60 by decide, show (99 : Int32).toInt = 99 by decide, show (100 : Int32).toInt = 100 by decide, show (999 : Int32).toInt = 999 by decide, show (9999 : Int32).toInt = 9999 by decide, show (99999 : Int32).toInt = 99999 by decide, show (999999 : Int32).toInt = 999999 by decide, show (9999999 : Int32).toInt = 9999999 by decide, show (-50 : Int32).toInt = -50 by decide, show (32 : Int32).toInt = 32 by decide] at *); (repeat first | rw [if_pos (by omega)] at hz | rw [if_neg (by omega)] at hz); subst hz; funext zz; by_cases zq4 : zz = o + 4; (rw [zq4, va_up_self]; exact zK110); by_cases zq3 : zz = o + 6; (rw [zq3, va_up_ne _ _ (show o + 6 ≠ o + 4 by omega), va_up_self]; exact zK114); by_cases zq2 : zz = o + 2; (rw [zq2, va_up_ne _ _ (show o + 2 ≠ o + 4 by omega), va_up_ne _ _ (show o + 2 ≠ o + 6 by omega), va_up_self]; exact zK112); by_cases zq1 : zz = o + 5; (rw [zq1, va_up_ne _ _ (show o + 5 ≠ o + 4 by omega), va_up_ne _ _ (show o + 5 ≠ o + 6 by omega), va_up_ne _ _ (show o + 5 ≠ o + 2 by omega), va_up_self]; exact zK113); by_cases zq0 : zz = o; (rw [zq0, va_up_ne _ _ (show o ≠ o + 4 by omega), va_up_ne _ _ (show o ≠ o + 6 by omega), va_up_ne _ _ (show o ≠ o + 2 by omega), va_up_ne _ _ (show o ≠ o + 5 by omega), va_up_self]; exact zK109); rw [va_up_ne _ _ zq4, va_up_ne _ _ zq3, va_up_ne _ _ zq2, va_up_ne _ _ zq1, va_up_ne _ _ zq0]; rw [ze105]; simp only [va_up, if_neg zq0, if_neg zq1, if_neg zq2, if_neg zq3, if_neg zq4]
      · rfl
