theorem ansOf_0 (x : Int32) : ansOf (0, x) = x := rfl
theorem bump_0 (x : Int32) (fo : Nat → Int32) : bump (0, x) fo = fo := rfl
theorem ev_top {κ : Wc} {l : Launch} : EvC κ l yX12_either cX12_either 3 38 5 (evE 5) := ev_chain (dd := 33) (by omega) (ev_unit 5)
/-- a whole text worked out: its value, its fault -/
def wkE (b : Nat → Int32) (n : Nat) (nm : Nat → Int32) : Int32 × Option Nat := if (evE 5 b n nm (0, none, 0)).2.2.1 = none ∧ (evE 5 b n nm (0, none, 0)).2.1 < n then (0, some (evE 5 b n nm (0, none, 0)).2.1) else ((evE 5 b n nm (0, none, 0)).1, (evE 5 b n nm (0, none, 0)).2.2.1)
theorem wkE_w {b : Nat → Int32} {n p k : Nat} {nm : Nat → Int32} {v : Int32} {f : Option Nat} (h : evE 5 b n nm (0, none, 0) = (v, p, f, k)) (h1 : f = none) (h2 : p < n) : wkE b n nm = (0, some p) := by
  unfold wkE
  rw [h]
  exact if_pos ⟨h1, h2⟩
theorem wkE_v {b : Nat → Int32} {n p k : Nat} {nm : Nat → Int32} {v : Int32} {f : Option Nat} (h : evE 5 b n nm (0, none, 0) = (v, p, f, k)) (h1 : ¬ (f = none ∧ p < n)) : wkE b n nm = (v, f) := by
  unfold wkE
  rw [h]
  exact if_neg h1
theorem flOk_none : flOk none := fun q hq => by cases hq
theorem flOk_some {p : Nat} (h : p ≤ 50) : flOk (some p) := fun q hq => by cases hq; exact h
set_option maxHeartbeats 4000000 in
set_option maxRecDepth 100000 in
theorem r_worked {κ : Wc} {l : Launch} {h : Mm} {n : Nat} {o : Nat} {base : Nat} {tn : Nat} {d : Nat → Int32} {nm : Nat → Int32} {im : Int32} {ba : Int32} {at_ : Int32} {sz : Int32} {fa : Int32} {op : Int32} {rm : Int32} {ti : Int32} {tm : Int32} {wh : Int32} (K0 : h o = some (.inr (12, [.ref (o + 1), .ref (o + 2), .ref (o + 3), .int im, .ref (o + 4), .int ba, .int at_, .int sz, .int fa, .int op, .ref (o + 5), .ref (o + 6), .int rm, .ref (o + 7), .ref (o + 8), .int ti, .ref (o + 9), .int tm, .int wh, .ref (o + 10), .ref (o + 11), .ref (o + 12), .ref (o + 13)]))) (K1 : h (o + 1) = arI κ 340 d) (K2 : h (o + 5) = arI κ 3 nm) (e1 : base + tn ≤ 340) (e2 : tn ≤ 50) : Con κ l yX12_worked cX12_worked 4 (some .int) 39 0 0 [.ref o, .int (nI base), .int (nI tn)] h n (fun q h' n' => ∃ at' : Int32, ∃ op' : Int32, q = some (.int ((wkE (sh d base) tn nm).1)) ∧ h' = va_up h o (some (.inr (12, [.ref (o + 1), .ref (o + 2), .ref (o + 3), .int im, .ref (o + 4), .int (nI base), .int at', .int (nI tn), .int (faI (wkE (sh d base) tn nm).2), .int op', .ref (o + 5), .ref (o + 6), .int rm, .ref (o + 7), .ref (o + 8), .int ti, .ref (o + 9), .int tm, .int wh, .ref (o + 10), .ref (o + 11), .ref (o + 12), .ref (o + 13)]))) ∧ n' = n ∧ flOk (wkE (sh d base) tn nm).2) := by
  refine Con.of mk_X12_worked (Nat.le_of_ble_eq_true rfl) (fun G hG X E => ?_)
  subst hG
  refine z_ls (ls' := [(0, .ref o), (1, .int (nI base)), (2, .int (nI tn))]) rfl ?_
  refine z_aload_n X 0 dX12_worked_0 rfl ?_
  refine z_iload_n X 1 dX12_worked_1 rfl ?_
  refine z_put X fp_X12_116_12 dX12_worked_2 K0 (by first | rfl | decide) (by first | rfl | decide) (Nat.le_of_ble_eq_true rfl) rfl ?_
  obtain ⟨zh1, ze2⟩ : ∃ z : Mm, z = va_up h o (some (.inr (12, [.ref (o + 1), .ref (o + 2), .ref (o + 3), .int im, .ref (o + 4), .int (nI base), .int at_, .int sz, .int fa, .int op, .ref (o + 5), .ref (o + 6), .int rm, .ref (o + 7), .ref (o + 8), .int ti, .ref (o + 9), .int tm, .int wh, .ref (o + 10), .ref (o + 11), .ref (o + 12), .ref (o + 13)]))) := ⟨_, rfl⟩
  refine z_heap (h' := zh1) ze2.symm ?_
  have zK3 := up_at ze2
  have zK4 := up_off ze2 (show o + 1 ≠ o by omega) K1
  have zK5 := up_off ze2 (show o + 5 ≠ o by omega) K2
  refine z_aload_n X 0 dX12_worked_5 rfl ?_
  refine z_iconst (v := 0) X dX12_worked_6 (by decide) ?_
  refine z_put X fp_X12_106_12 dX12_worked_7 zK3 (by first | rfl | decide) (by first | rfl | decide) (Nat.le_of_ble_eq_true rfl) rfl ?_
  obtain ⟨zh6, ze7⟩ : ∃ z : Mm, z = va_up zh1 o (some (.inr (12, [.ref (o + 1), .ref (o + 2), .ref (o + 3), .int im, .ref (o + 4), .int (nI base), .int 0, .int sz, .int fa, .int op, .ref (o + 5), .ref (o + 6), .int rm, .ref (o + 7), .ref (o + 8), .int ti, .ref (o + 9), .int tm, .int wh, .ref (o + 10), .ref (o + 11), .ref (o + 12), .ref (o + 13)]))) := ⟨_, rfl⟩
  refine z_heap (h' := zh6) ze7.symm ?_
  have zK8 := up_at ze7
  have zK9 := up_off ze7 (show o + 1 ≠ o by omega) zK4
  have zK10 := up_off ze7 (show o + 5 ≠ o by omega) zK5
  refine z_aload_n X 0 dX12_worked_10 rfl ?_
  refine z_iload_n X 2 dX12_worked_11 rfl ?_
  refine z_put X fp_X12_110_12 dX12_worked_12 zK8 (by first | rfl | decide) (by first | rfl | decide) (Nat.le_of_ble_eq_true rfl) rfl ?_
  obtain ⟨zh11, ze12⟩ : ∃ z : Mm, z = va_up zh6 o (some (.inr (12, [.ref (o + 1), .ref (o + 2), .ref (o + 3), .int im, .ref (o + 4), .int (nI base), .int 0, .int (nI tn), .int fa, .int op, .ref (o + 5), .ref (o + 6), .int rm, .ref (o + 7), .ref (o + 8), .int ti, .ref (o + 9), .int tm, .int wh, .ref (o + 10), .ref (o + 11), .ref (o + 12), .ref (o + 13)]))) := ⟨_, rfl⟩
  refine z_heap (h' := zh11) ze12.symm ?_
  have zK13 := up_at ze12
  have zK14 := up_off ze12 (show o + 1 ≠ o by omega) zK9
  have zK15 := up_off ze12 (show o + 5 ≠ o by omega) zK10
  refine z_aload_n X 0 dX12_worked_15 rfl ?_
  refine z_iconst (v := -1) X dX12_worked_16 (by decide) ?_
  refine z_put X fp_X12_113_12 dX12_worked_17 zK13 (by first | rfl | decide) (by first | rfl | decide) (Nat.le_of_ble_eq_true rfl) rfl ?_
  obtain ⟨zh16, ze17⟩ : ∃ z : Mm, z = va_up zh11 o (some (.inr (12, [.ref (o + 1), .ref (o + 2), .ref (o + 3), .int im, .ref (o + 4), .int (nI base), .int 0, .int (nI tn), .int ((-1)), .int op, .ref (o + 5), .ref (o + 6), .int rm, .ref (o + 7), .ref (o + 8), .int ti, .ref (o + 9), .int tm, .int wh, .ref (o + 10), .ref (o + 11), .ref (o + 12), .ref (o + 13)]))) := ⟨_, rfl⟩
  refine z_heap (h' := zh16) ze17.symm ?_
  have zK18 := up_at ze17
  have zK19 := up_off ze17 (show o + 1 ≠ o by omega) zK14
  have zK20 := up_off ze17 (show o + 5 ≠ o by omega) zK15
  refine z_aload_n X 0 dX12_worked_20 rfl ?_
  refine z_iconst (v := 0) X dX12_worked_21 (by decide) ?_
  refine z_put X fp_X12_141_12 dX12_worked_22 zK18 (by first | rfl | decide) (by first | rfl | decide) (Nat.le_of_ble_eq_true rfl) rfl ?_
  obtain ⟨zh21, ze22⟩ : ∃ z : Mm, z = va_up zh16 o (some (.inr (12, [.ref (o + 1), .ref (o + 2), .ref (o + 3), .int im, .ref (o + 4), .int (nI base), .int 0, .int (nI tn), .int ((-1)), .int 0, .ref (o + 5), .ref (o + 6), .int rm, .ref (o + 7), .ref (o + 8), .int ti, .ref (o + 9), .int tm, .int wh, .ref (o + 10), .ref (o + 11), .ref (o + 12), .ref (o + 13)]))) := ⟨_, rfl⟩
  refine z_heap (h' := zh21) ze22.symm ?_
  have zK23 := up_at ze22
  have zK24 := up_off ze22 (show o + 1 ≠ o by omega) zK19
  have zK25 := up_off ze22 (show o + 5 ≠ o by omega) zK20
  refine z_aload_n X 0 dX12_worked_25 rfl ?_
  refine z_callV X (EvC.use ev_top (κ := κ) (n := n) (o := (o)) (base := (base)) (sz := (tn)) (p := (0)) (k := (0)) (f := (none)) (im := (im)) (rm := (rm)) (ti := (ti)) (tm := (tm)) (wh := (wh)) (d := (d)) (nm := (nm)) zK23 zK24 zK25 (by first | assumption | omega) (by first | assumption | omega) (Nat.zero_le _) (flOk_none) (fun _ => rfl)) mk_X12_either dX12_worked_26 wd_1092 wd_1094 wd_29 rfl zK23 rfl rfl rfl (Nat.le_of_ble_eq_true rfl) (Nat.le_of_ble_eq_true rfl) (Nat.le_of_ble_eq_true rfl) (by omega) (by omega) (fun q zh30 zm32 zp33 => ?_)
  obtain ⟨v'26, p'27, f'28, k'29, rfl, ze31, zn36, zf34, zf35⟩ := zp33
  subst zm32
  refine z_st (st' := [.int v'26]) rfl ?_
  have zK37 : zh30 o = some (.inr (12, [.ref (o + 1), .ref (o + 2), .ref (o + 3), .int im, .ref (o + 4), .int (nI base), .int (nI p'27), .int (nI tn), .int (faI f'28), .int (nI k'29), .ref (o + 5), .ref (o + 6), .int rm, .ref (o + 7), .ref (o + 8), .int ti, .ref (o + 9), .int tm, .int wh, .ref (o + 10), .ref (o + 11), .ref (o + 12), .ref (o + 13)])) := by rw [ze31]; exact va_up_self _ _ _
  have zK38 : zh30 (o + 1) = arI κ 340 d := by rw [ze31]; rw [va_up_ne _ _ (show o + 1 ≠ o by omega)]; exact zK24
  have zK39 : zh30 (o + 5) = arI κ 3 nm := by rw [ze31]; rw [va_up_ne _ _ (show o + 5 ≠ o by omega)]; exact zK25
  obtain ⟨ga, gb, gc, gd, ge⟩ := id zf35
  refine z_istore_n (ls' := [(3, .int v'26), (0, .ref o), (1, .int (nI base)), (2, .int (nI tn))]) X dX12_worked_29 (by decide) rfl ?_
  refine z_aload_n X 1 dX12_worked_30 rfl ?_
  refine z_get X fl_X12_113_12 dX12_worked_31 zK37 rfl ?_
  refine z_if_ge X 53 dX12_worked_34 (by decide) (fun zc40 => ?_) (fun zc40 => ?_)
  · replace zc40 := (faI_ge gc).mp zc40
    refine z_iload_n X 0 dX12_worked_53 rfl ?_
    refine z_iret X E dX12_worked_54 (by omega) (by omega) ⟨nI p'27, nI k'29, ?_, ?_, ?_, ?_⟩
    · rw [wkE_v zf34 (fun q => by first | exact absurd q.1 (by assumption) | exact absurd q.2 (by omega))]
    · rw [wkE_v zf34 (fun q => by first | exact absurd q.1 (by assumption) | exact absurd q.2 (by omega)), ze31, ze22, ze17, ze12, ze7, ze2]; simp only [up_up]
    · rfl
    · rw [wkE_v zf34 (fun q => by first | exact absurd q.1 (by assumption) | exact absurd q.2 (by omega))]; exact gc
  · replace zc40 := Decidable.not_not.mp (mt (faI_ge gc).mpr zc40)
    refine z_aload_n X 1 dX12_worked_37 rfl ?_
    refine z_get X fl_X12_106_12 dX12_worked_38 zK37 rfl ?_
    refine z_aload_n X 1 dX12_worked_41 rfl ?_
    refine z_get X fl_X12_110_12 dX12_worked_42 zK37 rfl ?_
    refine z_icmp_ge X 53 dX12_worked_45 (by decide) (fun zc41 => ?_) (fun zc41 => ?_)
    · try replace zc41 := (nI_leI (a := tn) (b := p'27) (by omega) (by omega)).mp zc41
      refine z_iload_n X 0 dX12_worked_53 rfl ?_
      refine z_iret X E dX12_worked_54 (by omega) (by omega) ⟨nI p'27, nI k'29, ?_, ?_, ?_, ?_⟩
      · rw [wkE_v zf34 (fun q => by first | exact absurd q.1 (by assumption) | exact absurd q.2 (by omega))]
      · rw [wkE_v zf34 (fun q => by first | exact absurd q.1 (by assumption) | exact absurd q.2 (by omega)), ze31, ze22, ze17, ze12, ze7, ze2]; simp only [up_up]
      · rfl
      · rw [wkE_v zf34 (fun q => by first | exact absurd q.1 (by assumption) | exact absurd q.2 (by omega))]; exact gc
    · try replace zc41 := mt (nI_leI (a := tn) (b := p'27) (by omega) (by omega)).mpr zc41
      refine z_aload_n X 1 dX12_worked_48 rfl ?_
      refine z_callV X (r_wrong (κ := κ) (n := n) (o := (o)) (base := (base)) (sz := (tn)) (p := (p'27)) (k := (k'29)) (f := (f'28)) (d := (d)) (im := (im)) (rm := (rm)) (ti := (ti)) (tm := (tm)) (wh := (wh)) zK37 (gc)) mk_X12_wrong dX12_worked_49 wd_1120 wd_1122 wd_36 rfl zK37 rfl rfl rfl (Nat.le_of_ble_eq_true rfl) (Nat.le_of_ble_eq_true rfl) (Nat.le_of_ble_eq_true rfl) (by omega) (by omega) (fun q zh42 zm44 zp45 => ?_)
      obtain ⟨rfl, ze43, zn46⟩ := zp45
      subst zm44
      refine z_st (st' := [.int 0]) rfl ?_
      have zK47 : zh42 o = some (.inr (12, [.ref (o + 1), .ref (o + 2), .ref (o + 3), .int im, .ref (o + 4), .int (nI base), .int (nI p'27), .int (nI tn), .int (faI (flW f'28 p'27)), .int (nI k'29), .ref (o + 5), .ref (o + 6), .int rm, .ref (o + 7), .ref (o + 8), .int ti, .ref (o + 9), .int tm, .int wh, .ref (o + 10), .ref (o + 11), .ref (o + 12), .ref (o + 13)])) := by rw [ze43]; exact va_up_self _ _ _
      have zK48 : zh42 (o + 1) = arI κ 340 d := by rw [ze43]; rw [va_up_ne _ _ (show o + 1 ≠ o by omega)]; exact zK38
      have zK49 : zh42 (o + 5) = arI κ 3 nm := by rw [ze43]; rw [va_up_ne _ _ (show o + 5 ≠ o by omega)]; exact zK39
      refine z_iret X E dX12_worked_52 (by omega) (by omega) ⟨nI p'27, nI k'29, ?_, ?_, ?_, ?_⟩
      · rw [wkE_w zf34 (by assumption) (by omega)]
      · rw [wkE_w zf34 (by assumption) (by omega), ze43, ze31, ze22, ze17, ze12, ze7, ze2, flW_n (f := f'28) (p := p'27) (by assumption)]; simp only [up_up]
      · rfl
      · rw [wkE_w zf34 (by assumption) (by omega)]; exact flOk_some (by omega)
def nm3 (t w c : Int32) : Nat → Int32 := fun i => if i = 0 then t else if i = 1 then w else c
theorem nm3_ok {nm : Nat → Int32} {t w c : Int32} {z : Nat} (hz : z < 3) : upd (upd (upd nm 0 t) 1 w) 2 c z = nm3 t w c z := by
  unfold upd nm3
  match z, hz with
  | 0, _ => rfl
  | 1, _ => rfl
  | 2, _ => rfl
abbrev Tx (d : Nat → Int32) : Nat → Nat → Int32 := fun u => sh d (180 + (50 * u))
/-- what a use gives -/
def gv (T : Nat → Nat → Int32) (tx : Nat → Nat) (u : Nat) (t w c wo : Int32) : Int32 := if tx u = 0 then wo else (wkE (T u) (tx u) (nm3 t w c)).1
def watR (T : Nat → Nat → Int32) (tx : Nat → Nat) (m : Nat → Int32) : Int32 := held (gv T tx 0 (m 0) (m 4) (m 6) (m 4)) 0 9999
def cldR (T : Nat → Nat → Int32) (tx : Nat → Nat) (m : Nat → Int32) : Int32 := held (gv T tx 1 (m 0) (m 4) (m 6) (m 6)) (-50) 99
set_option maxHeartbeats 4000000 in
set_option maxRecDepth 100000 in
theorem r_gives {κ : Wc} {l : Launch} {h : Mm} {n : Nat} {o : Nat} {u : Nat} {t : Int32} {w : Int32} {c : Int32} {wo : Int32} {d : Nat → Int32} {nm : Nat → Int32} {tx : Nat → Nat} {im : Int32} {ba : Int32} {at_ : Int32} {sz : Int32} {fa : Int32} {op : Int32} {rm : Int32} {ti : Int32} {tm : Int32} {wh : Int32} (K0 : h o = some (.inr (12, [.ref (o + 1), .ref (o + 2), .ref (o + 3), .int im, .ref (o + 4), .int ba, .int at_, .int sz, .int fa, .int op, .ref (o + 5), .ref (o + 6), .int rm, .ref (o + 7), .ref (o + 8), .int ti, .ref (o + 9), .int tm, .int wh, .ref (o + 10), .ref (o + 11), .ref (o + 12), .ref (o + 13)]))) (K1 : h (o + 1) = arI κ 340 d) (K2 : h (o + 5) = arI κ 3 nm) (q8 : ∀ u, u < 2 → d (60 + u) = nI (tx u) ∧ tx u ≤ 50) (q9 : u < 2) : Con κ l yX12_gives cX12_gives 6 (some .int) 40 0 0 [.ref o, .int (nI u), .int t, .int w, .int c, .int wo] h n (fun q h' n' => ∃ ba' : Int32, ∃ at' : Int32, ∃ sz' : Int32, ∃ fa' : Int32, ∃ op' : Int32, ∃ nm' : Nat → Int32, q = some (.int (gv (Tx d) tx u t w c wo)) ∧ h' = va_up (va_up h o (some (.inr (12, [.ref (o + 1), .ref (o + 2), .ref (o + 3), .int im, .ref (o + 4), .int ba', .int at', .int sz', .int fa', .int op', .ref (o + 5), .ref (o + 6), .int rm, .ref (o + 7), .ref (o + 8), .int ti, .ref (o + 9), .int tm, .int wh, .ref (o + 10), .ref (o + 11), .ref (o + 12), .ref (o + 13)])))) (o + 5) (arI κ 3 nm') ∧ n' = n) := by
  refine Con.of mk_X12_gives (Nat.le_of_ble_eq_true rfl) (fun G hG X E => ?_)
  subst hG
  refine z_ls (ls' := [(0, .ref o), (1, .int (nI u)), (2, .int t), (3, .int w), (4, .int c), (5, .int wo)]) rfl ?_
  have hq8 := (q8 u q9).2
  refine z_aload_n X 0 dX12_gives_0 rfl ?_
  refine z_get X fl_X12_7_12 dX12_gives_1 K0 rfl ?_
  refine z_bipush (v := 60) X dX12_gives_4 (by decide) ?_
  refine z_iload_n X 1 dX12_gives_6 rfl ?_
  refine z_iadd X dX12_gives_7 ?_
  refine z_toe (y := nI (60 + u)) (nI_add (60) (u)) ?_
  refine z_iald2 (v := d (60 + u)) X dX12_gives_8 K1 (vp_in_nI (n := 60 + u) (by omega) (by omega)) (congrArg d (nI_clamp (n := 60 + u) (by omega))) ?_
  refine z_toe (y := nI (tx u)) ((q8 u q9).1) ?_
  refine z_if_ne X 15 dX12_gives_9 (by decide) (fun zc1 => ?_) (fun zc1 => ?_)
  · try replace zc1 := mt (nI_eq (a := tx u) (b := 0) (by omega) (by omega)).mpr zc1
    refine z_aload_n X 0 dX12_gives_15 rfl ?_
    refine z_get X fl_X12_22_12 dX12_gives_16 K0 rfl ?_
    refine z_iconst (v := 0) X dX12_gives_19 (by decide) ?_
    refine z_iload_n X 2 dX12_gives_20 rfl ?_
    refine z_iast X dX12_gives_21 K2 (vp_in_nI (n := 0) (by omega) (by omega)) (congrArg (fun z => va_up h (o + 5) (arI κ 3 (upd nm z t))) (nI_clamp (n := 0) (by omega))) ?_
    obtain ⟨zh2, ze3⟩ : ∃ z : Mm, z = va_up h (o + 5) (arI κ 3 (upd nm 0 t)) := ⟨_, rfl⟩
    refine z_heap (h' := zh2) ze3.symm ?_
    have zK4 := up_off ze3 (show o ≠ o + 5 by omega) K0
    have zK5 := up_off ze3 (show o + 1 ≠ o + 5 by omega) K1
    have zK6 := up_at ze3
    refine z_aload_n X 0 dX12_gives_22 rfl ?_
    refine z_get X fl_X12_22_12 dX12_gives_23 zK4 rfl ?_
    refine z_iconst (v := 1) X dX12_gives_26 (by decide) ?_
    refine z_iload_n X 3 dX12_gives_27 rfl ?_
    refine z_iast X dX12_gives_28 zK6 (vp_in_nI (n := 1) (by omega) (by omega)) (congrArg (fun z => va_up zh2 (o + 5) (arI κ 3 (upd (upd nm 0 t) z w))) (nI_clamp (n := 1) (by omega))) ?_
    obtain ⟨zh7, ze8⟩ : ∃ z : Mm, z = va_up zh2 (o + 5) (arI κ 3 (upd (upd nm 0 t) 1 w)) := ⟨_, rfl⟩
    refine z_heap (h' := zh7) ze8.symm ?_
    have zK9 := up_off ze8 (show o ≠ o + 5 by omega) zK4
    have zK10 := up_off ze8 (show o + 1 ≠ o + 5 by omega) zK5
    have zK11 := up_at ze8
    refine z_aload_n X 0 dX12_gives_29 rfl ?_
    refine z_get X fl_X12_22_12 dX12_gives_30 zK9 rfl ?_
    refine z_iconst (v := 2) X dX12_gives_33 (by decide) ?_
    refine z_iload X 4 dX12_gives_34 rfl ?_
    refine z_iast X dX12_gives_36 zK11 (vp_in_nI (n := 2) (by omega) (by omega)) (congrArg (fun z => va_up zh7 (o + 5) (arI κ 3 (upd (upd (upd nm 0 t) 1 w) z c))) (nI_clamp (n := 2) (by omega))) ?_
    obtain ⟨zh12, ze13⟩ : ∃ z : Mm, z = va_up zh7 (o + 5) (arI κ 3 (upd (upd (upd nm 0 t) 1 w) 2 c)) := ⟨_, rfl⟩
    refine z_heap (h' := zh12) ze13.symm ?_
    have zK14 := up_off ze13 (show o ≠ o + 5 by omega) zK9
    have zK15 := up_off ze13 (show o + 1 ≠ o + 5 by omega) zK10
    have zK16 := up_at ze13
    refine z_aload_n X 0 dX12_gives_37 rfl ?_
    refine z_sipush (v := 180) X dX12_gives_38 (by decide) ?_
    refine z_bipush (v := 50) X dX12_gives_41 (by decide) ?_
    refine z_iload_n X 1 dX12_gives_43 rfl ?_
    refine z_imul X dX12_gives_44 ?_
    refine z_toe (y := nI (50 * u)) (pk_mul (50) (u)) ?_
    refine z_iadd X dX12_gives_45 ?_
    refine z_toe (y := nI (180 + (50 * u))) (nI_add (180) (50 * u)) ?_
    refine z_aload_n X 0 dX12_gives_46 rfl ?_
    refine z_get X fl_X12_7_12 dX12_gives_47 zK14 rfl ?_
    refine z_bipush (v := 60) X dX12_gives_50 (by decide) ?_
    refine z_iload_n X 1 dX12_gives_52 rfl ?_
    refine z_iadd X dX12_gives_53 ?_
    refine z_toe (y := nI (60 + u)) (nI_add (60) (u)) ?_
    refine z_iald2 (v := d (60 + u)) X dX12_gives_54 zK15 (vp_in_nI (n := 60 + u) (by omega) (by omega)) (congrArg d (nI_clamp (n := 60 + u) (by omega))) ?_
    refine z_toe (y := nI (tx u)) ((q8 u q9).1) ?_
    refine z_ext (g := nm3 t w c) zK16 (fun z hz => nm3_ok hz) ?_
    obtain ⟨zh17, ze18⟩ : ∃ z : Mm, z = va_up zh12 (o + 5) (arI κ 3 (nm3 t w c)) := ⟨_, rfl⟩
    refine z_heap (h' := zh17) ze18.symm ?_
    have zK19 := up_off ze18 (show o ≠ o + 5 by omega) zK14
    have zK20 := up_off ze18 (show o + 1 ≠ o + 5 by omega) zK15
    have zK21 := up_at ze18
    refine z_callV X (r_worked (κ := κ) (n := n) (o := (o)) (base := (180 + (50 * u))) (tn := (tx u)) (d := (d)) (nm := (nm3 t w c)) (im := (im)) (ba := (ba)) (at_ := (at_)) (sz := (sz)) (fa := (fa)) (op := (op)) (rm := (rm)) (ti := (ti)) (tm := (tm)) (wh := (wh)) zK19 zK20 zK21 (by first | assumption | omega) (by first | assumption | omega)) mk_X12_worked dX12_gives_55 wd_1088 wd_1090 wd_28 rfl zK19 rfl rfl rfl (Nat.le_of_ble_eq_true rfl) (Nat.le_of_ble_eq_true rfl) (Nat.le_of_ble_eq_true rfl) (by omega) (by omega) (fun q zh24 zm26 zp27 => ?_)
    obtain ⟨at'22, op'23, rfl, ze25, zn29, zf28⟩ := zp27
    subst zm26
    refine z_st (st' := [.int ((wkE (sh d (180 + (50 * u))) (tx u) (nm3 t w c)).1)]) rfl ?_
    have zK30 : zh24 o = some (.inr (12, [.ref (o + 1), .ref (o + 2), .ref (o + 3), .int im, .ref (o + 4), .int (nI (180 + (50 * u))), .int at'22, .int (nI (tx u)), .int (faI (wkE (sh d (180 + (50 * u))) (tx u) (nm3 t w c)).2), .int op'23, .ref (o + 5), .ref (o + 6), .int rm, .ref (o + 7), .ref (o + 8), .int ti, .ref (o + 9), .int tm, .int wh, .ref (o + 10), .ref (o + 11), .ref (o + 12), .ref (o + 13)])) := by rw [ze25]; exact va_up_self _ _ _
    have zK31 : zh24 (o + 1) = arI κ 340 d := by rw [ze25]; rw [va_up_ne _ _ (show o + 1 ≠ o by omega)]; exact zK20
    have zK32 : zh24 (o + 5) = arI κ 3 (nm3 t w c) := by rw [ze25]; rw [va_up_ne _ _ (show o + 5 ≠ o by omega)]; exact zK21
    refine z_iret X E dX12_gives_58 (by omega) (by omega) ⟨(nI (180 + (50 * u))), at'22, (nI (tx u)), (faI (wkE (sh d (180 + (50 * u))) (tx u) (nm3 t w c)).2), op'23, (nm3 t w c), ?_, ?_, ?_⟩
    · rw [gv, if_neg (by assumption)]
    · first | (rw [ze25, ze18, ze13, ze8, ze3]; done) | (rw [ze25, ze18, ze13, ze8, ze3]; simp only [up_up]; done) | (rw [ze25, ze18, ze13, ze8, ze3]; funext zz; simp only [va_up]; (repeat' split) <;> first | rfl | (exfalso; omega) | simp_all)
    · rfl
  · try replace zc1 := (nI_eq (a := tx u) (b := 0) (by omega) (by omega)).mp zc1
    refine z_iload X 5 dX12_gives_12 rfl ?_
    refine z_iret X E dX12_gives_14 (by omega) (by omega) ⟨ba, at_, sz, fa, op, nm, ?_, ?_, ?_⟩
    · rw [gv, if_pos (by assumption)]
    · rw [up_same _ _ K0, up_same _ _ K2]
    · rfl
def opLaw (T : Nat → Nat → Int32) (tx : Nat → Nat) (d : Nat → Int32) (u a b c : Int32) : Nat × Int32 := if ¬ (0 ≤ u.toInt ∧ u.toInt ≤ 1) then (1, 0) else if u.toInt = 0 then (0, held (gv T tx 0 a b c (d 4)) 0 9999) else (0, held (gv T tx 1 a b c (d 6)) (-50) 99)
set_option maxHeartbeats 4000000 in
set_option maxRecDepth 100000 in
theorem r_law {κ : Wc} {l : Launch} {h : Mm} {n : Nat} {o : Nat} {fo : Nat → Int32} {d : Nat → Int32} {nm : Nat → Int32} {tx : Nat → Nat} {im : Int32} {ba : Int32} {at_ : Int32} {sz : Int32} {fa : Int32} {op : Int32} {rm : Int32} {ti : Int32} {tm : Int32} {wh : Int32} {u : Int32} {a : Int32} {b : Int32} {c : Int32} (K0 : h o = some (.inr (12, [.ref (o + 1), .ref (o + 2), .ref (o + 3), .int im, .ref (o + 4), .int ba, .int at_, .int sz, .int fa, .int op, .ref (o + 5), .ref (o + 6), .int rm, .ref (o + 7), .ref (o + 8), .int ti, .ref (o + 9), .int tm, .int wh, .ref (o + 10), .ref (o + 11), .ref (o + 12), .ref (o + 13)]))) (K1 : h (o + 4) = arI κ 6 fo) (K2 : h (o + 1) = arI κ 340 d) (K3 : h (o + 5) = arI κ 3 nm) (q8 : ∀ u, u < 2 → d (60 + u) = nI (tx u) ∧ tx u ≤ 50) : Con κ l yX12_law cX12_law 6 (some .int) 41 0 0 [.ref o, .int u, .int a, .int b, .int c] h n (fun q h' n' => ∃ ba' : Int32, ∃ at' : Int32, ∃ sz' : Int32, ∃ fa' : Int32, ∃ op' : Int32, ∃ nm' : Nat → Int32, q = some (.int (ansOf (opLaw (Tx d) tx d u a b c))) ∧ h' = va_up (va_up (va_up h o (some (.inr (12, [.ref (o + 1), .ref (o + 2), .ref (o + 3), .int im, .ref (o + 4), .int ba', .int at', .int sz', .int fa', .int op', .ref (o + 5), .ref (o + 6), .int rm, .ref (o + 7), .ref (o + 8), .int ti, .ref (o + 9), .int tm, .int wh, .ref (o + 10), .ref (o + 11), .ref (o + 12), .ref (o + 13)])))) (o + 5) (arI κ 3 nm')) (o + 4) (arI κ 6 (bump (opLaw (Tx d) tx d u a b c) fo)) ∧ n' = n) := by
  refine Con.of mk_X12_law (Nat.le_of_ble_eq_true rfl) (fun G hG X E => ?_)
  subst hG
  refine z_ls (ls' := [(0, .ref o), (1, .int u), (2, .int a), (3, .int b), (4, .int c)]) rfl ?_
  refine z_iload_n X 1 dX12_law_0 rfl ?_
  refine z_i2l X dX12_law_1 rfl ?_
  refine z_lconst (v := 0) X dX12_law_2 (by decide) ?_
  refine z_lconst (v := 1) X dX12_law_3 (by decide) ?_
  refine z_callS X (r_in (κ := κ) (n := n) (v := (u.toInt64)) (lo := (0 : Int64)) (hi := (1 : Int64))  ) mk_X12_in dX12_law_4 wd_1014 wd_1015 rfl rfl (Nat.le_of_ble_eq_true rfl) (Nat.le_of_ble_eq_true rfl) (Nat.le_of_ble_eq_true rfl) (by omega) (by omega) (fun q zh1 zm3 zp4 => ?_)
  obtain ⟨rfl, ze2, zn5⟩ := zp4
  subst zm3
  subst zh1
  refine z_st (st' := [.int (b2i ((0 : Int64).toInt ≤ (u.toInt64 : Int64).toInt ∧ (u.toInt64 : Int64).toInt ≤ (1 : Int64).toInt))]) rfl ?_
  refine z_toe (y := b2i (0 ≤ u.toInt ∧ u.toInt ≤ 1)) (by simp only [Int32.toInt_toInt64, show (0 : Int64).toInt = 0 by decide, show (1 : Int64).toInt = 1 by decide]) ?_
  refine z_if_ne X 16 dX12_law_7 (by decide) (fun zc6 => ?_) (fun zc6 => ?_)
  · replace zc6 := b2i_t zc6
    obtain ⟨uk, huk, rfl⟩ := ix_of (c := u) (len := 2) (by omega) (by omega)
    refine z_aload_n X 0 dX12_law_16 rfl ?_
    refine z_iload_n X 1 dX12_law_17 rfl ?_
    refine z_iload_n X 2 dX12_law_18 rfl ?_
    refine z_iload_n X 3 dX12_law_19 rfl ?_
    refine z_iload X 4 dX12_law_20 rfl ?_
    refine z_iload_n X 1 dX12_law_22 rfl ?_
    refine z_if_ne X 35 dX12_law_23 (by decide) (fun zc7 => ?_) (fun zc7 => ?_)
    · try replace zc7 := mt (nI_eq (a := uk) (b := 0) (by omega) (by omega)).mpr zc7
      have hu0 : uk = 1 := by omega
      subst hu0
      refine z_aload_n X 0 dX12_law_35 rfl ?_
      refine z_get X fl_X12_7_12 dX12_law_36 K0 rfl ?_
      refine z_bipush (v := 6) X dX12_law_39 (by decide) ?_
      refine z_iald2 (v := d 6) X dX12_law_41 K2 (vp_in_nI (n := 6) (by omega) (by omega)) (congrArg d (nI_clamp (n := 6) (by omega))) ?_
      refine z_callV X (r_gives (κ := κ) (n := n) (o := (o)) (u := (1)) (t := (a)) (w := (b)) (c := (c)) (wo := (d 6)) (d := (d)) (nm := (nm)) (im := (im)) (ba := (ba)) (at_ := (at_)) (sz := (sz)) (fa := (fa)) (op := (op)) (rm := (rm)) (ti := (ti)) (tm := (tm)) (wh := (wh)) K0 K2 K3 (by first | assumption | omega) (by first | assumption | omega)) mk_X12_gives dX12_law_42 wd_1084 wd_1086 wd_27 rfl K0 rfl rfl rfl (Nat.le_of_ble_eq_true rfl) (Nat.le_of_ble_eq_true rfl) (Nat.le_of_ble_eq_true rfl) (by omega) (by omega) (fun q zh14 zm16 zp17 => ?_)
      obtain ⟨ba'8, at'9, sz'10, fa'11, op'12, nm'13, rfl, ze15, zn18⟩ := zp17
      subst zm16
      refine z_st (st' := [.int (gv (Tx d) tx 1 a b c (d 6))]) rfl ?_
      have zK19 : zh14 o = some (.inr (12, [.ref (o + 1), .ref (o + 2), .ref (o + 3), .int im, .ref (o + 4), .int ba'8, .int at'9, .int sz'10, .int fa'11, .int op'12, .ref (o + 5), .ref (o + 6), .int rm, .ref (o + 7), .ref (o + 8), .int ti, .ref (o + 9), .int tm, .int wh, .ref (o + 10), .ref (o + 11), .ref (o + 12), .ref (o + 13)])) := by rw [ze15]; rw [va_up_ne _ _ (show o ≠ o + 5 by omega)]; exact va_up_self _ _ _
      have zK20 : zh14 (o + 4) = arI κ 6 fo := by rw [ze15]; rw [va_up_ne _ _ (show o + 4 ≠ o + 5 by omega)]; rw [va_up_ne _ _ (show o + 4 ≠ o by omega)]; exact K1
      have zK21 : zh14 (o + 1) = arI κ 340 d := by rw [ze15]; rw [va_up_ne _ _ (show o + 1 ≠ o + 5 by omega)]; rw [va_up_ne _ _ (show o + 1 ≠ o by omega)]; exact K2
      have zK22 : zh14 (o + 5) = arI κ 3 nm'13 := by rw [ze15]; exact va_up_self _ _ _
      refine z_istore (ls' := [(5, .int (gv (Tx d) tx 1 a b c (d 6))), (0, .ref o), (1, .int (nI 1)), (2, .int a), (3, .int b), (4, .int c)]) X dX12_law_45 (by decide) rfl ?_
      refine z_iload_n X 2 dX12_law_47 rfl ?_
      refine z_if_ne X 63 dX12_law_48 (by decide) (fun zc23 => ?_) (fun zc23 => ?_)
      · try replace zc23 := mt (nI_eq (a := 1) (b := 0) (by omega) (by omega)).mpr zc23
        refine z_iload X 0 dX12_law_63 rfl ?_
        refine z_bipush (v := -50) X dX12_law_65 (by decide) ?_
        refine z_bipush (v := 99) X dX12_law_67 (by decide) ?_
        refine z_callS X (r_held (κ := κ) (n := n) (v := (gv (Tx d) tx 1 a b c (d 6))) (lo := (-50)) (hi := (99))  ) mk_X12_held dX12_law_69 wd_1134 wd_1135 rfl rfl (Nat.le_of_ble_eq_true rfl) (Nat.le_of_ble_eq_true rfl) (Nat.le_of_ble_eq_true rfl) (by omega) (by omega) (fun q zh24 zm26 zp27 => ?_)
        obtain ⟨rfl, ze25, zn28⟩ := zp27
        subst zm26
        subst zh24
        refine z_st (st' := [.int (held (gv (Tx d) tx 1 a b c (d 6)) (-50) 99)]) rfl ?_
        refine z_iret X E dX12_law_72 (by omega) (by omega) ⟨ba'8, at'9, sz'10, fa'11, op'12, nm'13, ?_, ?_, ?_⟩
        · generalize hz : opLaw (Tx d) tx d (nI 1) a b c = z; unfold opLaw at hz; (try simp only [i_nI (n := 1) (by omega), nI_clamp (n := 1) (by omega),  i_eq, i_lt, i_le, show (-1 : Int32).toInt = -1 by decide, show (0 : Int32).toInt = 0 by decide, show (1 : Int32).toInt = 1 by decide, show (2 : Int32).toInt = 2 by decide, show (3 : Int32).toInt = 3 by decide, show (4 : Int32).toInt = 4 by decide, show (5 : Int32).toInt = 5 by decide, show (6 : Int32).toInt = 6 by decide, show (7 : Int32).toInt = 7 by decide, show (8 : Int32).toInt = 8 by decide, show (9 : Int32).toInt = 9 by decide, show (10 : Int32).toInt = 10 by decide, show (11 : Int32).toInt = 11 by decide, show (12 : Int32).toInt = 12 by decide, show (13 : Int32).toInt = 13 by decide, show (14 : Int32).toInt = 14 by decide, show (15 : Int32).toInt = 15 by decide, show (16 : Int32).toInt = 16 by decide, show (20 : Int32).toInt = 20 by decide, show (39 : Int32).toInt = 39 by decide, show (40 : Int32).toInt = 40 by decide, show (50 : Int32).toInt = 50 by decide, show (60 : Int32).toInt = 60 by decide, show (99 : Int32).toInt = 99 by decide, show (100 : Int32).toInt = 100 by decide, show (999 : Int32).toInt = 999 by decide, show (9999 : Int32).toInt = 9999 by decide, show (99999 : Int32).toInt = 99999 by decide, show (999999 : Int32).toInt = 999999 by decide, show (9999999 : Int32).toInt = 9999999 by decide, show (-50 : Int32).toInt = -50 by decide, show (32 : Int32).toInt = 32 by decide] at *); (repeat first | rw [if_pos (by omega)] at hz | rw [if_neg (by omega)] at hz); subst hz; first | exact congrArg (fun z => some (Value.int z)) (ansOf_0 _).symm | rfl
        · generalize hz : opLaw (Tx d) tx d (nI 1) a b c = z; unfold opLaw at hz; (try simp only [i_nI (n := 1) (by omega), nI_clamp (n := 1) (by omega),  i_eq, i_lt, i_le, show (-1 : Int32).toInt = -1 by decide, show (0 : Int32).toInt = 0 by decide, show (1 : Int32).toInt = 1 by decide, show (2 : Int32).toInt = 2 by decide, show (3 : Int32).toInt = 3 by decide, show (4 : Int32).toInt = 4 by decide, show (5 : Int32).toInt = 5 by decide, show (6 : Int32).toInt = 6 by decide, show (7 : Int32).toInt = 7 by decide, show (8 : Int32).toInt = 8 by decide, show (9 : Int32).toInt = 9 by decide, show (10 : Int32).toInt = 10 by decide, show (11 : Int32).toInt = 11 by decide, show (12 : Int32).toInt = 12 by decide, show (13 : Int32).toInt = 13 by decide, show (14 : Int32).toInt = 14 by decide, show (15 : Int32).toInt = 15 by decide, show (16 : Int32).toInt = 16 by decide, show (20 : Int32).toInt = 20 by decide, show (39 : Int32).toInt = 39 by decide, show (40 : Int32).toInt = 40 by decide, show (50 : Int32).toInt = 50 by decide, show (60 : Int32).toInt = 60 by decide, show (99 : Int32).toInt = 99 by decide, show (100 : Int32).toInt = 100 by decide, show (999 : Int32).toInt = 999 by decide, show (9999 : Int32).toInt = 9999 by decide, show (99999 : Int32).toInt = 99999 by decide, show (999999 : Int32).toInt = 999999 by decide, show (9999999 : Int32).toInt = 9999999 by decide, show (-50 : Int32).toInt = -50 by decide, show (32 : Int32).toInt = 32 by decide] at *); (repeat first | rw [if_pos (by omega)] at hz | rw [if_neg (by omega)] at hz); subst hz; rw [ze15]; (try rw [bump_0]); funext zz; simp only [va_up, bump, ↓reduceIte]; (repeat' split) <;> first | rfl | (exfalso; omega) | (simp_all; done)
        · rfl
      · first | exact absurd zc23 (by decide) | exact absurd (by decide) zc23
    · try replace zc7 := (nI_eq (a := uk) (b := 0) (by omega) (by omega)).mp zc7
      have hu0 : uk = 0 := by omega
      subst hu0
      refine z_aload_n X 0 dX12_law_26 rfl ?_
      refine z_get X fl_X12_7_12 dX12_law_27 K0 rfl ?_
      refine z_iconst (v := 4) X dX12_law_30 (by decide) ?_
      refine z_iald2 (v := d 4) X dX12_law_31 K2 (vp_in_nI (n := 4) (by omega) (by omega)) (congrArg d (nI_clamp (n := 4) (by omega))) ?_
      refine z_goto X 42 dX12_law_32 (by decide) ?_
      refine z_callV X (r_gives (κ := κ) (n := n) (o := (o)) (u := (0)) (t := (a)) (w := (b)) (c := (c)) (wo := (d 4)) (d := (d)) (nm := (nm)) (im := (im)) (ba := (ba)) (at_ := (at_)) (sz := (sz)) (fa := (fa)) (op := (op)) (rm := (rm)) (ti := (ti)) (tm := (tm)) (wh := (wh)) K0 K2 K3 (by first | assumption | omega) (by first | assumption | omega)) mk_X12_gives dX12_law_42 wd_1084 wd_1086 wd_27 rfl K0 rfl rfl rfl (Nat.le_of_ble_eq_true rfl) (Nat.le_of_ble_eq_true rfl) (Nat.le_of_ble_eq_true rfl) (by omega) (by omega) (fun q zh35 zm37 zp38 => ?_)
      obtain ⟨ba'29, at'30, sz'31, fa'32, op'33, nm'34, rfl, ze36, zn39⟩ := zp38
      subst zm37
      refine z_st (st' := [.int (gv (Tx d) tx 0 a b c (d 4))]) rfl ?_
      have zK40 : zh35 o = some (.inr (12, [.ref (o + 1), .ref (o + 2), .ref (o + 3), .int im, .ref (o + 4), .int ba'29, .int at'30, .int sz'31, .int fa'32, .int op'33, .ref (o + 5), .ref (o + 6), .int rm, .ref (o + 7), .ref (o + 8), .int ti, .ref (o + 9), .int tm, .int wh, .ref (o + 10), .ref (o + 11), .ref (o + 12), .ref (o + 13)])) := by rw [ze36]; rw [va_up_ne _ _ (show o ≠ o + 5 by omega)]; exact va_up_self _ _ _
      have zK41 : zh35 (o + 4) = arI κ 6 fo := by rw [ze36]; rw [va_up_ne _ _ (show o + 4 ≠ o + 5 by omega)]; rw [va_up_ne _ _ (show o + 4 ≠ o by omega)]; exact K1
      have zK42 : zh35 (o + 1) = arI κ 340 d := by rw [ze36]; rw [va_up_ne _ _ (show o + 1 ≠ o + 5 by omega)]; rw [va_up_ne _ _ (show o + 1 ≠ o by omega)]; exact K2
      have zK43 : zh35 (o + 5) = arI κ 3 nm'34 := by rw [ze36]; exact va_up_self _ _ _
      refine z_istore (ls' := [(5, .int (gv (Tx d) tx 0 a b c (d 4))), (0, .ref o), (1, .int (nI 0)), (2, .int a), (3, .int b), (4, .int c)]) X dX12_law_45 (by decide) rfl ?_
      refine z_iload_n X 2 dX12_law_47 rfl ?_
      refine z_if_ne X 63 dX12_law_48 (by decide) (fun zc44 => ?_) (fun zc44 => ?_)
      · first | exact absurd zc44 (by decide) | exact absurd (by decide) zc44
      · try replace zc44 := (nI_eq (a := 0) (b := 0) (by omega) (by omega)).mp zc44
        refine z_iload X 0 dX12_law_51 rfl ?_
        refine z_iconst (v := 0) X dX12_law_53 (by decide) ?_
        refine z_sipush (v := 9999) X dX12_law_54 (by decide) ?_
        refine z_callS X (r_held (κ := κ) (n := n) (v := (gv (Tx d) tx 0 a b c (d 4))) (lo := (0)) (hi := (9999))  ) mk_X12_held dX12_law_57 wd_1134 wd_1135 rfl rfl (Nat.le_of_ble_eq_true rfl) (Nat.le_of_ble_eq_true rfl) (Nat.le_of_ble_eq_true rfl) (by omega) (by omega) (fun q zh45 zm47 zp48 => ?_)
        obtain ⟨rfl, ze46, zn49⟩ := zp48
        subst zm47
        subst zh45
        refine z_st (st' := [.int (held (gv (Tx d) tx 0 a b c (d 4)) 0 9999)]) rfl ?_
        refine z_goto X 72 dX12_law_60 (by decide) ?_
        refine z_iret X E dX12_law_72 (by omega) (by omega) ⟨ba'29, at'30, sz'31, fa'32, op'33, nm'34, ?_, ?_, ?_⟩
        · generalize hz : opLaw (Tx d) tx d (nI 0) a b c = z; unfold opLaw at hz; (try simp only [i_nI (n := 0) (by omega), nI_clamp (n := 0) (by omega),  i_eq, i_lt, i_le, show (-1 : Int32).toInt = -1 by decide, show (0 : Int32).toInt = 0 by decide, show (1 : Int32).toInt = 1 by decide, show (2 : Int32).toInt = 2 by decide, show (3 : Int32).toInt = 3 by decide, show (4 : Int32).toInt = 4 by decide, show (5 : Int32).toInt = 5 by decide, show (6 : Int32).toInt = 6 by decide, show (7 : Int32).toInt = 7 by decide, show (8 : Int32).toInt = 8 by decide, show (9 : Int32).toInt = 9 by decide, show (10 : Int32).toInt = 10 by decide, show (11 : Int32).toInt = 11 by decide, show (12 : Int32).toInt = 12 by decide, show (13 : Int32).toInt = 13 by decide, show (14 : Int32).toInt = 14 by decide, show (15 : Int32).toInt = 15 by decide, show (16 : Int32).toInt = 16 by decide, show (20 : Int32).toInt = 20 by decide, show (39 : Int32).toInt = 39 by decide, show (40 : Int32).toInt = 40 by decide, show (50 : Int32).toInt = 50 by decide, show (60 : Int32).toInt = 60 by decide, show (99 : Int32).toInt = 99 by decide, show (100 : Int32).toInt = 100 by decide, show (999 : Int32).toInt = 999 by decide, show (9999 : Int32).toInt = 9999 by decide, show (99999 : Int32).toInt = 99999 by decide, show (999999 : Int32).toInt = 999999 by decide, show (9999999 : Int32).toInt = 9999999 by decide, show (-50 : Int32).toInt = -50 by decide, show (32 : Int32).toInt = 32 by decide] at *); (repeat first | rw [if_pos (by omega)] at hz | rw [if_neg (by omega)] at hz); subst hz; first | exact congrArg (fun z => some (Value.int z)) (ansOf_0 _).symm | rfl
        · generalize hz : opLaw (Tx d) tx d (nI 0) a b c = z; unfold opLaw at hz; (try simp only [i_nI (n := 0) (by omega), nI_clamp (n := 0) (by omega),  i_eq, i_lt, i_le, show (-1 : Int32).toInt = -1 by decide, show (0 : Int32).toInt = 0 by decide, show (1 : Int32).toInt = 1 by decide, show (2 : Int32).toInt = 2 by decide, show (3 : Int32).toInt = 3 by decide, show (4 : Int32).toInt = 4 by decide, show (5 : Int32).toInt = 5 by decide, show (6 : Int32).toInt = 6 by decide, show (7 : Int32).toInt = 7 by decide, show (8 : Int32).toInt = 8 by decide, show (9 : Int32).toInt = 9 by decide, show (10 : Int32).toInt = 10 by decide, show (11 : Int32).toInt = 11 by decide, show (12 : Int32).toInt = 12 by decide, show (13 : Int32).toInt = 13 by decide, show (14 : Int32).toInt = 14 by decide, show (15 : Int32).toInt = 15 by decide, show (16 : Int32).toInt = 16 by decide, show (20 : Int32).toInt = 20 by decide, show (39 : Int32).toInt = 39 by decide, show (40 : Int32).toInt = 40 by decide, show (50 : Int32).toInt = 50 by decide, show (60 : Int32).toInt = 60 by decide, show (99 : Int32).toInt = 99 by decide, show (100 : Int32).toInt = 100 by decide, show (999 : Int32).toInt = 999 by decide, show (9999 : Int32).toInt = 9999 by decide, show (99999 : Int32).toInt = 99999 by decide, show (999999 : Int32).toInt = 999999 by decide, show (9999999 : Int32).toInt = 9999999 by decide, show (-50 : Int32).toInt = -50 by decide, show (32 : Int32).toInt = 32 by decide] at *); (repeat first | rw [if_pos (by omega)] at hz | rw [if_neg (by omega)] at hz); subst hz; rw [ze36]; (try rw [bump_0]); funext zz; simp only [va_up, bump, ↓reduceIte]; (repeat' split) <;> first | rfl | (exfalso; omega) | (simp_all; done)
        · rfl
  · replace zc6 := b2i_f zc6
    refine z_aload_n X 0 dX12_law_10 rfl ?_
    refine z_iconst (v := 1) X dX12_law_11 (by decide) ?_
    refine z_callV X (r_finds (κ := κ) (n := n) (o := (o)) (k := (1)) (fo := (fo)) (im := (im)) (ba := (ba)) (at_ := (at_)) (sz := (sz)) (fa := (fa)) (op := (op)) (rm := (rm)) (ti := (ti)) (tm := (tm)) (wh := (wh)) K0 K1 (by first | assumption | omega) (by first | assumption | omega)) mk_X12_finds dX12_law_12 wd_1018 wd_1020 wd_24 rfl K0 rfl rfl rfl (Nat.le_of_ble_eq_true rfl) (Nat.le_of_ble_eq_true rfl) (Nat.le_of_ble_eq_true rfl) (by omega) (by omega) (fun q zh50 zm52 zp53 => ?_)
    obtain ⟨rfl, ze51, zn54⟩ := zp53
    subst zm52
    refine z_st (st' := [.int (lowE 1)]) rfl ?_
    have zK55 : zh50 o = some (.inr (12, [.ref (o + 1), .ref (o + 2), .ref (o + 3), .int im, .ref (o + 4), .int ba, .int at_, .int sz, .int fa, .int op, .ref (o + 5), .ref (o + 6), .int rm, .ref (o + 7), .ref (o + 8), .int ti, .ref (o + 9), .int tm, .int wh, .ref (o + 10), .ref (o + 11), .ref (o + 12), .ref (o + 13)])) := by rw [ze51]; rw [va_up_ne _ _ (show o ≠ o + 4 by omega)]; exact K0
    have zK56 : zh50 (o + 4) = arI κ 6 (bmp fo 1) := by rw [ze51]; exact va_up_self _ _ _
    have zK57 : zh50 (o + 1) = arI κ 340 d := by rw [ze51]; rw [va_up_ne _ _ (show o + 1 ≠ o + 4 by omega)]; exact K2
    have zK58 : zh50 (o + 5) = arI κ 3 nm := by rw [ze51]; rw [va_up_ne _ _ (show o + 5 ≠ o + 4 by omega)]; exact K3
    refine z_iret X E dX12_law_15 (by omega) (by omega) ⟨ba, at_, sz, fa, op, nm, ?_, ?_, ?_⟩
    · generalize hz : opLaw (Tx d) tx d u a b c = z; unfold opLaw at hz; (try simp only [ i_eq, i_lt, i_le, show (-1 : Int32).toInt = -1 by decide, show (0 : Int32).toInt = 0 by decide, show (1 : Int32).toInt = 1 by decide, show (2 : Int32).toInt = 2 by decide, show (3 : Int32).toInt = 3 by decide, show (4 : Int32).toInt = 4 by decide, show (5 : Int32).toInt = 5 by decide, show (6 : Int32).toInt = 6 by decide, show (7 : Int32).toInt = 7 by decide, show (8 : Int32).toInt = 8 by decide, show (9 : Int32).toInt = 9 by decide, show (10 : Int32).toInt = 10 by decide, show (11 : Int32).toInt = 11 by decide, show (12 : Int32).toInt = 12 by decide, show (13 : Int32).toInt = 13 by decide, show (14 : Int32).toInt = 14 by decide, show (15 : Int32).toInt = 15 by decide, show (16 : Int32).toInt = 16 by decide, show (20 : Int32).toInt = 20 by decide, show (39 : Int32).toInt = 39 by decide, show (40 : Int32).toInt = 40 by decide, show (50 : Int32).toInt = 50 by decide, show (60 : Int32).toInt = 60 by decide, show (99 : Int32).toInt = 99 by decide, show (100 : Int32).toInt = 100 by decide, show (999 : Int32).toInt = 999 by decide, show (9999 : Int32).toInt = 9999 by decide, show (99999 : Int32).toInt = 99999 by decide, show (999999 : Int32).toInt = 999999 by decide, show (9999999 : Int32).toInt = 9999999 by decide, show (-50 : Int32).toInt = -50 by decide, show (32 : Int32).toInt = 32 by decide] at *); (repeat first | rw [if_pos (by omega)] at hz | rw [if_neg (by omega)] at hz); subst hz; first | exact congrArg (fun z => some (Value.int z)) (ansOf_0 _).symm | rfl
    · generalize hz : opLaw (Tx d) tx d u a b c = z; unfold opLaw at hz; (try simp only [ i_eq, i_lt, i_le, show (-1 : Int32).toInt = -1 by decide, show (0 : Int32).toInt = 0 by decide, show (1 : Int32).toInt = 1 by decide, show (2 : Int32).toInt = 2 by decide, show (3 : Int32).toInt = 3 by decide, show (4 : Int32).toInt = 4 by decide, show (5 : Int32).toInt = 5 by decide, show (6 : Int32).toInt = 6 by decide, show (7 : Int32).toInt = 7 by decide, show (8 : Int32).toInt = 8 by decide, show (9 : Int32).toInt = 9 by decide, show (10 : Int32).toInt = 10 by decide, show (11 : Int32).toInt = 11 by decide, show (12 : Int32).toInt = 12 by decide, show (13 : Int32).toInt = 13 by decide, show (14 : Int32).toInt = 14 by decide, show (15 : Int32).toInt = 15 by decide, show (16 : Int32).toInt = 16 by decide, show (20 : Int32).toInt = 20 by decide, show (39 : Int32).toInt = 39 by decide, show (40 : Int32).toInt = 40 by decide, show (50 : Int32).toInt = 50 by decide, show (60 : Int32).toInt = 60 by decide, show (99 : Int32).toInt = 99 by decide, show (100 : Int32).toInt = 100 by decide, show (999 : Int32).toInt = 999 by decide, show (9999 : Int32).toInt = 9999 by decide, show (99999 : Int32).toInt = 99999 by decide, show (999999 : Int32).toInt = 999999 by decide, show (9999999 : Int32).toInt = 9999999 by decide, show (-50 : Int32).toInt = -50 by decide, show (32 : Int32).toInt = 32 by decide] at *); (repeat first | rw [if_pos (by omega)] at hz | rw [if_neg (by omega)] at hz); subst hz; rw [ze51]; (try rw [bump_0]); funext zz; simp only [va_up, bump, ↓reduceIte]; (repeat' split) <;> first | rfl | (exfalso; omega) | (simp_all; done)
    · rfl
set_option maxHeartbeats 4000000 in
set_option maxRecDepth 100000 in
theorem r_coldOf {κ : Wc} {l : Launch} {h : Mm} {n : Nat} {o : Nat} {a : Nat} {d : Nat → Int32} {m : Nat → Int32} {nm : Nat → Int32} {tx : Nat → Nat} {im : Int32} {ba : Int32} {at_ : Int32} {sz : Int32} {fa : Int32} {op : Int32} {rm : Int32} {ti : Int32} {tm : Int32} {wh : Int32} (K0 : h o = some (.inr (12, [.ref (o + 1), .ref (o + 2), .ref (o + 3), .int im, .ref (o + 4), .int ba, .int at_, .int sz, .int fa, .int op, .ref (o + 5), .ref (o + 6), .int rm, .ref (o + 7), .ref (o + 8), .int ti, .ref (o + 9), .int tm, .int wh, .ref (o + 10), .ref (o + 11), .ref (o + 12), .ref (o + 13)]))) (K1 : h (o + 1) = arI κ 340 d) (K2 : h (o + 5) = arI κ 3 nm) (K3 : h a = arI κ 340 m) (q8 : ∀ u, u < 2 → d (60 + u) = nI (tx u) ∧ tx u ≤ 50) (qa : a = o + 1 ∨ a = o + 2) : Con κ l yX12_coldOf cX12_coldOf 2 (some .int) 41 0 0 [.ref o, .ref a] h n (fun q h' n' => ∃ ba' : Int32, ∃ at' : Int32, ∃ sz' : Int32, ∃ fa' : Int32, ∃ op' : Int32, ∃ nm' : Nat → Int32, q = some (.int (cldR (Tx d) tx m)) ∧ h' = va_up (va_up h o (some (.inr (12, [.ref (o + 1), .ref (o + 2), .ref (o + 3), .int im, .ref (o + 4), .int ba', .int at', .int sz', .int fa', .int op', .ref (o + 5), .ref (o + 6), .int rm, .ref (o + 7), .ref (o + 8), .int ti, .ref (o + 9), .int tm, .int wh, .ref (o + 10), .ref (o + 11), .ref (o + 12), .ref (o + 13)])))) (o + 5) (arI κ 3 nm') ∧ n' = n) := by
  refine Con.of mk_X12_coldOf (Nat.le_of_ble_eq_true rfl) (fun G hG X E => ?_)
  subst hG
  refine z_ls (ls' := [(0, .ref o), (1, .ref a)]) rfl ?_
  refine z_aload_n X 0 dX12_coldOf_0 rfl ?_
  refine z_iconst (v := 1) X dX12_coldOf_1 (by decide) ?_
  refine z_aload_n X 1 dX12_coldOf_2 rfl ?_
  refine z_iconst (v := 0) X dX12_coldOf_3 (by decide) ?_
  refine z_iald2 (v := m 0) X dX12_coldOf_4 K3 (vp_in_nI (n := 0) (by omega) (by omega)) (congrArg m (nI_clamp (n := 0) (by omega))) ?_
  refine z_aload_n X 1 dX12_coldOf_5 rfl ?_
  refine z_iconst (v := 4) X dX12_coldOf_6 (by decide) ?_
  refine z_iald2 (v := m 4) X dX12_coldOf_7 K3 (vp_in_nI (n := 4) (by omega) (by omega)) (congrArg m (nI_clamp (n := 4) (by omega))) ?_
  refine z_aload_n X 1 dX12_coldOf_8 rfl ?_
  refine z_bipush (v := 6) X dX12_coldOf_9 (by decide) ?_
  refine z_iald2 (v := m 6) X dX12_coldOf_11 K3 (vp_in_nI (n := 6) (by omega) (by omega)) (congrArg m (nI_clamp (n := 6) (by omega))) ?_
  refine z_aload_n X 1 dX12_coldOf_12 rfl ?_
  refine z_bipush (v := 6) X dX12_coldOf_13 (by decide) ?_
  refine z_iald2 (v := m 6) X dX12_coldOf_15 K3 (vp_in_nI (n := 6) (by omega) (by omega)) (congrArg m (nI_clamp (n := 6) (by omega))) ?_
  refine z_callV X (r_gives (κ := κ) (n := n) (o := (o)) (u := (1)) (t := (m 0)) (w := (m 4)) (c := (m 6)) (wo := (m 6)) (d := (d)) (nm := (nm)) (im := (im)) (ba := (ba)) (at_ := (at_)) (sz := (sz)) (fa := (fa)) (op := (op)) (rm := (rm)) (ti := (ti)) (tm := (tm)) (wh := (wh)) K0 K1 K2 (by first | assumption | omega) (by first | assumption | omega)) mk_X12_gives dX12_coldOf_16 wd_1084 wd_1086 wd_27 rfl K0 rfl rfl rfl (Nat.le_of_ble_eq_true rfl) (Nat.le_of_ble_eq_true rfl) (Nat.le_of_ble_eq_true rfl) (by omega) (by omega) (fun q zh7 zm9 zp10 => ?_)
  obtain ⟨ba'1, at'2, sz'3, fa'4, op'5, nm'6, rfl, ze8, zn11⟩ := zp10
  subst zm9
  refine z_st (st' := [.int (gv (Tx d) tx 1 (m 0) (m 4) (m 6) (m 6))]) rfl ?_
  have zK12 : zh7 o = some (.inr (12, [.ref (o + 1), .ref (o + 2), .ref (o + 3), .int im, .ref (o + 4), .int ba'1, .int at'2, .int sz'3, .int fa'4, .int op'5, .ref (o + 5), .ref (o + 6), .int rm, .ref (o + 7), .ref (o + 8), .int ti, .ref (o + 9), .int tm, .int wh, .ref (o + 10), .ref (o + 11), .ref (o + 12), .ref (o + 13)])) := by rw [ze8]; rw [va_up_ne _ _ (show o ≠ o + 5 by omega)]; exact va_up_self _ _ _
  have zK13 : zh7 (o + 1) = arI κ 340 d := by rw [ze8]; rw [va_up_ne _ _ (show o + 1 ≠ o + 5 by omega)]; rw [va_up_ne _ _ (show o + 1 ≠ o by omega)]; exact K1
  have zK14 : zh7 (o + 5) = arI κ 3 nm'6 := by rw [ze8]; exact va_up_self _ _ _
  have zK15 : zh7 a = arI κ 340 m := by rw [ze8]; rw [va_up_ne _ _ (show a ≠ o + 5 by omega)]; rw [va_up_ne _ _ (show a ≠ o by omega)]; exact K3
  refine z_bipush (v := -50) X dX12_coldOf_19 (by decide) ?_
  refine z_bipush (v := 99) X dX12_coldOf_21 (by decide) ?_
  refine z_callS X (r_held (κ := κ) (n := n) (v := (gv (Tx d) tx 1 (m 0) (m 4) (m 6) (m 6))) (lo := (-50)) (hi := (99))  ) mk_X12_held dX12_coldOf_23 wd_1134 wd_1135 rfl rfl (Nat.le_of_ble_eq_true rfl) (Nat.le_of_ble_eq_true rfl) (Nat.le_of_ble_eq_true rfl) (by omega) (by omega) (fun q zh16 zm18 zp19 => ?_)
  obtain ⟨rfl, ze17, zn20⟩ := zp19
  subst zm18
  subst zh16
  refine z_st (st' := [.int (held (gv (Tx d) tx 1 (m 0) (m 4) (m 6) (m 6)) (-50) 99)]) rfl ?_
  refine z_iret X E dX12_coldOf_26 (by omega) (by omega) ⟨ba'1, at'2, sz'3, fa'4, op'5, nm'6, ?_, ?_, ?_⟩
  · rfl
  · first | (rw [ze8]; done) | (rw [ze8]; simp only [up_up]; done) | (rw [ze8]; funext zz; simp only [va_up]; (repeat' split) <;> first | rfl | (exfalso; omega) | simp_all)
  · rfl
def opFreezes (T : Nat → Nat → Int32) (tx : Nat → Nat) (d : Nat → Int32) (len nc : Nat) (c b w s : Int32) : Nat × Int32 := if ¬ (0 ≤ c.toInt ∧ c.toInt ≤ ((nc : Nat) : Int) - 1 ∧ 0 ≤ b.toInt ∧ b.toInt ≤ ((len : Nat) : Int) - 1 ∧ 0 ≤ w.toInt ∧ w.toInt ≤ 999999 ∧ 0 ≤ s.toInt ∧ s.toInt ≤ 999999) then (1, 0) else (0, frz d len c.toNatClampNeg b.toNatClampNeg w s (cldR T tx d))
set_option maxHeartbeats 4000000 in
set_option maxRecDepth 100000 in
theorem r_freezes {κ : Wc} {l : Launch} {h : Mm} {n : Nat} {o : Nat} {fo : Nat → Int32} {d : Nat → Int32} {nm : Nat → Int32} {tx : Nat → Nat} {im : Int32} {ba : Int32} {at_ : Int32} {sz : Int32} {fa : Int32} {op : Int32} {rm : Int32} {ti : Int32} {tm : Int32} {wh : Int32} {len : Nat} {nc : Nat} {c : Int32} {b : Int32} {w : Int32} {s : Int32} (K0 : h o = some (.inr (12, [.ref (o + 1), .ref (o + 2), .ref (o + 3), .int im, .ref (o + 4), .int ba, .int at_, .int sz, .int fa, .int op, .ref (o + 5), .ref (o + 6), .int rm, .ref (o + 7), .ref (o + 8), .int ti, .ref (o + 9), .int tm, .int wh, .ref (o + 10), .ref (o + 11), .ref (o + 12), .ref (o + 13)]))) (K1 : h (o + 4) = arI κ 6 fo) (K2 : h (o + 1) = arI κ 340 d) (K3 : h (o + 5) = arI κ 3 nm) (q8 : ∀ u, u < 2 → d (60 + u) = nI (tx u) ∧ tx u ≤ 50) (q1 : d 1 = nI len) (q2 : 1 ≤ len) (q3 : len ≤ 40) (q4 : d 11 = nI nc) (q5 : nc ≤ 6) : Con κ l yX12_freezes cX12_freezes 5 (some .int) 42 0 0 [.ref o, .int c, .int b, .int w, .int s] h n (fun q h' n' => ∃ ba' : Int32, ∃ at' : Int32, ∃ sz' : Int32, ∃ fa' : Int32, ∃ op' : Int32, ∃ nm' : Nat → Int32, q = some (.int (ansOf (opFreezes (Tx d) tx d len nc c b w s))) ∧ h' = va_up (va_up (va_up h o (some (.inr (12, [.ref (o + 1), .ref (o + 2), .ref (o + 3), .int im, .ref (o + 4), .int ba', .int at', .int sz', .int fa', .int op', .ref (o + 5), .ref (o + 6), .int rm, .ref (o + 7), .ref (o + 8), .int ti, .ref (o + 9), .int tm, .int wh, .ref (o + 10), .ref (o + 11), .ref (o + 12), .ref (o + 13)])))) (o + 5) (arI κ 3 nm')) (o + 4) (arI κ 6 (bump (opFreezes (Tx d) tx d len nc c b w s) fo)) ∧ n' = n) := by
  refine Con.of mk_X12_freezes (Nat.le_of_ble_eq_true rfl) (fun G hG X E => ?_)
  subst hG
  refine z_ls (ls' := [(0, .ref o), (1, .int c), (2, .int b), (3, .int w), (4, .int s)]) rfl ?_
  refine z_aload_n X 0 dX12_freezes_0 rfl ?_
  refine z_iload_n X 1 dX12_freezes_1 rfl ?_
  refine z_callV X (r_isCause (κ := κ) (n := n) (o := (o)) (v := (c)) (d := (d)) (im := (im)) (ba := (ba)) (at_ := (at_)) (sz := (sz)) (fa := (fa)) (op := (op)) (rm := (rm)) (ti := (ti)) (tm := (tm)) (wh := (wh)) K0 K2 (by first | assumption | omega) (by first | assumption | omega)) mk_X12_isCause dX12_freezes_2 wd_1061 wd_1063 wd_25 rfl K0 rfl rfl rfl (Nat.le_of_ble_eq_true rfl) (Nat.le_of_ble_eq_true rfl) (Nat.le_of_ble_eq_true rfl) (by omega) (by omega) (fun q zh1 zm3 zp4 => ?_)
  obtain ⟨rfl, ze2, zn5⟩ := zp4
  subst zm3
  subst zh1
  refine z_st (st' := [.int (b2i (0 ≤ (c : Int32).toInt ∧ (c : Int32).toInt ≤ ((nc : Nat) : Int) - 1))]) rfl ?_
  refine z_if_eq X 41 dX12_freezes_5 (by decide) (fun zc6 => ?_) (fun zc6 => ?_)
  · replace zc6 := b2i_f zc6
    refine z_aload_n X 0 dX12_freezes_41 rfl ?_
    refine z_iconst (v := 1) X dX12_freezes_42 (by decide) ?_
    refine z_callV X (r_finds (κ := κ) (n := n) (o := (o)) (k := (1)) (fo := (fo)) (im := (im)) (ba := (ba)) (at_ := (at_)) (sz := (sz)) (fa := (fa)) (op := (op)) (rm := (rm)) (ti := (ti)) (tm := (tm)) (wh := (wh)) K0 K1 (by first | assumption | omega) (by first | assumption | omega)) mk_X12_finds dX12_freezes_43 wd_1018 wd_1020 wd_24 rfl K0 rfl rfl rfl (Nat.le_of_ble_eq_true rfl) (Nat.le_of_ble_eq_true rfl) (Nat.le_of_ble_eq_true rfl) (by omega) (by omega) (fun q zh7 zm9 zp10 => ?_)
    obtain ⟨rfl, ze8, zn11⟩ := zp10
    subst zm9
    refine z_st (st' := [.int (lowE 1)]) rfl ?_
    have zK12 : zh7 o = some (.inr (12, [.ref (o + 1), .ref (o + 2), .ref (o + 3), .int im, .ref (o + 4), .int ba, .int at_, .int sz, .int fa, .int op, .ref (o + 5), .ref (o + 6), .int rm, .ref (o + 7), .ref (o + 8), .int ti, .ref (o + 9), .int tm, .int wh, .ref (o + 10), .ref (o + 11), .ref (o + 12), .ref (o + 13)])) := by rw [ze8]; rw [va_up_ne _ _ (show o ≠ o + 4 by omega)]; exact K0
    have zK13 : zh7 (o + 4) = arI κ 6 (bmp fo 1) := by rw [ze8]; exact va_up_self _ _ _
    have zK14 : zh7 (o + 1) = arI κ 340 d := by rw [ze8]; rw [va_up_ne _ _ (show o + 1 ≠ o + 4 by omega)]; exact K2
    have zK15 : zh7 (o + 5) = arI κ 3 nm := by rw [ze8]; rw [va_up_ne _ _ (show o + 5 ≠ o + 4 by omega)]; exact K3
    refine z_iret X E dX12_freezes_46 (by omega) (by omega) ⟨ba, at_, sz, fa, op, nm, ?_, ?_, ?_⟩
    · generalize hz : opFreezes (Tx d) tx d len nc c b w s = z; unfold opFreezes at hz; (try simp only [ i_eq, i_lt, i_le, show (-1 : Int32).toInt = -1 by decide, show (0 : Int32).toInt = 0 by decide, show (1 : Int32).toInt = 1 by decide, show (2 : Int32).toInt = 2 by decide, show (3 : Int32).toInt = 3 by decide, show (4 : Int32).toInt = 4 by decide, show (5 : Int32).toInt = 5 by decide, show (6 : Int32).toInt = 6 by decide, show (7 : Int32).toInt = 7 by decide, show (8 : Int32).toInt = 8 by decide, show (9 : Int32).toInt = 9 by decide, show (10 : Int32).toInt = 10 by decide, show (11 : Int32).toInt = 11 by decide, show (12 : Int32).toInt = 12 by decide, show (13 : Int32).toInt = 13 by decide, show (14 : Int32).toInt = 14 by decide, show (15 : Int32).toInt = 15 by decide, show (16 : Int32).toInt = 16 by decide, show (20 : Int32).toInt = 20 by decide, show (39 : Int32).toInt = 39 by decide, show (40 : Int32).toInt = 40 by decide, show (50 : Int32).toInt = 50 by decide, show (60 : Int32).toInt = 60 by decide, show (99 : Int32).toInt = 99 by decide, show (100 : Int32).toInt = 100 by decide, show (999 : Int32).toInt = 999 by decide, show (9999 : Int32).toInt = 9999 by decide, show (99999 : Int32).toInt = 99999 by decide, show (999999 : Int32).toInt = 999999 by decide, show (9999999 : Int32).toInt = 9999999 by decide, show (-50 : Int32).toInt = -50 by decide, show (32 : Int32).toInt = 32 by decide] at *); (repeat first | rw [if_pos (by omega)] at hz | rw [if_neg (by omega)] at hz); subst hz; first | exact congrArg (fun z => some (Value.int z)) (ansOf_0 _).symm | rfl
    · generalize hz : opFreezes (Tx d) tx d len nc c b w s = z; unfold opFreezes at hz; (try simp only [ i_eq, i_lt, i_le, show (-1 : Int32).toInt = -1 by decide, show (0 : Int32).toInt = 0 by decide, show (1 : Int32).toInt = 1 by decide, show (2 : Int32).toInt = 2 by decide, show (3 : Int32).toInt = 3 by decide, show (4 : Int32).toInt = 4 by decide, show (5 : Int32).toInt = 5 by decide, show (6 : Int32).toInt = 6 by decide, show (7 : Int32).toInt = 7 by decide, show (8 : Int32).toInt = 8 by decide, show (9 : Int32).toInt = 9 by decide, show (10 : Int32).toInt = 10 by decide, show (11 : Int32).toInt = 11 by decide, show (12 : Int32).toInt = 12 by decide, show (13 : Int32).toInt = 13 by decide, show (14 : Int32).toInt = 14 by decide, show (15 : Int32).toInt = 15 by decide, show (16 : Int32).toInt = 16 by decide, show (20 : Int32).toInt = 20 by decide, show (39 : Int32).toInt = 39 by decide, show (40 : Int32).toInt = 40 by decide, show (50 : Int32).toInt = 50 by decide, show (60 : Int32).toInt = 60 by decide, show (99 : Int32).toInt = 99 by decide, show (100 : Int32).toInt = 100 by decide, show (999 : Int32).toInt = 999 by decide, show (9999 : Int32).toInt = 9999 by decide, show (99999 : Int32).toInt = 99999 by decide, show (999999 : Int32).toInt = 999999 by decide, show (9999999 : Int32).toInt = 9999999 by decide, show (-50 : Int32).toInt = -50 by decide, show (32 : Int32).toInt = 32 by decide] at *); (repeat first | rw [if_pos (by omega)] at hz | rw [if_neg (by omega)] at hz); subst hz; rw [ze8]; (try rw [bump_0]); funext zz; simp only [va_up, bump, ↓reduceIte]; (repeat' split) <;> first | rfl | (exfalso; omega) | (simp_all; done)
    · rfl
  · replace zc6 := b2i_t zc6
    refine z_aload_n X 0 dX12_freezes_8 rfl ?_
    refine z_iload_n X 2 dX12_freezes_9 rfl ?_
    refine z_callV X (r_isCell (κ := κ) (n := n) (o := (o)) (v := (b)) (d := (d)) (im := (im)) (ba := (ba)) (at_ := (at_)) (sz := (sz)) (fa := (fa)) (op := (op)) (rm := (rm)) (ti := (ti)) (tm := (tm)) (wh := (wh)) K0 K2 (by first | assumption | omega) (by first | assumption | omega) (by first | assumption | omega)) mk_X12_isCell dX12_freezes_10 wd_1010 wd_1012 wd_23 rfl K0 rfl rfl rfl (Nat.le_of_ble_eq_true rfl) (Nat.le_of_ble_eq_true rfl) (Nat.le_of_ble_eq_true rfl) (by omega) (by omega) (fun q zh16 zm18 zp19 => ?_)
    obtain ⟨rfl, ze17, zn20⟩ := zp19
    subst zm18
    subst zh16
    refine z_st (st' := [.int (b2i (0 ≤ (b : Int32).toInt ∧ (b : Int32).toInt ≤ ((len : Nat) : Int) - 1))]) rfl ?_
    refine z_if_eq X 41 dX12_freezes_13 (by decide) (fun zc21 => ?_) (fun zc21 => ?_)
    · replace zc21 := b2i_f zc21
      refine z_aload_n X 0 dX12_freezes_41 rfl ?_
      refine z_iconst (v := 1) X dX12_freezes_42 (by decide) ?_
      refine z_callV X (r_finds (κ := κ) (n := n) (o := (o)) (k := (1)) (fo := (fo)) (im := (im)) (ba := (ba)) (at_ := (at_)) (sz := (sz)) (fa := (fa)) (op := (op)) (rm := (rm)) (ti := (ti)) (tm := (tm)) (wh := (wh)) K0 K1 (by first | assumption | omega) (by first | assumption | omega)) mk_X12_finds dX12_freezes_43 wd_1018 wd_1020 wd_24 rfl K0 rfl rfl rfl (Nat.le_of_ble_eq_true rfl) (Nat.le_of_ble_eq_true rfl) (Nat.le_of_ble_eq_true rfl) (by omega) (by omega) (fun q zh22 zm24 zp25 => ?_)
      obtain ⟨rfl, ze23, zn26⟩ := zp25
      subst zm24
      refine z_st (st' := [.int (lowE 1)]) rfl ?_
      have zK27 : zh22 o = some (.inr (12, [.ref (o + 1), .ref (o + 2), .ref (o + 3), .int im, .ref (o + 4), .int ba, .int at_, .int sz, .int fa, .int op, .ref (o + 5), .ref (o + 6), .int rm, .ref (o + 7), .ref (o + 8), .int ti, .ref (o + 9), .int tm, .int wh, .ref (o + 10), .ref (o + 11), .ref (o + 12), .ref (o + 13)])) := by rw [ze23]; rw [va_up_ne _ _ (show o ≠ o + 4 by omega)]; exact K0
      have zK28 : zh22 (o + 4) = arI κ 6 (bmp fo 1) := by rw [ze23]; exact va_up_self _ _ _
      have zK29 : zh22 (o + 1) = arI κ 340 d := by rw [ze23]; rw [va_up_ne _ _ (show o + 1 ≠ o + 4 by omega)]; exact K2
      have zK30 : zh22 (o + 5) = arI κ 3 nm := by rw [ze23]; rw [va_up_ne _ _ (show o + 5 ≠ o + 4 by omega)]; exact K3
      refine z_iret X E dX12_freezes_46 (by omega) (by omega) ⟨ba, at_, sz, fa, op, nm, ?_, ?_, ?_⟩
      · generalize hz : opFreezes (Tx d) tx d len nc c b w s = z; unfold opFreezes at hz; (try simp only [ i_eq, i_lt, i_le, show (-1 : Int32).toInt = -1 by decide, show (0 : Int32).toInt = 0 by decide, show (1 : Int32).toInt = 1 by decide, show (2 : Int32).toInt = 2 by decide, show (3 : Int32).toInt = 3 by decide, show (4 : Int32).toInt = 4 by decide, show (5 : Int32).toInt = 5 by decide, show (6 : Int32).toInt = 6 by decide, show (7 : Int32).toInt = 7 by decide, show (8 : Int32).toInt = 8 by decide, show (9 : Int32).toInt = 9 by decide, show (10 : Int32).toInt = 10 by decide, show (11 : Int32).toInt = 11 by decide, show (12 : Int32).toInt = 12 by decide, show (13 : Int32).toInt = 13 by decide, show (14 : Int32).toInt = 14 by decide, show (15 : Int32).toInt = 15 by decide, show (16 : Int32).toInt = 16 by decide, show (20 : Int32).toInt = 20 by decide, show (39 : Int32).toInt = 39 by decide, show (40 : Int32).toInt = 40 by decide, show (50 : Int32).toInt = 50 by decide, show (60 : Int32).toInt = 60 by decide, show (99 : Int32).toInt = 99 by decide, show (100 : Int32).toInt = 100 by decide, show (999 : Int32).toInt = 999 by decide, show (9999 : Int32).toInt = 9999 by decide, show (99999 : Int32).toInt = 99999 by decide, show (999999 : Int32).toInt = 999999 by decide, show (9999999 : Int32).toInt = 9999999 by decide, show (-50 : Int32).toInt = -50 by decide, show (32 : Int32).toInt = 32 by decide] at *); (repeat first | rw [if_pos (by omega)] at hz | rw [if_neg (by omega)] at hz); subst hz; first | exact congrArg (fun z => some (Value.int z)) (ansOf_0 _).symm | rfl
      · generalize hz : opFreezes (Tx d) tx d len nc c b w s = z; unfold opFreezes at hz; (try simp only [ i_eq, i_lt, i_le, show (-1 : Int32).toInt = -1 by decide, show (0 : Int32).toInt = 0 by decide, show (1 : Int32).toInt = 1 by decide, show (2 : Int32).toInt = 2 by decide, show (3 : Int32).toInt = 3 by decide, show (4 : Int32).toInt = 4 by decide, show (5 : Int32).toInt = 5 by decide, show (6 : Int32).toInt = 6 by decide, show (7 : Int32).toInt = 7 by decide, show (8 : Int32).toInt = 8 by decide, show (9 : Int32).toInt = 9 by decide, show (10 : Int32).toInt = 10 by decide, show (11 : Int32).toInt = 11 by decide, show (12 : Int32).toInt = 12 by decide, show (13 : Int32).toInt = 13 by decide, show (14 : Int32).toInt = 14 by decide, show (15 : Int32).toInt = 15 by decide, show (16 : Int32).toInt = 16 by decide, show (20 : Int32).toInt = 20 by decide, show (39 : Int32).toInt = 39 by decide, show (40 : Int32).toInt = 40 by decide, show (50 : Int32).toInt = 50 by decide, show (60 : Int32).toInt = 60 by decide, show (99 : Int32).toInt = 99 by decide, show (100 : Int32).toInt = 100 by decide, show (999 : Int32).toInt = 999 by decide, show (9999 : Int32).toInt = 9999 by decide, show (99999 : Int32).toInt = 99999 by decide, show (999999 : Int32).toInt = 999999 by decide, show (9999999 : Int32).toInt = 9999999 by decide, show (-50 : Int32).toInt = -50 by decide, show (32 : Int32).toInt = 32 by decide] at *); (repeat first | rw [if_pos (by omega)] at hz | rw [if_neg (by omega)] at hz); subst hz; rw [ze23]; (try rw [bump_0]); funext zz; simp only [va_up, bump, ↓reduceIte]; (repeat' split) <;> first | rfl | (exfalso; omega) | (simp_all; done)
      · rfl
    · replace zc21 := b2i_t zc21
      refine z_iload_n X 3 dX12_freezes_16 rfl ?_
      refine z_i2l X dX12_freezes_17 rfl ?_
      refine z_lconst (v := 0) X dX12_freezes_18 (by decide) ?_
      refine z_ldc2 X dX12_freezes_19 wd_1031 ?_
      refine z_callS X (r_in (κ := κ) (n := n) (v := (w.toInt64)) (lo := (0 : Int64)) (hi := (999999 : Int64))  ) mk_X12_in dX12_freezes_22 wd_1014 wd_1015 rfl rfl (Nat.le_of_ble_eq_true rfl) (Nat.le_of_ble_eq_true rfl) (Nat.le_of_ble_eq_true rfl) (by omega) (by omega) (fun q zh31 zm33 zp34 => ?_)
      obtain ⟨rfl, ze32, zn35⟩ := zp34
      subst zm33
      subst zh31
      refine z_st (st' := [.int (b2i ((0 : Int64).toInt ≤ (w.toInt64 : Int64).toInt ∧ (w.toInt64 : Int64).toInt ≤ (999999 : Int64).toInt))]) rfl ?_
      refine z_toe (y := b2i (0 ≤ w.toInt ∧ w.toInt ≤ 999999)) (by simp only [Int32.toInt_toInt64, show (0 : Int64).toInt = 0 by decide, show (999999 : Int64).toInt = 999999 by decide]) ?_
      refine z_if_eq X 41 dX12_freezes_25 (by decide) (fun zc36 => ?_) (fun zc36 => ?_)
      · replace zc36 := b2i_f zc36
        refine z_aload_n X 0 dX12_freezes_41 rfl ?_
        refine z_iconst (v := 1) X dX12_freezes_42 (by decide) ?_
        refine z_callV X (r_finds (κ := κ) (n := n) (o := (o)) (k := (1)) (fo := (fo)) (im := (im)) (ba := (ba)) (at_ := (at_)) (sz := (sz)) (fa := (fa)) (op := (op)) (rm := (rm)) (ti := (ti)) (tm := (tm)) (wh := (wh)) K0 K1 (by first | assumption | omega) (by first | assumption | omega)) mk_X12_finds dX12_freezes_43 wd_1018 wd_1020 wd_24 rfl K0 rfl rfl rfl (Nat.le_of_ble_eq_true rfl) (Nat.le_of_ble_eq_true rfl) (Nat.le_of_ble_eq_true rfl) (by omega) (by omega) (fun q zh37 zm39 zp40 => ?_)
        obtain ⟨rfl, ze38, zn41⟩ := zp40
        subst zm39
        refine z_st (st' := [.int (lowE 1)]) rfl ?_
        have zK42 : zh37 o = some (.inr (12, [.ref (o + 1), .ref (o + 2), .ref (o + 3), .int im, .ref (o + 4), .int ba, .int at_, .int sz, .int fa, .int op, .ref (o + 5), .ref (o + 6), .int rm, .ref (o + 7), .ref (o + 8), .int ti, .ref (o + 9), .int tm, .int wh, .ref (o + 10), .ref (o + 11), .ref (o + 12), .ref (o + 13)])) := by rw [ze38]; rw [va_up_ne _ _ (show o ≠ o + 4 by omega)]; exact K0
        have zK43 : zh37 (o + 4) = arI κ 6 (bmp fo 1) := by rw [ze38]; exact va_up_self _ _ _
        have zK44 : zh37 (o + 1) = arI κ 340 d := by rw [ze38]; rw [va_up_ne _ _ (show o + 1 ≠ o + 4 by omega)]; exact K2
        have zK45 : zh37 (o + 5) = arI κ 3 nm := by rw [ze38]; rw [va_up_ne _ _ (show o + 5 ≠ o + 4 by omega)]; exact K3
        refine z_iret X E dX12_freezes_46 (by omega) (by omega) ⟨ba, at_, sz, fa, op, nm, ?_, ?_, ?_⟩
        · generalize hz : opFreezes (Tx d) tx d len nc c b w s = z; unfold opFreezes at hz; (try simp only [ i_eq, i_lt, i_le, show (-1 : Int32).toInt = -1 by decide, show (0 : Int32).toInt = 0 by decide, show (1 : Int32).toInt = 1 by decide, show (2 : Int32).toInt = 2 by decide, show (3 : Int32).toInt = 3 by decide, show (4 : Int32).toInt = 4 by decide, show (5 : Int32).toInt = 5 by decide, show (6 : Int32).toInt = 6 by decide, show (7 : Int32).toInt = 7 by decide, show (8 : Int32).toInt = 8 by decide, show (9 : Int32).toInt = 9 by decide, show (10 : Int32).toInt = 10 by decide, show (11 : Int32).toInt = 11 by decide, show (12 : Int32).toInt = 12 by decide, show (13 : Int32).toInt = 13 by decide, show (14 : Int32).toInt = 14 by decide, show (15 : Int32).toInt = 15 by decide, show (16 : Int32).toInt = 16 by decide, show (20 : Int32).toInt = 20 by decide, show (39 : Int32).toInt = 39 by decide, show (40 : Int32).toInt = 40 by decide, show (50 : Int32).toInt = 50 by decide, show (60 : Int32).toInt = 60 by decide, show (99 : Int32).toInt = 99 by decide, show (100 : Int32).toInt = 100 by decide, show (999 : Int32).toInt = 999 by decide, show (9999 : Int32).toInt = 9999 by decide, show (99999 : Int32).toInt = 99999 by decide, show (999999 : Int32).toInt = 999999 by decide, show (9999999 : Int32).toInt = 9999999 by decide, show (-50 : Int32).toInt = -50 by decide, show (32 : Int32).toInt = 32 by decide] at *); (repeat first | rw [if_pos (by omega)] at hz | rw [if_neg (by omega)] at hz); subst hz; first | exact congrArg (fun z => some (Value.int z)) (ansOf_0 _).symm | rfl
        · generalize hz : opFreezes (Tx d) tx d len nc c b w s = z; unfold opFreezes at hz; (try simp only [ i_eq, i_lt, i_le, show (-1 : Int32).toInt = -1 by decide, show (0 : Int32).toInt = 0 by decide, show (1 : Int32).toInt = 1 by decide, show (2 : Int32).toInt = 2 by decide, show (3 : Int32).toInt = 3 by decide, show (4 : Int32).toInt = 4 by decide, show (5 : Int32).toInt = 5 by decide, show (6 : Int32).toInt = 6 by decide, show (7 : Int32).toInt = 7 by decide, show (8 : Int32).toInt = 8 by decide, show (9 : Int32).toInt = 9 by decide, show (10 : Int32).toInt = 10 by decide, show (11 : Int32).toInt = 11 by decide, show (12 : Int32).toInt = 12 by decide, show (13 : Int32).toInt = 13 by decide, show (14 : Int32).toInt = 14 by decide, show (15 : Int32).toInt = 15 by decide, show (16 : Int32).toInt = 16 by decide, show (20 : Int32).toInt = 20 by decide, show (39 : Int32).toInt = 39 by decide, show (40 : Int32).toInt = 40 by decide, show (50 : Int32).toInt = 50 by decide, show (60 : Int32).toInt = 60 by decide, show (99 : Int32).toInt = 99 by decide, show (100 : Int32).toInt = 100 by decide, show (999 : Int32).toInt = 999 by decide, show (9999 : Int32).toInt = 9999 by decide, show (99999 : Int32).toInt = 99999 by decide, show (999999 : Int32).toInt = 999999 by decide, show (9999999 : Int32).toInt = 9999999 by decide, show (-50 : Int32).toInt = -50 by decide, show (32 : Int32).toInt = 32 by decide] at *); (repeat first | rw [if_pos (by omega)] at hz | rw [if_neg (by omega)] at hz); subst hz; rw [ze38]; (try rw [bump_0]); funext zz; simp only [va_up, bump, ↓reduceIte]; (repeat' split) <;> first | rfl | (exfalso; omega) | (simp_all; done)
        · rfl
      · replace zc36 := b2i_t zc36
        refine z_iload X 4 dX12_freezes_28 rfl ?_
        refine z_i2l X dX12_freezes_30 rfl ?_
        refine z_lconst (v := 0) X dX12_freezes_31 (by decide) ?_
        refine z_ldc2 X dX12_freezes_32 wd_1031 ?_
        refine z_callS X (r_in (κ := κ) (n := n) (v := (s.toInt64)) (lo := (0 : Int64)) (hi := (999999 : Int64))  ) mk_X12_in dX12_freezes_35 wd_1014 wd_1015 rfl rfl (Nat.le_of_ble_eq_true rfl) (Nat.le_of_ble_eq_true rfl) (Nat.le_of_ble_eq_true rfl) (by omega) (by omega) (fun q zh46 zm48 zp49 => ?_)
        obtain ⟨rfl, ze47, zn50⟩ := zp49
        subst zm48
        subst zh46
        refine z_st (st' := [.int (b2i ((0 : Int64).toInt ≤ (s.toInt64 : Int64).toInt ∧ (s.toInt64 : Int64).toInt ≤ (999999 : Int64).toInt))]) rfl ?_
        refine z_toe (y := b2i (0 ≤ s.toInt ∧ s.toInt ≤ 999999)) (by simp only [Int32.toInt_toInt64, show (0 : Int64).toInt = 0 by decide, show (999999 : Int64).toInt = 999999 by decide]) ?_
        refine z_if_ne X 47 dX12_freezes_38 (by decide) (fun zc51 => ?_) (fun zc51 => ?_)
        · replace zc51 := b2i_t zc51
          obtain ⟨ck, hck, rfl⟩ := ix_of (c := c) (len := nc) (by omega) (by omega)
          obtain ⟨bk, hbk, rfl⟩ := ix_of (c := b) (len := len) (by omega) (by omega)
          refine z_aload_n X 0 dX12_freezes_47 rfl ?_
          refine z_get X fl_X12_7_12 dX12_freezes_48 K0 rfl ?_
          refine z_iload_n X 1 dX12_freezes_51 rfl ?_
          refine z_iload_n X 2 dX12_freezes_52 rfl ?_
          refine z_iload_n X 3 dX12_freezes_53 rfl ?_
          refine z_iload X 4 dX12_freezes_54 rfl ?_
          refine z_aload_n X 0 dX12_freezes_56 rfl ?_
          refine z_aload_n X 0 dX12_freezes_57 rfl ?_
          refine z_get X fl_X12_7_12 dX12_freezes_58 K0 rfl ?_
          refine z_callV X (r_coldOf (κ := κ) (n := n) (o := (o)) (a := (o + 1)) (d := (d)) (m := (d)) (nm := (nm)) (im := (im)) (ba := (ba)) (at_ := (at_)) (sz := (sz)) (fa := (fa)) (op := (op)) (rm := (rm)) (ti := (ti)) (tm := (tm)) (wh := (wh)) K0 K2 K3 K2 (by first | assumption | omega) (Or.inl rfl)) mk_X12_coldOf dX12_freezes_61 wd_1080 wd_1082 wd_26 rfl K0 rfl rfl rfl (Nat.le_of_ble_eq_true rfl) (Nat.le_of_ble_eq_true rfl) (Nat.le_of_ble_eq_true rfl) (by omega) (by omega) (fun q zh58 zm60 zp61 => ?_)
          obtain ⟨ba'52, at'53, sz'54, fa'55, op'56, nm'57, rfl, ze59, zn62⟩ := zp61
          subst zm60
          refine z_st (st' := [.int (cldR (Tx d) tx d), .int s, .int w, .int (nI bk), .int (nI ck), .ref (o + 1)]) rfl ?_
          have zK63 : zh58 o = some (.inr (12, [.ref (o + 1), .ref (o + 2), .ref (o + 3), .int im, .ref (o + 4), .int ba'52, .int at'53, .int sz'54, .int fa'55, .int op'56, .ref (o + 5), .ref (o + 6), .int rm, .ref (o + 7), .ref (o + 8), .int ti, .ref (o + 9), .int tm, .int wh, .ref (o + 10), .ref (o + 11), .ref (o + 12), .ref (o + 13)])) := by rw [ze59]; rw [va_up_ne _ _ (show o ≠ o + 5 by omega)]; exact va_up_self _ _ _
          have zK64 : zh58 (o + 4) = arI κ 6 fo := by rw [ze59]; rw [va_up_ne _ _ (show o + 4 ≠ o + 5 by omega)]; rw [va_up_ne _ _ (show o + 4 ≠ o by omega)]; exact K1
          have zK65 : zh58 (o + 1) = arI κ 340 d := by rw [ze59]; rw [va_up_ne _ _ (show o + 1 ≠ o + 5 by omega)]; rw [va_up_ne _ _ (show o + 1 ≠ o by omega)]; exact K2
          have zK66 : zh58 (o + 5) = arI κ 3 nm'57 := by rw [ze59]; exact va_up_self _ _ _
          refine z_callS X (r_freezesOf (κ := κ) (n := n) (a := (o + 1)) (m := (d)) (k := (ck)) (c := (bk)) (w := (w)) (s := (s)) (cold := (cldR (Tx d) tx d)) zK65 (by first | assumption | omega) (by first | assumption | omega) (by first | assumption | omega) (by first | assumption | omega) (by first | assumption | omega)) mk_X12_freezesOf dX12_freezes_64 wd_1137 wd_1138 rfl rfl (Nat.le_of_ble_eq_true rfl) (Nat.le_of_ble_eq_true rfl) (Nat.le_of_ble_eq_true rfl) (by omega) (by omega) (fun q zh67 zm69 zp70 => ?_)
          obtain ⟨rfl, ze68, zn71⟩ := zp70
          subst zm69
          subst zh67
          refine z_st (st' := [.int (frz d len ck bk w s (cldR (Tx d) tx d))]) rfl ?_
          refine z_iret X E dX12_freezes_67 (by omega) (by omega) ⟨ba'52, at'53, sz'54, fa'55, op'56, nm'57, ?_, ?_, ?_⟩
          · generalize hz : opFreezes (Tx d) tx d len nc (nI ck) (nI bk) w s = z; unfold opFreezes at hz; (try simp only [i_nI (n := ck) (by omega), nI_clamp (n := ck) (by omega), i_nI (n := bk) (by omega), nI_clamp (n := bk) (by omega),  i_eq, i_lt, i_le, show (-1 : Int32).toInt = -1 by decide, show (0 : Int32).toInt = 0 by decide, show (1 : Int32).toInt = 1 by decide, show (2 : Int32).toInt = 2 by decide, show (3 : Int32).toInt = 3 by decide, show (4 : Int32).toInt = 4 by decide, show (5 : Int32).toInt = 5 by decide, show (6 : Int32).toInt = 6 by decide, show (7 : Int32).toInt = 7 by decide, show (8 : Int32).toInt = 8 by decide, show (9 : Int32).toInt = 9 by decide, show (10 : Int32).toInt = 10 by decide, show (11 : Int32).toInt = 11 by decide, show (12 : Int32).toInt = 12 by decide, show (13 : Int32).toInt = 13 by decide, show (14 : Int32).toInt = 14 by decide, show (15 : Int32).toInt = 15 by decide, show (16 : Int32).toInt = 16 by decide, show (20 : Int32).toInt = 20 by decide, show (39 : Int32).toInt = 39 by decide, show (40 : Int32).toInt = 40 by decide, show (50 : Int32).toInt = 50 by decide, show (60 : Int32).toInt = 60 by decide, show (99 : Int32).toInt = 99 by decide, show (100 : Int32).toInt = 100 by decide, show (999 : Int32).toInt = 999 by decide, show (9999 : Int32).toInt = 9999 by decide, show (99999 : Int32).toInt = 99999 by decide, show (999999 : Int32).toInt = 999999 by decide, show (9999999 : Int32).toInt = 9999999 by decide, show (-50 : Int32).toInt = -50 by decide, show (32 : Int32).toInt = 32 by decide] at *); (repeat first | rw [if_pos (by omega)] at hz | rw [if_neg (by omega)] at hz); subst hz; first | exact congrArg (fun z => some (Value.int z)) (ansOf_0 _).symm | rfl
          · generalize hz : opFreezes (Tx d) tx d len nc (nI ck) (nI bk) w s = z; unfold opFreezes at hz; (try simp only [i_nI (n := ck) (by omega), nI_clamp (n := ck) (by omega), i_nI (n := bk) (by omega), nI_clamp (n := bk) (by omega),  i_eq, i_lt, i_le, show (-1 : Int32).toInt = -1 by decide, show (0 : Int32).toInt = 0 by decide, show (1 : Int32).toInt = 1 by decide, show (2 : Int32).toInt = 2 by decide, show (3 : Int32).toInt = 3 by decide, show (4 : Int32).toInt = 4 by decide, show (5 : Int32).toInt = 5 by decide, show (6 : Int32).toInt = 6 by decide, show (7 : Int32).toInt = 7 by decide, show (8 : Int32).toInt = 8 by decide, show (9 : Int32).toInt = 9 by decide, show (10 : Int32).toInt = 10 by decide, show (11 : Int32).toInt = 11 by decide, show (12 : Int32).toInt = 12 by decide, show (13 : Int32).toInt = 13 by decide, show (14 : Int32).toInt = 14 by decide, show (15 : Int32).toInt = 15 by decide, show (16 : Int32).toInt = 16 by decide, show (20 : Int32).toInt = 20 by decide, show (39 : Int32).toInt = 39 by decide, show (40 : Int32).toInt = 40 by decide, show (50 : Int32).toInt = 50 by decide, show (60 : Int32).toInt = 60 by decide, show (99 : Int32).toInt = 99 by decide, show (100 : Int32).toInt = 100 by decide, show (999 : Int32).toInt = 999 by decide, show (9999 : Int32).toInt = 9999 by decide, show (99999 : Int32).toInt = 99999 by decide, show (999999 : Int32).toInt = 999999 by decide, show (9999999 : Int32).toInt = 9999999 by decide, show (-50 : Int32).toInt = -50 by decide, show (32 : Int32).toInt = 32 by decide] at *); (repeat first | rw [if_pos (by omega)] at hz | rw [if_neg (by omega)] at hz); subst hz; rw [ze59]; (try rw [bump_0]); funext zz; simp only [va_up, bump, ↓reduceIte]; (repeat' split) <;> first | rfl | (exfalso; omega) | (simp_all; done)
          · rfl
        · replace zc51 := b2i_f zc51
          refine z_aload_n X 0 dX12_freezes_41 rfl ?_
          refine z_iconst (v := 1) X dX12_freezes_42 (by decide) ?_
          refine z_callV X (r_finds (κ := κ) (n := n) (o := (o)) (k := (1)) (fo := (fo)) (im := (im)) (ba := (ba)) (at_ := (at_)) (sz := (sz)) (fa := (fa)) (op := (op)) (rm := (rm)) (ti := (ti)) (tm := (tm)) (wh := (wh)) K0 K1 (by first | assumption | omega) (by first | assumption | omega)) mk_X12_finds dX12_freezes_43 wd_1018 wd_1020 wd_24 rfl K0 rfl rfl rfl (Nat.le_of_ble_eq_true rfl) (Nat.le_of_ble_eq_true rfl) (Nat.le_of_ble_eq_true rfl) (by omega) (by omega) (fun q zh72 zm74 zp75 => ?_)
          obtain ⟨rfl, ze73, zn76⟩ := zp75
          subst zm74
          refine z_st (st' := [.int (lowE 1)]) rfl ?_
          have zK77 : zh72 o = some (.inr (12, [.ref (o + 1), .ref (o + 2), .ref (o + 3), .int im, .ref (o + 4), .int ba, .int at_, .int sz, .int fa, .int op, .ref (o + 5), .ref (o + 6), .int rm, .ref (o + 7), .ref (o + 8), .int ti, .ref (o + 9), .int tm, .int wh, .ref (o + 10), .ref (o + 11), .ref (o + 12), .ref (o + 13)])) := by rw [ze73]; rw [va_up_ne _ _ (show o ≠ o + 4 by omega)]; exact K0
          have zK78 : zh72 (o + 4) = arI κ 6 (bmp fo 1) := by rw [ze73]; exact va_up_self _ _ _
          have zK79 : zh72 (o + 1) = arI κ 340 d := by rw [ze73]; rw [va_up_ne _ _ (show o + 1 ≠ o + 4 by omega)]; exact K2
          have zK80 : zh72 (o + 5) = arI κ 3 nm := by rw [ze73]; rw [va_up_ne _ _ (show o + 5 ≠ o + 4 by omega)]; exact K3
          refine z_iret X E dX12_freezes_46 (by omega) (by omega) ⟨ba, at_, sz, fa, op, nm, ?_, ?_, ?_⟩
          · generalize hz : opFreezes (Tx d) tx d len nc c b w s = z; unfold opFreezes at hz; (try simp only [ i_eq, i_lt, i_le, show (-1 : Int32).toInt = -1 by decide, show (0 : Int32).toInt = 0 by decide, show (1 : Int32).toInt = 1 by decide, show (2 : Int32).toInt = 2 by decide, show (3 : Int32).toInt = 3 by decide, show (4 : Int32).toInt = 4 by decide, show (5 : Int32).toInt = 5 by decide, show (6 : Int32).toInt = 6 by decide, show (7 : Int32).toInt = 7 by decide, show (8 : Int32).toInt = 8 by decide, show (9 : Int32).toInt = 9 by decide, show (10 : Int32).toInt = 10 by decide, show (11 : Int32).toInt = 11 by decide, show (12 : Int32).toInt = 12 by decide, show (13 : Int32).toInt = 13 by decide, show (14 : Int32).toInt = 14 by decide, show (15 : Int32).toInt = 15 by decide, show (16 : Int32).toInt = 16 by decide, show (20 : Int32).toInt = 20 by decide, show (39 : Int32).toInt = 39 by decide, show (40 : Int32).toInt = 40 by decide, show (50 : Int32).toInt = 50 by decide, show (60 : Int32).toInt = 60 by decide, show (99 : Int32).toInt = 99 by decide, show (100 : Int32).toInt = 100 by decide, show (999 : Int32).toInt = 999 by decide, show (9999 : Int32).toInt = 9999 by decide, show (99999 : Int32).toInt = 99999 by decide, show (999999 : Int32).toInt = 999999 by decide, show (9999999 : Int32).toInt = 9999999 by decide, show (-50 : Int32).toInt = -50 by decide, show (32 : Int32).toInt = 32 by decide] at *); (repeat first | rw [if_pos (by omega)] at hz | rw [if_neg (by omega)] at hz); subst hz; first | exact congrArg (fun z => some (Value.int z)) (ansOf_0 _).symm | rfl
          · generalize hz : opFreezes (Tx d) tx d len nc c b w s = z; unfold opFreezes at hz; (try simp only [ i_eq, i_lt, i_le, show (-1 : Int32).toInt = -1 by decide, show (0 : Int32).toInt = 0 by decide, show (1 : Int32).toInt = 1 by decide, show (2 : Int32).toInt = 2 by decide, show (3 : Int32).toInt = 3 by decide, show (4 : Int32).toInt = 4 by decide, show (5 : Int32).toInt = 5 by decide, show (6 : Int32).toInt = 6 by decide, show (7 : Int32).toInt = 7 by decide, show (8 : Int32).toInt = 8 by decide, show (9 : Int32).toInt = 9 by decide, show (10 : Int32).toInt = 10 by decide, show (11 : Int32).toInt = 11 by decide, show (12 : Int32).toInt = 12 by decide, show (13 : Int32).toInt = 13 by decide, show (14 : Int32).toInt = 14 by decide, show (15 : Int32).toInt = 15 by decide, show (16 : Int32).toInt = 16 by decide, show (20 : Int32).toInt = 20 by decide, show (39 : Int32).toInt = 39 by decide, show (40 : Int32).toInt = 40 by decide, show (50 : Int32).toInt = 50 by decide, show (60 : Int32).toInt = 60 by decide, show (99 : Int32).toInt = 99 by decide, show (100 : Int32).toInt = 100 by decide, show (999 : Int32).toInt = 999 by decide, show (9999 : Int32).toInt = 9999 by decide, show (99999 : Int32).toInt = 99999 by decide, show (999999 : Int32).toInt = 999999 by decide, show (9999999 : Int32).toInt = 9999999 by decide, show (-50 : Int32).toInt = -50 by decide, show (32 : Int32).toInt = 32 by decide] at *); (repeat first | rw [if_pos (by omega)] at hz | rw [if_neg (by omega)] at hz); subst hz; rw [ze73]; (try rw [bump_0]); funext zz; simp only [va_up, bump, ↓reduceIte]; (repeat' split) <;> first | rfl | (exfalso; omega) | (simp_all; done)
          · rfl
