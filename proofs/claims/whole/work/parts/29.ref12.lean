def lnO (m : Nat → Int32) : Nat := (m 1).toNatClampNeg
def ncO (m : Nat → Int32) : Nat := (m 11).toNatClampNeg
theorem lnO_of {m : Nat → Int32} {len : Nat} (h : m 1 = nI len) (h2 : len ≤ 40) : lnO m = len := by
  rw [lnO, h, nI_clamp (by omega)]
theorem ncO_of {m : Nat → Int32} {nc : Nat} (h : m 11 = nI nc) (h2 : nc ≤ 6) : ncO m = nc := by
  rw [ncO, h, nI_clamp (by omega)]
/-- what the causes that are on freeze at a cell, unheld -/
def frF (m : Nat → Int32) (len c : Nat) (w s cold : Int32) : Nat → Int32 := fun k => if m 10 >>> (nI k &&& 31) &&& 1 = 1 then frz m len k c w s cold else 0
def frT (m : Nat → Int32) (len nc c : Nat) (w s cold : Int32) : Int32 := sumN (frF m len c w s cold) nc
theorem frF_t {m : Nat → Int32} {len c k : Nat} {w s cold acc : Int32} (ha : acc = sumN (frF m len c w s cold) k) (h : m 10 >>> (nI k &&& 31) &&& 1 = 1) : acc + frz m len k c w s cold = sumN (frF m len c w s cold) (k + 1) := by
  show _ = sumN (frF m len c w s cold) k + frF m len c w s cold k
  rw [ha, frF, if_pos h]
theorem frF_f {m : Nat → Int32} {len c k : Nat} {w s cold acc : Int32} (ha : acc = sumN (frF m len c w s cold) k) (h : ¬ m 10 >>> (nI k &&& 31) &&& 1 = 1) : acc + 0 = sumN (frF m len c w s cold) (k + 1) := by
  show _ = sumN (frF m len c w s cold) k + frF m len c w s cold k
  rw [ha, frF, if_neg h]
def staysR (w s ice : Int32) : Int32 := if w = 0 then 0 else (s.toInt64 * ice.toInt64 / (2 * w.toInt64)).toInt32
theorem l2w_ne {w : Int32} (h : ¬ w = 0) : ¬ (2 : Int64) * w.toInt64 = 0 := by
  intro q
  have h1 : ((2 : Int64) * w.toInt64).toInt = 0 := by rw [q]; decide
  rw [Int64.toInt_mul, Int32.toInt_toInt64, show (2 : Int64).toInt = 2 by decide, Int.bmod_def] at h1
  have a := i_lo w
  have b := i_hi w
  apply h
  rw [i_eq, show (0 : Int32).toInt = 0 by decide]
  omega
abbrev GX : Type := (Nat → Int32) × Int32 × Int32
def gbS (cold : Int32) (len nc c : Nat) (x : GX) : GX := (upd (upd x.1 (100 + c) (held (x.1 (100 + c) + held (frT x.1 len nc c x.2.1 x.2.2 cold) 0 x.2.1) 0 99999)) (140 + c) (held (x.1 (140 + c) + staysR x.2.1 x.2.2 (held (frT x.1 len nc c x.2.1 x.2.2 cold) 0 x.2.1)) 0 999999), x.2.1 - held (frT x.1 len nc c x.2.1 x.2.2 cold) 0 x.2.1, x.2.2 - staysR x.2.1 x.2.2 (held (frT x.1 len nc c x.2.1 x.2.2 cold) 0 x.2.1))
theorem gbS_eq {cold : Int32} {len nc c : Nat} {mm : Nat → Int32} {wt st acc sy : Int32} (ha : acc = frT mm len nc c wt st cold) (hs : sy = staysR wt st (held acc 0 wt)) : gbS cold len nc c (mm, wt, st) = (upd (upd mm (100 + c) (held (mm (100 + c) + held acc 0 wt) 0 99999)) (140 + c) (held (mm (140 + c) + sy) 0 999999), wt - held acc 0 wt, st - sy) := by
  subst hs
  subst ha
  rfl
def gbL (cold : Int32) (len nc : Nat) : Nat → GX → GX
  | 0, x => x
  | c + 1, x => gbS cold len nc c (gbL cold len nc c x)
theorem gbL_s {cold : Int32} {len nc c : Nat} {x y z : GX} (h : gbL cold len nc c x = y) (h2 : gbS cold len nc c y = z) : gbL cold len nc (c + 1) x = z := by
  rw [gbL, h, h2]
def gbE (len : Nat) (x : GX) : Nat → Int32 := if ¬ x.2.1 ≤ 0 ∧ ¬ x.1 8 ≤ x.2.1 ∧ len < 40 then upd (upd (upd x.1 (100 + len) x.2.1) (140 + len) (held x.2.2 0 999999)) 1 (nI (len + 1)) else if ¬ x.2.1 ≤ 0 then upd (upd x.1 2 (x.1 2 + x.2.1)) 3 (x.1 3 + 1) else x.1
section GE
variable {len : Nat} {mm : Nat → Int32} {wt st : Int32}
theorem gbE_a (h1 : ¬ wt ≤ 0) (h2 : ¬ mm 8 ≤ wt) (h3 : len < 40) : gbE len (mm, wt, st) = upd (upd (upd mm (100 + len) wt) (140 + len) (held st 0 999999)) 1 (nI (len + 1)) := if_pos ⟨h1, h2, h3⟩
theorem gbE_b (h1 : ¬ wt ≤ 0) (h2 : mm 8 ≤ wt ∨ ¬ len < 40) : gbE len (mm, wt, st) = upd (upd mm 2 (mm 2 + wt)) 3 (mm 3 + 1) := (if_neg (fun q => h2.elim q.2.1 (fun z => z q.2.2))).trans (if_pos h1)
theorem gbE_c (h1 : wt ≤ 0) : gbE len (mm, wt, st) = mm := (if_neg (fun q => q.1 h1)).trans (if_neg (fun q => q h1))
end GE
def gbX (T : Nat → Nat → Int32) (tx : Nat → Nat) (m : Nat → Int32) : GX := gbL (cldR T tx m) (lnO m) (ncO m) (lnO m) (m, watR T tx m, watR T tx m * m 5)
/-- one tick -/
def gby (T : Nat → Nat → Int32) (tx : Nat → Nat) (m : Nat → Int32) : Nat → Int32 := upd (gbE (lnO m) (gbX T tx m)) 0 ((gbX T tx m).1 0 + 1)
theorem gby_eq {T : Nat → Nat → Int32} {tx : Nat → Nat} {m mm : Nat → Int32} {len nc : Nat} {wt st : Int32} (q1 : m 1 = nI len) (q3 : len ≤ 40) (q4 : m 11 = nI nc) (q5 : nc ≤ 6) (hL : gbL (cldR T tx m) len nc len (m, watR T tx m, watR T tx m * m 5) = (mm, wt, st)) : gby T tx m = upd (gbE len (mm, wt, st)) 0 (mm 0 + 1) := by
  unfold gby gbX
  rw [lnO_of q1 q3, ncO_of q4 q5, hL]
theorem gbL_off {cold : Int32} {len nc q : Nat} {x : GX} (hq : q < 100 ∨ 180 ≤ q) : ∀ c, c ≤ 40 → (gbL cold len nc c x).1 q = x.1 q := by
  intro c
  induction c with
  | zero => intro _; rfl
  | succ c ih =>
    intro hc
    rw [gbL, gbS]
    refine (pk_un (by omega)).trans ((pk_un (by omega)).trans (ih (by omega)))
theorem gby_off {T : Nat → Nat → Int32} {tx : Nat → Nat} {m : Nat → Int32} {len q : Nat} (q1 : m 1 = nI len) (q3 : len ≤ 40) (hq : 4 ≤ q ∧ q < 100 ∨ 180 ≤ q) : gby T tx m q = m q := by
  have hx := gbL_off (cold := cldR T tx m) (len := lnO m) (nc := ncO m) (q := q) (x := (m, watR T tx m, watR T tx m * m 5)) (by omega) (lnO m) (by rw [lnO_of q1 q3]; exact q3)
  have hl : lnO m ≤ 40 := by rw [lnO_of q1 q3]; exact q3
  unfold gby
  refine (pk_un (by omega)).trans ?_
  unfold gbE
  split
  · refine (pk_un (by omega)).trans ((pk_un (by omega)).trans ((pk_un (by omega)).trans hx))
  · split
    · refine (pk_un (by omega)).trans ((pk_un (by omega)).trans hx)
    · exact hx
theorem gby_1 {T : Nat → Nat → Int32} {tx : Nat → Nat} {m : Nat → Int32} {len : Nat} (q1 : m 1 = nI len) (q2 : 1 ≤ len) (q3 : len ≤ 40) : ∃ l2, gby T tx m 1 = nI l2 ∧ len ≤ l2 ∧ l2 ≤ 40 := by
  have hl : lnO m = len := lnO_of q1 q3
  have hx := gbL_off (cold := cldR T tx m) (len := lnO m) (nc := ncO m) (q := 1) (x := (m, watR T tx m, watR T tx m * m 5)) (by omega) (lnO m) (by rw [hl]; exact q3)
  have he : gby T tx m 1 = gbE (lnO m) (gbX T tx m) 1 := pk_un (by omega)
  rw [he]
  unfold gbE
  split
  · rename_i h
    refine ⟨len + 1, ?_, by omega, by rw [hl] at h; omega⟩
    rw [hl]
    exact pk_us
  · refine ⟨len, ?_, Nat.le_refl _, q3⟩
    split
    · refine (pk_un (by omega)).trans ((pk_un (by omega)).trans (hx.trans q1))
    · exact hx.trans q1
theorem gby_0 {T : Nat → Nat → Int32} {tx : Nat → Nat} {m : Nat → Int32} {len : Nat} (q1 : m 1 = nI len) (q3 : len ≤ 40) : gby T tx m 0 = m 0 + 1 := by
  have hl : lnO m = len := lnO_of q1 q3
  have hx := gbL_off (cold := cldR T tx m) (len := lnO m) (nc := ncO m) (q := 0) (x := (m, watR T tx m, watR T tx m * m 5)) (by omega) (lnO m) (by rw [hl]; exact q3)
  refine pk_us.trans ?_
  rw [show (gbX T tx m).1 0 = m 0 from hx]
theorem Tx_gby {T : Nat → Nat → Int32} {tx : Nat → Nat} {m : Nat → Int32} {len : Nat} (q1 : m 1 = nI len) (q3 : len ≤ 40) : Tx (gby T tx m) = Tx m := by
  funext u i
  exact gby_off q1 q3 (by omega)
set_option maxHeartbeats 4000000 in
set_option maxRecDepth 100000 in
theorem r_goesBy_e {κ : Wc} {l : Launch} {h : Mm} {n : Nat} {o : Nat} {d : Nat → Int32} {m : Nat → Int32} {nm : Nat → Int32} {len : Nat} {nc : Nat} {tx : Nat → Nat} {im : Int32} {ba : Int32} {at_ : Int32} {sz : Int32} {fa : Int32} {op : Int32} {rm : Int32} {ti : Int32} {tm : Int32} {wh : Int32} (K0 : h o = some (.inr (12, [.ref (o + 1), .ref (o + 2), .ref (o + 3), .int im, .ref (o + 4), .int ba, .int at_, .int sz, .int fa, .int op, .ref (o + 5), .ref (o + 6), .int rm, .ref (o + 7), .ref (o + 8), .int ti, .ref (o + 9), .int tm, .int wh, .ref (o + 10), .ref (o + 11), .ref (o + 12), .ref (o + 13)]))) (K1 : h (o + 1) = arI κ 340 d) (K2 : h (o + 2) = arI κ 340 m) (K3 : h (o + 5) = arI κ 3 nm) (q8 : ∀ u, u < 2 → d (60 + u) = nI (tx u) ∧ tx u ≤ 50) (q1 : m 1 = nI len) (q2 : 1 ≤ len) (q3 : len ≤ 40) (q4 : m 11 = nI nc) (q5 : nc ≤ 6) : Con κ l yX12_goesBy cX12_goesBy 9 none 42 0 0 [.ref o, .ref (o + 2)] h n (fun q h' n' => ∃ ba' : Int32, ∃ at' : Int32, ∃ sz' : Int32, ∃ fa' : Int32, ∃ op' : Int32, ∃ nm' : Nat → Int32, q = none ∧ h' = va_up (va_up (va_up h o (some (.inr (12, [.ref (o + 1), .ref (o + 2), .ref (o + 3), .int im, .ref (o + 4), .int ba', .int at', .int sz', .int fa', .int op', .ref (o + 5), .ref (o + 6), .int rm, .ref (o + 7), .ref (o + 8), .int ti, .ref (o + 9), .int tm, .int wh, .ref (o + 10), .ref (o + 11), .ref (o + 12), .ref (o + 13)])))) (o + 5) (arI κ 3 nm')) (o + 2) (arI κ 340 (gby (Tx d) tx m)) ∧ n' = n) := by
  refine Con.of mk_X12_goesBy (Nat.le_of_ble_eq_true rfl) (fun G hG X E => ?_)
  subst hG
  refine z_ls (ls' := [(0, .ref o), (1, .ref (o + 2))]) rfl ?_
  refine z_aload_n X 0 dX12_goesBy_0 rfl ?_
  refine z_iconst (v := 0) X dX12_goesBy_1 (by decide) ?_
  refine z_aload_n X 1 dX12_goesBy_2 rfl ?_
  refine z_iconst (v := 0) X dX12_goesBy_3 (by decide) ?_
  refine z_iald2 (v := m 0) X dX12_goesBy_4 K2 (vp_in_nI (n := 0) (by omega) (by omega)) (congrArg m (nI_clamp (n := 0) (by omega))) ?_
  refine z_aload_n X 1 dX12_goesBy_5 rfl ?_
  refine z_iconst (v := 4) X dX12_goesBy_6 (by decide) ?_
  refine z_iald2 (v := m 4) X dX12_goesBy_7 K2 (vp_in_nI (n := 4) (by omega) (by omega)) (congrArg m (nI_clamp (n := 4) (by omega))) ?_
  refine z_aload_n X 1 dX12_goesBy_8 rfl ?_
  refine z_bipush (v := 6) X dX12_goesBy_9 (by decide) ?_
  refine z_iald2 (v := m 6) X dX12_goesBy_11 K2 (vp_in_nI (n := 6) (by omega) (by omega)) (congrArg m (nI_clamp (n := 6) (by omega))) ?_
  refine z_aload_n X 1 dX12_goesBy_12 rfl ?_
  refine z_iconst (v := 4) X dX12_goesBy_13 (by decide) ?_
  refine z_iald2 (v := m 4) X dX12_goesBy_14 K2 (vp_in_nI (n := 4) (by omega) (by omega)) (congrArg m (nI_clamp (n := 4) (by omega))) ?_
  refine z_callV X (r_gives (κ := κ) (n := n) (o := (o)) (u := (0)) (t := (m 0)) (w := (m 4)) (c := (m 6)) (wo := (m 4)) (d := (d)) (nm := (nm)) (im := (im)) (ba := (ba)) (at_ := (at_)) (sz := (sz)) (fa := (fa)) (op := (op)) (rm := (rm)) (ti := (ti)) (tm := (tm)) (wh := (wh)) K0 K1 K3 (by first | assumption | omega) (by first | assumption | omega)) mk_X12_gives dX12_goesBy_15 wd_1084 wd_1086 wd_27 rfl K0 rfl rfl rfl (Nat.le_of_ble_eq_true rfl) (Nat.le_of_ble_eq_true rfl) (Nat.le_of_ble_eq_true rfl) (by omega) (by omega) (fun q zh7 zm9 zp10 => ?_)
  obtain ⟨ba'1, at'2, sz'3, fa'4, op'5, nm'6, rfl, ze8, zn11⟩ := zp10
  subst zm9
  refine z_st (st' := [.int (gv (Tx d) tx 0 (m 0) (m 4) (m 6) (m 4))]) rfl ?_
  have zK12 : zh7 o = some (.inr (12, [.ref (o + 1), .ref (o + 2), .ref (o + 3), .int im, .ref (o + 4), .int ba'1, .int at'2, .int sz'3, .int fa'4, .int op'5, .ref (o + 5), .ref (o + 6), .int rm, .ref (o + 7), .ref (o + 8), .int ti, .ref (o + 9), .int tm, .int wh, .ref (o + 10), .ref (o + 11), .ref (o + 12), .ref (o + 13)])) := by rw [ze8]; rw [va_up_ne _ _ (show o ≠ o + 5 by omega)]; exact va_up_self _ _ _
  have zK13 : zh7 (o + 1) = arI κ 340 d := by rw [ze8]; rw [va_up_ne _ _ (show o + 1 ≠ o + 5 by omega)]; rw [va_up_ne _ _ (show o + 1 ≠ o by omega)]; exact K1
  have zK14 : zh7 (o + 2) = arI κ 340 m := by rw [ze8]; rw [va_up_ne _ _ (show o + 2 ≠ o + 5 by omega)]; rw [va_up_ne _ _ (show o + 2 ≠ o by omega)]; exact K2
  have zK15 : zh7 (o + 5) = arI κ 3 nm'6 := by rw [ze8]; exact va_up_self _ _ _
  refine z_iconst (v := 0) X dX12_goesBy_18 (by decide) ?_
  refine z_sipush (v := 9999) X dX12_goesBy_19 (by decide) ?_
  refine z_callS X (r_held (κ := κ) (n := n) (v := (gv (Tx d) tx 0 (m 0) (m 4) (m 6) (m 4))) (lo := (0)) (hi := (9999))  ) mk_X12_held dX12_goesBy_22 wd_1134 wd_1135 rfl rfl (Nat.le_of_ble_eq_true rfl) (Nat.le_of_ble_eq_true rfl) (Nat.le_of_ble_eq_true rfl) (by omega) (by omega) (fun q zh16 zm18 zp19 => ?_)
  obtain ⟨rfl, ze17, zn20⟩ := zp19
  subst zm18
  subst zh16
  refine z_st (st' := [.int (held (gv (Tx d) tx 0 (m 0) (m 4) (m 6) (m 4)) 0 9999)]) rfl ?_
  refine z_istore_n (ls' := [(2, .int (held (gv (Tx d) tx 0 (m 0) (m 4) (m 6) (m 4)) 0 9999)), (0, .ref o), (1, .ref (o + 2))]) X dX12_goesBy_25 (by decide) rfl ?_
  refine z_aload_n X 1 dX12_goesBy_26 rfl ?_
  refine z_aload_n X 2 dX12_goesBy_27 rfl ?_
  refine z_callV X (r_coldOf (κ := κ) (n := n) (o := (o)) (a := (o + 2)) (d := (d)) (m := (m)) (nm := (nm'6)) (im := (im)) (ba := (ba'1)) (at_ := (at'2)) (sz := (sz'3)) (fa := (fa'4)) (op := (op'5)) (rm := (rm)) (ti := (ti)) (tm := (tm)) (wh := (wh)) zK12 zK13 zK15 zK14 (by first | assumption | omega) (Or.inr rfl)) mk_X12_coldOf dX12_goesBy_28 wd_1080 wd_1082 wd_26 rfl zK12 rfl rfl rfl (Nat.le_of_ble_eq_true rfl) (Nat.le_of_ble_eq_true rfl) (Nat.le_of_ble_eq_true rfl) (by omega) (by omega) (fun q zh27 zm29 zp30 => ?_)
  obtain ⟨ba'21, at'22, sz'23, fa'24, op'25, nm'26, rfl, ze28, zn31⟩ := zp30
  subst zm29
  refine z_st (st' := [.int (cldR (Tx d) tx m)]) rfl ?_
  have zK32 : zh27 o = some (.inr (12, [.ref (o + 1), .ref (o + 2), .ref (o + 3), .int im, .ref (o + 4), .int ba'21, .int at'22, .int sz'23, .int fa'24, .int op'25, .ref (o + 5), .ref (o + 6), .int rm, .ref (o + 7), .ref (o + 8), .int ti, .ref (o + 9), .int tm, .int wh, .ref (o + 10), .ref (o + 11), .ref (o + 12), .ref (o + 13)])) := by rw [ze28]; rw [va_up_ne _ _ (show o ≠ o + 5 by omega)]; exact va_up_self _ _ _
  have zK33 : zh27 (o + 1) = arI κ 340 d := by rw [ze28]; rw [va_up_ne _ _ (show o + 1 ≠ o + 5 by omega)]; rw [va_up_ne _ _ (show o + 1 ≠ o by omega)]; exact zK13
  have zK34 : zh27 (o + 2) = arI κ 340 m := by rw [ze28]; rw [va_up_ne _ _ (show o + 2 ≠ o + 5 by omega)]; rw [va_up_ne _ _ (show o + 2 ≠ o by omega)]; exact zK14
  have zK35 : zh27 (o + 5) = arI κ 3 nm'26 := by rw [ze28]; exact va_up_self _ _ _
  refine z_istore_n (ls' := [(3, .int (cldR (Tx d) tx m)), (2, .int (held (gv (Tx d) tx 0 (m 0) (m 4) (m 6) (m 4)) 0 9999)), (0, .ref o), (1, .ref (o + 2))]) X dX12_goesBy_31 (by decide) rfl ?_
  refine z_iload_n X 1 dX12_goesBy_32 rfl ?_
  refine z_aload_n X 3 dX12_goesBy_33 rfl ?_
  refine z_iconst (v := 5) X dX12_goesBy_34 (by decide) ?_
  refine z_iald2 (v := m 5) X dX12_goesBy_35 zK34 (vp_in_nI (n := 5) (by omega) (by omega)) (congrArg m (nI_clamp (n := 5) (by omega))) ?_
  refine z_imul X dX12_goesBy_36 ?_
  refine z_istore (ls' := [(4, .int ((held (gv (Tx d) tx 0 (m 0) (m 4) (m 6) (m 4)) 0 9999) * (m 5))), (3, .int (cldR (Tx d) tx m)), (2, .int (held (gv (Tx d) tx 0 (m 0) (m 4) (m 6) (m 4)) 0 9999)), (0, .ref o), (1, .ref (o + 2))]) X dX12_goesBy_37 (by decide) rfl ?_
  refine z_iconst (v := 0) X dX12_goesBy_39 (by decide) ?_
  refine z_istore (ls' := [(5, .int 0), (4, .int ((held (gv (Tx d) tx 0 (m 0) (m 4) (m 6) (m 4)) 0 9999) * (m 5))), (3, .int (cldR (Tx d) tx m)), (2, .int (held (gv (Tx d) tx 0 (m 0) (m 4) (m 6) (m 4)) 0 9999)), (0, .ref o), (1, .ref (o + 2))]) X dX12_goesBy_40 (by decide) rfl ?_
  have L42 : ∀ (jj : Nat) (hh42 : Mm)  (c : Nat) (mm : Nat → Int32) (wt : Int32) (st : Int32), (len - c < jj) → (hh42 = va_up (va_up (va_up h o (some (.inr (12, [.ref (o + 1), .ref (o + 2), .ref (o + 3), .int im, .ref (o + 4), .int ba'21, .int at'22, .int sz'23, .int fa'24, .int op'25, .ref (o + 5), .ref (o + 6), .int rm, .ref (o + 7), .ref (o + 8), .int ti, .ref (o + 9), .int tm, .int wh, .ref (o + 10), .ref (o + 11), .ref (o + 12), .ref (o + 13)])))) (o + 5) (arI κ 3 nm'26)) (o + 2) (arI κ 340 mm)) → (hc : c ≤ len) → (hm1 : mm 1 = nI len) → (hm11 : mm 11 = nI nc) → (hL : gbL (cldR (Tx d) tx m) len nc c (m, watR (Tx d) tx m, watR (Tx d) tx m * m 5) = (mm, wt, st)) → Z κ G 9 42 [(0, .ref o), (1, .ref (o + 2)), (2, .int wt), (3, .int (cldR (Tx d) tx m)), (4, .int st), (5, .int (nI c))] [] hh42 n 0 (0) := by
    intro jj
    induction jj with
    | zero => intro hh42 c mm wt st hmu; exact absurd hmu (Nat.not_lt_zero _)
    | succ jj ih42 =>
      intro hh42 c mm wt st hmu he42 hc hm1 hm11 hL
      have zK36 : hh42 o = some (.inr (12, [.ref (o + 1), .ref (o + 2), .ref (o + 3), .int im, .ref (o + 4), .int ba'21, .int at'22, .int sz'23, .int fa'24, .int op'25, .ref (o + 5), .ref (o + 6), .int rm, .ref (o + 7), .ref (o + 8), .int ti, .ref (o + 9), .int tm, .int wh, .ref (o + 10), .ref (o + 11), .ref (o + 12), .ref (o + 13)])) := by rw [he42]; rw [va_up_ne _ _ (show o ≠ o + 2 by omega)]; rw [va_up_ne _ _ (show o ≠ o + 5 by omega)]; exact va_up_self _ _ _
      have zK37 : hh42 (o + 1) = arI κ 340 d := by rw [he42]; rw [va_up_ne _ _ (show o + 1 ≠ o + 2 by omega)]; rw [va_up_ne _ _ (show o + 1 ≠ o + 5 by omega)]; rw [va_up_ne _ _ (show o + 1 ≠ o by omega)]; exact K1
      have zK38 : hh42 (o + 2) = arI κ 340 mm := by rw [he42]; exact va_up_self _ _ _
      have zK39 : hh42 (o + 5) = arI κ 3 nm'26 := by rw [he42]; rw [va_up_ne _ _ (show o + 5 ≠ o + 2 by omega)]; exact va_up_self _ _ _
      refine z_iload X 5 dX12_goesBy_42 rfl ?_
      refine z_aload_n X 1 dX12_goesBy_44 rfl ?_
      refine z_iconst (v := 1) X dX12_goesBy_45 (by decide) ?_
      refine z_iald2 (v := mm 1) X dX12_goesBy_46 zK38 (vp_in_nI (n := 1) (by omega) (by omega)) (congrArg mm (nI_clamp (n := 1) (by omega))) ?_
      refine z_toe (y := nI len) (hm1) ?_
      refine z_icmp_ge X 205 dX12_goesBy_47 (by decide) (fun zc40 => ?_) (fun zc40 => ?_)
      · try replace zc40 := (nI_leI (a := len) (b := c) (by omega) (by omega)).mp zc40
        refine z_iload_n X 2 dX12_goesBy_205 rfl ?_
        refine z_if_le X 261 dX12_goesBy_206 (by decide) (fun zc41 => ?_) (fun zc41 => ?_)
        · refine z_iload_n X 2 dX12_goesBy_261 rfl ?_
          refine z_if_le X 279 dX12_goesBy_262 (by decide) (fun zc42 => ?_) (fun zc42 => ?_)
          · refine z_aload_n X 1 dX12_goesBy_279 rfl ?_
            refine z_iconst (v := 0) X dX12_goesBy_280 (by decide) ?_
            refine z_dup2 X dX12_goesBy_281 rfl rfl ?_
            refine z_iald2 (v := mm 0) X dX12_goesBy_282 zK38 (vp_in_nI (n := 0) (by omega) (by omega)) (congrArg mm (nI_clamp (n := 0) (by omega))) ?_
            refine z_iconst (v := 1) X dX12_goesBy_283 (by decide) ?_
            refine z_iadd X dX12_goesBy_284 ?_
            refine z_iast X dX12_goesBy_285 zK38 (vp_in_nI (n := 0) (by omega) (by omega)) (congrArg (fun z => va_up hh42 (o + 2) (arI κ 340 (upd mm z ((mm 0) + 1)))) (nI_clamp (n := 0) (by omega))) ?_
            obtain ⟨zh43, ze44⟩ : ∃ z : Mm, z = va_up hh42 (o + 2) (arI κ 340 (upd mm 0 ((mm 0) + 1))) := ⟨_, rfl⟩
            refine z_heap (h' := zh43) ze44.symm ?_
            have zK45 := up_off ze44 (show o ≠ o + 2 by omega) zK36
            have zK46 := up_off ze44 (show o + 1 ≠ o + 2 by omega) zK37
            have zK47 := up_at ze44
            have zK48 := up_off ze44 (show o + 5 ≠ o + 2 by omega) zK39
            refine z_vret X E dX12_goesBy_286 (by omega) (by omega) ⟨ba'21, at'22, sz'23, fa'24, op'25, nm'26, ?_, ?_, ?_⟩
            · rfl
            · (have hcl : c = len := by omega); rw [hcl] at hL; rw [gby_eq q1 q3 q4 q5 hL]; (first | rw [gbE_a (by assumption) (by assumption) (by omega)] | rw [gbE_b (by assumption) (Or.inl (by assumption))] | rw [gbE_b (by assumption) (Or.inr (by omega))] | rw [gbE_c (by assumption)]); rw [ze44, he42]; funext zz; simp only [va_up]; (repeat' split) <;> first | rfl | (exfalso; omega) | (simp_all; done)
            · rfl
          · first | exact absurd zc42 zc41 | exact absurd zc41 zc42 | (exfalso; omega) | (exfalso; simp only [i_eq, i_lt, i_le] at *; omega)
        · refine z_iload_n X 2 dX12_goesBy_209 rfl ?_
          refine z_aload_n X 1 dX12_goesBy_210 rfl ?_
          refine z_bipush (v := 8) X dX12_goesBy_211 (by decide) ?_
          refine z_iald2 (v := mm 8) X dX12_goesBy_213 zK38 (vp_in_nI (n := 8) (by omega) (by omega)) (congrArg mm (nI_clamp (n := 8) (by omega))) ?_
          refine z_icmp_ge X 261 dX12_goesBy_214 (by decide) (fun zc49 => ?_) (fun zc49 => ?_)
          · refine z_iload_n X 2 dX12_goesBy_261 rfl ?_
            refine z_if_le X 279 dX12_goesBy_262 (by decide) (fun zc50 => ?_) (fun zc50 => ?_)
            · first | exact absurd zc50 zc41 | exact absurd zc41 zc50 | (exfalso; omega) | (exfalso; simp only [i_eq, i_lt, i_le] at *; omega)
            · refine z_aload_n X 1 dX12_goesBy_265 rfl ?_
              refine z_iconst (v := 2) X dX12_goesBy_266 (by decide) ?_
              refine z_dup2 X dX12_goesBy_267 rfl rfl ?_
              refine z_iald2 (v := mm 2) X dX12_goesBy_268 zK38 (vp_in_nI (n := 2) (by omega) (by omega)) (congrArg mm (nI_clamp (n := 2) (by omega))) ?_
              refine z_iload_n X 2 dX12_goesBy_269 rfl ?_
              refine z_iadd X dX12_goesBy_270 ?_
              refine z_iast X dX12_goesBy_271 zK38 (vp_in_nI (n := 2) (by omega) (by omega)) (congrArg (fun z => va_up hh42 (o + 2) (arI κ 340 (upd mm z ((mm 2) + wt)))) (nI_clamp (n := 2) (by omega))) ?_
              obtain ⟨zh51, ze52⟩ : ∃ z : Mm, z = va_up hh42 (o + 2) (arI κ 340 (upd mm 2 ((mm 2) + wt))) := ⟨_, rfl⟩
              refine z_heap (h' := zh51) ze52.symm ?_
              have zK53 := up_off ze52 (show o ≠ o + 2 by omega) zK36
              have zK54 := up_off ze52 (show o + 1 ≠ o + 2 by omega) zK37
              have zK55 := up_at ze52
              have zK56 := up_off ze52 (show o + 5 ≠ o + 2 by omega) zK39
              refine z_aload_n X 1 dX12_goesBy_272 rfl ?_
              refine z_iconst (v := 3) X dX12_goesBy_273 (by decide) ?_
              refine z_dup2 X dX12_goesBy_274 rfl rfl ?_
              refine z_iald2 (v := mm 3) X dX12_goesBy_275 zK55 (vp_in_nI (n := 3) (by omega) (by omega)) ((congrArg (upd mm 2 ((mm 2) + wt)) (nI_clamp (n := 3) (by omega))).trans (pk_un (show 3 ≠ 2 by omega))) ?_
              refine z_iconst (v := 1) X dX12_goesBy_276 (by decide) ?_
              refine z_iadd X dX12_goesBy_277 ?_
              refine z_iast X dX12_goesBy_278 zK55 (vp_in_nI (n := 3) (by omega) (by omega)) (congrArg (fun z => va_up zh51 (o + 2) (arI κ 340 (upd (upd mm 2 ((mm 2) + wt)) z ((mm 3) + 1)))) (nI_clamp (n := 3) (by omega))) ?_
              obtain ⟨zh57, ze58⟩ : ∃ z : Mm, z = va_up zh51 (o + 2) (arI κ 340 (upd (upd mm 2 ((mm 2) + wt)) 3 ((mm 3) + 1))) := ⟨_, rfl⟩
              refine z_heap (h' := zh57) ze58.symm ?_
              have zK59 := up_off ze58 (show o ≠ o + 2 by omega) zK53
              have zK60 := up_off ze58 (show o + 1 ≠ o + 2 by omega) zK54
              have zK61 := up_at ze58
              have zK62 := up_off ze58 (show o + 5 ≠ o + 2 by omega) zK56
              refine z_aload_n X 1 dX12_goesBy_279 rfl ?_
              refine z_iconst (v := 0) X dX12_goesBy_280 (by decide) ?_
              refine z_dup2 X dX12_goesBy_281 rfl rfl ?_
              refine z_iald2 (v := mm 0) X dX12_goesBy_282 zK61 (vp_in_nI (n := 0) (by omega) (by omega)) (((congrArg (upd (upd mm 2 ((mm 2) + wt)) 3 ((mm 3) + 1)) (nI_clamp (n := 0) (by omega))).trans (pk_un (show 0 ≠ 3 by omega))).trans (pk_un (show 0 ≠ 2 by omega))) ?_
              refine z_iconst (v := 1) X dX12_goesBy_283 (by decide) ?_
              refine z_iadd X dX12_goesBy_284 ?_
              refine z_iast X dX12_goesBy_285 zK61 (vp_in_nI (n := 0) (by omega) (by omega)) (congrArg (fun z => va_up zh57 (o + 2) (arI κ 340 (upd (upd (upd mm 2 ((mm 2) + wt)) 3 ((mm 3) + 1)) z ((mm 0) + 1)))) (nI_clamp (n := 0) (by omega))) ?_
              obtain ⟨zh63, ze64⟩ : ∃ z : Mm, z = va_up zh57 (o + 2) (arI κ 340 (upd (upd (upd mm 2 ((mm 2) + wt)) 3 ((mm 3) + 1)) 0 ((mm 0) + 1))) := ⟨_, rfl⟩
              refine z_heap (h' := zh63) ze64.symm ?_
              have zK65 := up_off ze64 (show o ≠ o + 2 by omega) zK59
              have zK66 := up_off ze64 (show o + 1 ≠ o + 2 by omega) zK60
              have zK67 := up_at ze64
              have zK68 := up_off ze64 (show o + 5 ≠ o + 2 by omega) zK62
              refine z_vret X E dX12_goesBy_286 (by omega) (by omega) ⟨ba'21, at'22, sz'23, fa'24, op'25, nm'26, ?_, ?_, ?_⟩
              · rfl
              · (have hcl : c = len := by omega); rw [hcl] at hL; rw [gby_eq q1 q3 q4 q5 hL]; (first | rw [gbE_a (by assumption) (by assumption) (by omega)] | rw [gbE_b (by assumption) (Or.inl (by assumption))] | rw [gbE_b (by assumption) (Or.inr (by omega))] | rw [gbE_c (by assumption)]); rw [ze64, ze58, ze52, he42]; funext zz; simp only [va_up]; (repeat' split) <;> first | rfl | (exfalso; omega) | (simp_all; done)
              · rfl
          · refine z_aload_n X 1 dX12_goesBy_217 rfl ?_
            refine z_iconst (v := 1) X dX12_goesBy_218 (by decide) ?_
            refine z_iald2 (v := mm 1) X dX12_goesBy_219 zK38 (vp_in_nI (n := 1) (by omega) (by omega)) (congrArg mm (nI_clamp (n := 1) (by omega))) ?_
            refine z_toe (y := nI len) (hm1) ?_
            refine z_bipush (v := 40) X dX12_goesBy_220 (by decide) ?_
            refine z_icmp_ge X 261 dX12_goesBy_222 (by decide) (fun zc69 => ?_) (fun zc69 => ?_)
            · try replace zc69 := (nI_leI (a := 40) (b := len) (by omega) (by omega)).mp zc69
              refine z_iload_n X 2 dX12_goesBy_261 rfl ?_
              refine z_if_le X 279 dX12_goesBy_262 (by decide) (fun zc70 => ?_) (fun zc70 => ?_)
              · first | exact absurd zc70 zc41 | exact absurd zc41 zc70 | (exfalso; omega) | (exfalso; simp only [i_eq, i_lt, i_le] at *; omega)
              · refine z_aload_n X 1 dX12_goesBy_265 rfl ?_
                refine z_iconst (v := 2) X dX12_goesBy_266 (by decide) ?_
                refine z_dup2 X dX12_goesBy_267 rfl rfl ?_
                refine z_iald2 (v := mm 2) X dX12_goesBy_268 zK38 (vp_in_nI (n := 2) (by omega) (by omega)) (congrArg mm (nI_clamp (n := 2) (by omega))) ?_
                refine z_iload_n X 2 dX12_goesBy_269 rfl ?_
                refine z_iadd X dX12_goesBy_270 ?_
                refine z_iast X dX12_goesBy_271 zK38 (vp_in_nI (n := 2) (by omega) (by omega)) (congrArg (fun z => va_up hh42 (o + 2) (arI κ 340 (upd mm z ((mm 2) + wt)))) (nI_clamp (n := 2) (by omega))) ?_
                obtain ⟨zh71, ze72⟩ : ∃ z : Mm, z = va_up hh42 (o + 2) (arI κ 340 (upd mm 2 ((mm 2) + wt))) := ⟨_, rfl⟩
                refine z_heap (h' := zh71) ze72.symm ?_
                have zK73 := up_off ze72 (show o ≠ o + 2 by omega) zK36
                have zK74 := up_off ze72 (show o + 1 ≠ o + 2 by omega) zK37
                have zK75 := up_at ze72
                have zK76 := up_off ze72 (show o + 5 ≠ o + 2 by omega) zK39
                refine z_aload_n X 1 dX12_goesBy_272 rfl ?_
                refine z_iconst (v := 3) X dX12_goesBy_273 (by decide) ?_
                refine z_dup2 X dX12_goesBy_274 rfl rfl ?_
                refine z_iald2 (v := mm 3) X dX12_goesBy_275 zK75 (vp_in_nI (n := 3) (by omega) (by omega)) ((congrArg (upd mm 2 ((mm 2) + wt)) (nI_clamp (n := 3) (by omega))).trans (pk_un (show 3 ≠ 2 by omega))) ?_
                refine z_iconst (v := 1) X dX12_goesBy_276 (by decide) ?_
                refine z_iadd X dX12_goesBy_277 ?_
                refine z_iast X dX12_goesBy_278 zK75 (vp_in_nI (n := 3) (by omega) (by omega)) (congrArg (fun z => va_up zh71 (o + 2) (arI κ 340 (upd (upd mm 2 ((mm 2) + wt)) z ((mm 3) + 1)))) (nI_clamp (n := 3) (by omega))) ?_
                obtain ⟨zh77, ze78⟩ : ∃ z : Mm, z = va_up zh71 (o + 2) (arI κ 340 (upd (upd mm 2 ((mm 2) + wt)) 3 ((mm 3) + 1))) := ⟨_, rfl⟩
                refine z_heap (h' := zh77) ze78.symm ?_
                have zK79 := up_off ze78 (show o ≠ o + 2 by omega) zK73
                have zK80 := up_off ze78 (show o + 1 ≠ o + 2 by omega) zK74
                have zK81 := up_at ze78
                have zK82 := up_off ze78 (show o + 5 ≠ o + 2 by omega) zK76
                refine z_aload_n X 1 dX12_goesBy_279 rfl ?_
                refine z_iconst (v := 0) X dX12_goesBy_280 (by decide) ?_
                refine z_dup2 X dX12_goesBy_281 rfl rfl ?_
                refine z_iald2 (v := mm 0) X dX12_goesBy_282 zK81 (vp_in_nI (n := 0) (by omega) (by omega)) (((congrArg (upd (upd mm 2 ((mm 2) + wt)) 3 ((mm 3) + 1)) (nI_clamp (n := 0) (by omega))).trans (pk_un (show 0 ≠ 3 by omega))).trans (pk_un (show 0 ≠ 2 by omega))) ?_
                refine z_iconst (v := 1) X dX12_goesBy_283 (by decide) ?_
                refine z_iadd X dX12_goesBy_284 ?_
                refine z_iast X dX12_goesBy_285 zK81 (vp_in_nI (n := 0) (by omega) (by omega)) (congrArg (fun z => va_up zh77 (o + 2) (arI κ 340 (upd (upd (upd mm 2 ((mm 2) + wt)) 3 ((mm 3) + 1)) z ((mm 0) + 1)))) (nI_clamp (n := 0) (by omega))) ?_
                obtain ⟨zh83, ze84⟩ : ∃ z : Mm, z = va_up zh77 (o + 2) (arI κ 340 (upd (upd (upd mm 2 ((mm 2) + wt)) 3 ((mm 3) + 1)) 0 ((mm 0) + 1))) := ⟨_, rfl⟩
                refine z_heap (h' := zh83) ze84.symm ?_
                have zK85 := up_off ze84 (show o ≠ o + 2 by omega) zK79
                have zK86 := up_off ze84 (show o + 1 ≠ o + 2 by omega) zK80
                have zK87 := up_at ze84
                have zK88 := up_off ze84 (show o + 5 ≠ o + 2 by omega) zK82
                refine z_vret X E dX12_goesBy_286 (by omega) (by omega) ⟨ba'21, at'22, sz'23, fa'24, op'25, nm'26, ?_, ?_, ?_⟩
                · rfl
                · (have hcl : c = len := by omega); rw [hcl] at hL; rw [gby_eq q1 q3 q4 q5 hL]; (first | rw [gbE_a (by assumption) (by assumption) (by omega)] | rw [gbE_b (by assumption) (Or.inl (by assumption))] | rw [gbE_b (by assumption) (Or.inr (by omega))] | rw [gbE_c (by assumption)]); rw [ze84, ze78, ze72, he42]; funext zz; simp only [va_up]; (repeat' split) <;> first | rfl | (exfalso; omega) | (simp_all; done)
                · rfl
            · try replace zc69 := mt (nI_leI (a := 40) (b := len) (by omega) (by omega)).mpr zc69
              refine z_aload_n X 1 dX12_goesBy_225 rfl ?_
              refine z_bipush (v := 100) X dX12_goesBy_226 (by decide) ?_
              refine z_aload_n X 1 dX12_goesBy_228 rfl ?_
              refine z_iconst (v := 1) X dX12_goesBy_229 (by decide) ?_
              refine z_iald2 (v := mm 1) X dX12_goesBy_230 zK38 (vp_in_nI (n := 1) (by omega) (by omega)) (congrArg mm (nI_clamp (n := 1) (by omega))) ?_
              refine z_toe (y := nI len) (hm1) ?_
              refine z_iadd X dX12_goesBy_231 ?_
              refine z_toe (y := nI (100 + len)) (nI_add (100) (len)) ?_
              refine z_iload_n X 2 dX12_goesBy_232 rfl ?_
              refine z_iast X dX12_goesBy_233 zK38 (vp_in_nI (n := 100 + len) (by omega) (by omega)) (congrArg (fun z => va_up hh42 (o + 2) (arI κ 340 (upd mm z wt))) (nI_clamp (n := 100 + len) (by omega))) ?_
              obtain ⟨zh89, ze90⟩ : ∃ z : Mm, z = va_up hh42 (o + 2) (arI κ 340 (upd mm (100 + len) wt)) := ⟨_, rfl⟩
              refine z_heap (h' := zh89) ze90.symm ?_
              have zK91 := up_off ze90 (show o ≠ o + 2 by omega) zK36
              have zK92 := up_off ze90 (show o + 1 ≠ o + 2 by omega) zK37
              have zK93 := up_at ze90
              have zK94 := up_off ze90 (show o + 5 ≠ o + 2 by omega) zK39
              refine z_aload_n X 1 dX12_goesBy_234 rfl ?_
              refine z_sipush (v := 140) X dX12_goesBy_235 (by decide) ?_
              refine z_aload_n X 1 dX12_goesBy_238 rfl ?_
              refine z_iconst (v := 1) X dX12_goesBy_239 (by decide) ?_
              refine z_iald2 (v := mm 1) X dX12_goesBy_240 zK93 (vp_in_nI (n := 1) (by omega) (by omega)) ((congrArg (upd mm (100 + len) wt) (nI_clamp (n := 1) (by omega))).trans (pk_un (show 1 ≠ 100 + len by omega))) ?_
              refine z_toe (y := nI len) (hm1) ?_
              refine z_iadd X dX12_goesBy_241 ?_
              refine z_toe (y := nI (140 + len)) (nI_add (140) (len)) ?_
              refine z_iload X 4 dX12_goesBy_242 rfl ?_
              refine z_iconst (v := 0) X dX12_goesBy_244 (by decide) ?_
              refine z_ldc X dX12_goesBy_245 wd_1168 ?_
              refine z_callS X (r_held (κ := κ) (n := n) (v := (st)) (lo := (0)) (hi := (999999))  ) mk_X12_held dX12_goesBy_247 wd_1134 wd_1135 rfl rfl (Nat.le_of_ble_eq_true rfl) (Nat.le_of_ble_eq_true rfl) (Nat.le_of_ble_eq_true rfl) (by omega) (by omega) (fun q zh95 zm97 zp98 => ?_)
              obtain ⟨rfl, ze96, zn99⟩ := zp98
              subst zm97
              subst zh95
              refine z_st (st' := [.int (held st 0 999999), .int (nI (140 + len)), .ref (o + 2)]) rfl ?_
              refine z_iast X dX12_goesBy_250 zK93 (vp_in_nI (n := 140 + len) (by omega) (by omega)) (congrArg (fun z => va_up zh89 (o + 2) (arI κ 340 (upd (upd mm (100 + len) wt) z (held st 0 999999)))) (nI_clamp (n := 140 + len) (by omega))) ?_
              obtain ⟨zh100, ze101⟩ : ∃ z : Mm, z = va_up zh89 (o + 2) (arI κ 340 (upd (upd mm (100 + len) wt) (140 + len) (held st 0 999999))) := ⟨_, rfl⟩
              refine z_heap (h' := zh100) ze101.symm ?_
              have zK102 := up_off ze101 (show o ≠ o + 2 by omega) zK91
              have zK103 := up_off ze101 (show o + 1 ≠ o + 2 by omega) zK92
              have zK104 := up_at ze101
              have zK105 := up_off ze101 (show o + 5 ≠ o + 2 by omega) zK94
              refine z_aload_n X 1 dX12_goesBy_251 rfl ?_
              refine z_iconst (v := 1) X dX12_goesBy_252 (by decide) ?_
              refine z_dup2 X dX12_goesBy_253 rfl rfl ?_
              refine z_iald2 (v := mm 1) X dX12_goesBy_254 zK104 (vp_in_nI (n := 1) (by omega) (by omega)) (((congrArg (upd (upd mm (100 + len) wt) (140 + len) (held st 0 999999)) (nI_clamp (n := 1) (by omega))).trans (pk_un (show 1 ≠ 140 + len by omega))).trans (pk_un (show 1 ≠ 100 + len by omega))) ?_
              refine z_toe (y := nI len) (hm1) ?_
              refine z_iconst (v := 1) X dX12_goesBy_255 (by decide) ?_
              refine z_iadd X dX12_goesBy_256 ?_
              refine z_toe (y := nI (len + 1)) (nI_add (len) (1)) ?_
              refine z_iast X dX12_goesBy_257 zK104 (vp_in_nI (n := 1) (by omega) (by omega)) (congrArg (fun z => va_up zh100 (o + 2) (arI κ 340 (upd (upd (upd mm (100 + len) wt) (140 + len) (held st 0 999999)) z (nI (len + 1))))) (nI_clamp (n := 1) (by omega))) ?_
              obtain ⟨zh106, ze107⟩ : ∃ z : Mm, z = va_up zh100 (o + 2) (arI κ 340 (upd (upd (upd mm (100 + len) wt) (140 + len) (held st 0 999999)) 1 (nI (len + 1)))) := ⟨_, rfl⟩
              refine z_heap (h' := zh106) ze107.symm ?_
              have zK108 := up_off ze107 (show o ≠ o + 2 by omega) zK102
              have zK109 := up_off ze107 (show o + 1 ≠ o + 2 by omega) zK103
              have zK110 := up_at ze107
              have zK111 := up_off ze107 (show o + 5 ≠ o + 2 by omega) zK105
              refine z_goto X 279 dX12_goesBy_258 (by decide) ?_
              refine z_aload_n X 1 dX12_goesBy_279 rfl ?_
              refine z_iconst (v := 0) X dX12_goesBy_280 (by decide) ?_
              refine z_dup2 X dX12_goesBy_281 rfl rfl ?_
              refine z_iald2 (v := mm 0) X dX12_goesBy_282 zK110 (vp_in_nI (n := 0) (by omega) (by omega)) ((((congrArg (upd (upd (upd mm (100 + len) wt) (140 + len) (held st 0 999999)) 1 (nI (len + 1))) (nI_clamp (n := 0) (by omega))).trans (pk_un (show 0 ≠ 1 by omega))).trans (pk_un (show 0 ≠ 140 + len by omega))).trans (pk_un (show 0 ≠ 100 + len by omega))) ?_
              refine z_iconst (v := 1) X dX12_goesBy_283 (by decide) ?_
              refine z_iadd X dX12_goesBy_284 ?_
              refine z_iast X dX12_goesBy_285 zK110 (vp_in_nI (n := 0) (by omega) (by omega)) (congrArg (fun z => va_up zh106 (o + 2) (arI κ 340 (upd (upd (upd (upd mm (100 + len) wt) (140 + len) (held st 0 999999)) 1 (nI (len + 1))) z ((mm 0) + 1)))) (nI_clamp (n := 0) (by omega))) ?_
              obtain ⟨zh112, ze113⟩ : ∃ z : Mm, z = va_up zh106 (o + 2) (arI κ 340 (upd (upd (upd (upd mm (100 + len) wt) (140 + len) (held st 0 999999)) 1 (nI (len + 1))) 0 ((mm 0) + 1))) := ⟨_, rfl⟩
              refine z_heap (h' := zh112) ze113.symm ?_
              have zK114 := up_off ze113 (show o ≠ o + 2 by omega) zK108
              have zK115 := up_off ze113 (show o + 1 ≠ o + 2 by omega) zK109
              have zK116 := up_at ze113
              have zK117 := up_off ze113 (show o + 5 ≠ o + 2 by omega) zK111
              refine z_vret X E dX12_goesBy_286 (by omega) (by omega) ⟨ba'21, at'22, sz'23, fa'24, op'25, nm'26, ?_, ?_, ?_⟩
              · rfl
              · (have hcl : c = len := by omega); rw [hcl] at hL; rw [gby_eq q1 q3 q4 q5 hL]; (first | rw [gbE_a (by assumption) (by assumption) (by omega)] | rw [gbE_b (by assumption) (Or.inl (by assumption))] | rw [gbE_b (by assumption) (Or.inr (by omega))] | rw [gbE_c (by assumption)]); rw [ze113, ze107, ze101, ze90, he42]; funext zz; simp only [va_up]; (repeat' split) <;> first | rfl | (exfalso; omega) | (simp_all; done)
              · rfl
      · try replace zc40 := mt (nI_leI (a := len) (b := c) (by omega) (by omega)).mpr zc40
        refine z_iconst (v := 0) X dX12_goesBy_50 (by decide) ?_
        refine z_istore (ls' := [(6, .int 0), (0, .ref o), (1, .ref (o + 2)), (2, .int wt), (3, .int (cldR (Tx d) tx m)), (4, .int st), (5, .int (nI c))]) X dX12_goesBy_51 (by decide) rfl ?_
        refine z_iconst (v := 0) X dX12_goesBy_53 (by decide) ?_
        refine z_istore (ls' := [(7, .int 0), (6, .int 0), (0, .ref o), (1, .ref (o + 2)), (2, .int wt), (3, .int (cldR (Tx d) tx m)), (4, .int st), (5, .int (nI c))]) X dX12_goesBy_54 (by decide) rfl ?_
        have L56 : ∀ (jj : Nat)  (k : Nat) (acc : Int32), (nc - k < jj) → (hk : k ≤ nc) → (hacc : acc = sumN (frF mm len c wt st (cldR (Tx d) tx m)) k) → Z κ G 9 56 [(0, .ref o), (1, .ref (o + 2)), (2, .int wt), (3, .int (cldR (Tx d) tx m)), (4, .int st), (5, .int (nI c)), (6, .int acc), (7, .int (nI k))] [] hh42 n 0 (0) := by
          intro jj
          induction jj with
          | zero => intro  k acc hmu; exact absurd hmu (Nat.not_lt_zero _)
          | succ jj ih56 =>
            intro  k acc hmu  hk hacc
            refine z_iload X 7 dX12_goesBy_56 rfl ?_
            refine z_aload_n X 1 dX12_goesBy_58 rfl ?_
            refine z_bipush (v := 11) X dX12_goesBy_59 (by decide) ?_
            refine z_iald2 (v := mm 11) X dX12_goesBy_61 zK38 (vp_in_nI (n := 11) (by omega) (by omega)) (congrArg mm (nI_clamp (n := 11) (by omega))) ?_
            refine z_toe (y := nI nc) (hm11) ?_
            refine z_icmp_ge X 105 dX12_goesBy_62 (by decide) (fun zc122 => ?_) (fun zc122 => ?_)
            · try replace zc122 := (nI_leI (a := nc) (b := k) (by omega) (by omega)).mp zc122
              refine z_iload X 6 dX12_goesBy_105 rfl ?_
              refine z_iconst (v := 0) X dX12_goesBy_107 (by decide) ?_
              refine z_iload_n X 2 dX12_goesBy_108 rfl ?_
              refine z_callS X (r_held (κ := κ) (n := n) (v := (acc)) (lo := (0)) (hi := (wt))  ) mk_X12_held dX12_goesBy_109 wd_1134 wd_1135 rfl rfl (Nat.le_of_ble_eq_true rfl) (Nat.le_of_ble_eq_true rfl) (Nat.le_of_ble_eq_true rfl) (by omega) (by omega) (fun q zh123 zm125 zp126 => ?_)
              obtain ⟨rfl, ze124, zn127⟩ := zp126
              subst zm125
              subst zh123
              refine z_st (st' := [.int (held acc 0 wt)]) rfl ?_
              refine z_istore (ls' := [(7, .int (held acc 0 wt)), (0, .ref o), (1, .ref (o + 2)), (2, .int wt), (3, .int (cldR (Tx d) tx m)), (4, .int st), (5, .int (nI c)), (6, .int acc)]) X dX12_goesBy_112 (by decide) rfl ?_
              refine z_iload_n X 3 dX12_goesBy_114 rfl ?_
              refine z_if_ne X 122 dX12_goesBy_115 (by decide) (fun zc128 => ?_) (fun zc128 => ?_)
              · refine z_iload X 5 dX12_goesBy_122 rfl ?_
                refine z_i2l X dX12_goesBy_124 rfl ?_
                refine z_iload X 0 dX12_goesBy_125 rfl ?_
                refine z_i2l X dX12_goesBy_127 rfl ?_
                refine z_lmul X dX12_goesBy_128 ?_
                refine z_ldc2 X dX12_goesBy_129 wd_1017 ?_
                refine z_iload_n X 3 dX12_goesBy_132 rfl ?_
                refine z_i2l X dX12_goesBy_133 rfl ?_
                refine z_lmul X dX12_goesBy_134 ?_
                refine z_ldiv X dX12_goesBy_135 (l2w_ne (by assumption)) ?_
                refine z_l2i X dX12_goesBy_136 rfl ?_
                refine z_istore (ls' := [(8, .int (((st.toInt64 * ((held acc 0 wt).toInt64)) / (((2 : Int64)) * wt.toInt64)).toInt32)), (7, .int (held acc 0 wt)), (0, .ref o), (1, .ref (o + 2)), (2, .int wt), (3, .int (cldR (Tx d) tx m)), (4, .int st), (5, .int (nI c)), (6, .int acc)]) X dX12_goesBy_137 (by decide) rfl ?_
                refine z_aload_n X 3 dX12_goesBy_139 rfl ?_
                refine z_bipush (v := 100) X dX12_goesBy_140 (by decide) ?_
                refine z_iload X 7 dX12_goesBy_142 rfl ?_
                refine z_iadd X dX12_goesBy_144 ?_
                refine z_toe (y := nI (100 + c)) (nI_add (100) (c)) ?_
                refine z_aload_n X 3 dX12_goesBy_145 rfl ?_
                refine z_bipush (v := 100) X dX12_goesBy_146 (by decide) ?_
                refine z_iload X 7 dX12_goesBy_148 rfl ?_
                refine z_iadd X dX12_goesBy_150 ?_
                refine z_toe (y := nI (100 + c)) (nI_add (100) (c)) ?_
                refine z_iald2 (v := mm (100 + c)) X dX12_goesBy_151 zK38 (vp_in_nI (n := 100 + c) (by omega) (by omega)) (congrArg mm (nI_clamp (n := 100 + c) (by omega))) ?_
                refine z_iload X 1 dX12_goesBy_152 rfl ?_
                refine z_iadd X dX12_goesBy_154 ?_
                refine z_iconst (v := 0) X dX12_goesBy_155 (by decide) ?_
                refine z_ldc X dX12_goesBy_156 wd_1167 ?_
                refine z_callS X (r_held (κ := κ) (n := n) (v := ((mm (100 + c)) + (held acc 0 wt))) (lo := (0)) (hi := (99999))  ) mk_X12_held dX12_goesBy_158 wd_1134 wd_1135 rfl rfl (Nat.le_of_ble_eq_true rfl) (Nat.le_of_ble_eq_true rfl) (Nat.le_of_ble_eq_true rfl) (by omega) (by omega) (fun q zh129 zm131 zp132 => ?_)
                obtain ⟨rfl, ze130, zn133⟩ := zp132
                subst zm131
                subst zh129
                refine z_st (st' := [.int (held ((mm (100 + c)) + (held acc 0 wt)) 0 99999), .int (nI (100 + c)), .ref (o + 2)]) rfl ?_
                refine z_iast X dX12_goesBy_161 zK38 (vp_in_nI (n := 100 + c) (by omega) (by omega)) (congrArg (fun z => va_up hh42 (o + 2) (arI κ 340 (upd mm z (held ((mm (100 + c)) + (held acc 0 wt)) 0 99999)))) (nI_clamp (n := 100 + c) (by omega))) ?_
                obtain ⟨zh134, ze135⟩ : ∃ z : Mm, z = va_up hh42 (o + 2) (arI κ 340 (upd mm (100 + c) (held ((mm (100 + c)) + (held acc 0 wt)) 0 99999))) := ⟨_, rfl⟩
                refine z_heap (h' := zh134) ze135.symm ?_
                have zK136 := up_off ze135 (show o ≠ o + 2 by omega) zK36
                have zK137 := up_off ze135 (show o + 1 ≠ o + 2 by omega) zK37
                have zK138 := up_at ze135
                have zK139 := up_off ze135 (show o + 5 ≠ o + 2 by omega) zK39
                refine z_aload_n X 3 dX12_goesBy_162 rfl ?_
                refine z_sipush (v := 140) X dX12_goesBy_163 (by decide) ?_
                refine z_iload X 7 dX12_goesBy_166 rfl ?_
                refine z_iadd X dX12_goesBy_168 ?_
                refine z_toe (y := nI (140 + c)) (nI_add (140) (c)) ?_
                refine z_aload_n X 3 dX12_goesBy_169 rfl ?_
                refine z_sipush (v := 140) X dX12_goesBy_170 (by decide) ?_
                refine z_iload X 7 dX12_goesBy_173 rfl ?_
                refine z_iadd X dX12_goesBy_175 ?_
                refine z_toe (y := nI (140 + c)) (nI_add (140) (c)) ?_
                refine z_iald2 (v := mm (140 + c)) X dX12_goesBy_176 zK138 (vp_in_nI (n := 140 + c) (by omega) (by omega)) ((congrArg (upd mm (100 + c) (held ((mm (100 + c)) + (held acc 0 wt)) 0 99999)) (nI_clamp (n := 140 + c) (by omega))).trans (pk_un (show 140 + c ≠ 100 + c by omega))) ?_
                refine z_iload X 0 dX12_goesBy_177 rfl ?_
                refine z_iadd X dX12_goesBy_179 ?_
                refine z_iconst (v := 0) X dX12_goesBy_180 (by decide) ?_
                refine z_ldc X dX12_goesBy_181 wd_1168 ?_
                refine z_callS X (r_held (κ := κ) (n := n) (v := ((mm (140 + c)) + (((st.toInt64 * ((held acc 0 wt).toInt64)) / (((2 : Int64)) * wt.toInt64)).toInt32))) (lo := (0)) (hi := (999999))  ) mk_X12_held dX12_goesBy_183 wd_1134 wd_1135 rfl rfl (Nat.le_of_ble_eq_true rfl) (Nat.le_of_ble_eq_true rfl) (Nat.le_of_ble_eq_true rfl) (by omega) (by omega) (fun q zh140 zm142 zp143 => ?_)
                obtain ⟨rfl, ze141, zn144⟩ := zp143
                subst zm142
                subst zh140
                refine z_st (st' := [.int (held ((mm (140 + c)) + (((st.toInt64 * ((held acc 0 wt).toInt64)) / (((2 : Int64)) * wt.toInt64)).toInt32)) 0 999999), .int (nI (140 + c)), .ref (o + 2)]) rfl ?_
                refine z_iast X dX12_goesBy_186 zK138 (vp_in_nI (n := 140 + c) (by omega) (by omega)) (congrArg (fun z => va_up zh134 (o + 2) (arI κ 340 (upd (upd mm (100 + c) (held ((mm (100 + c)) + (held acc 0 wt)) 0 99999)) z (held ((mm (140 + c)) + (((st.toInt64 * ((held acc 0 wt).toInt64)) / (((2 : Int64)) * wt.toInt64)).toInt32)) 0 999999)))) (nI_clamp (n := 140 + c) (by omega))) ?_
                obtain ⟨zh145, ze146⟩ : ∃ z : Mm, z = va_up zh134 (o + 2) (arI κ 340 (upd (upd mm (100 + c) (held ((mm (100 + c)) + (held acc 0 wt)) 0 99999)) (140 + c) (held ((mm (140 + c)) + (((st.toInt64 * ((held acc 0 wt).toInt64)) / (((2 : Int64)) * wt.toInt64)).toInt32)) 0 999999))) := ⟨_, rfl⟩
                refine z_heap (h' := zh145) ze146.symm ?_
                have zK147 := up_off ze146 (show o ≠ o + 2 by omega) zK136
                have zK148 := up_off ze146 (show o + 1 ≠ o + 2 by omega) zK137
                have zK149 := up_at ze146
                have zK150 := up_off ze146 (show o + 5 ≠ o + 2 by omega) zK139
                refine z_iload_n X 4 dX12_goesBy_187 rfl ?_
                refine z_iload X 1 dX12_goesBy_188 rfl ?_
                refine z_isub X dX12_goesBy_190 ?_
                refine z_istore_n (ls' := [(2, .int (wt - (held acc 0 wt))), (8, .int (((st.toInt64 * ((held acc 0 wt).toInt64)) / (((2 : Int64)) * wt.toInt64)).toInt32)), (7, .int (held acc 0 wt)), (0, .ref o), (1, .ref (o + 2)), (3, .int (cldR (Tx d) tx m)), (4, .int st), (5, .int (nI c)), (6, .int acc)]) X dX12_goesBy_191 (by decide) rfl ?_
                refine z_iload X 6 dX12_goesBy_192 rfl ?_
                refine z_iload X 1 dX12_goesBy_194 rfl ?_
                refine z_isub X dX12_goesBy_196 ?_
                refine z_istore (ls' := [(4, .int (st - (((st.toInt64 * ((held acc 0 wt).toInt64)) / (((2 : Int64)) * wt.toInt64)).toInt32))), (2, .int (wt - (held acc 0 wt))), (8, .int (((st.toInt64 * ((held acc 0 wt).toInt64)) / (((2 : Int64)) * wt.toInt64)).toInt32)), (7, .int (held acc 0 wt)), (0, .ref o), (1, .ref (o + 2)), (3, .int (cldR (Tx d) tx m)), (5, .int (nI c)), (6, .int acc)]) X dX12_goesBy_197 (by decide) rfl ?_
                refine z_iinc (v := nI (c + 1)) (ls' := [(5, .int (nI (c + 1))), (4, .int (st - (((st.toInt64 * ((held acc 0 wt).toInt64)) / (((2 : Int64)) * wt.toInt64)).toInt32))), (2, .int (wt - (held acc 0 wt))), (8, .int (((st.toInt64 * ((held acc 0 wt).toInt64)) / (((2 : Int64)) * wt.toInt64)).toInt32)), (7, .int (held acc 0 wt)), (0, .ref o), (1, .ref (o + 2)), (3, .int (cldR (Tx d) tx m)), (6, .int acc)]) X 7 dX12_goesBy_199 rfl (nI_1 (c)) (by decide) rfl ?_
                refine z_goto X 42 dX12_goesBy_202 (by decide) ?_
                refine z_sub (ls' := [(0, .ref o), (1, .ref (o + 2)), (2, .int (wt - (held acc 0 wt))), (3, .int (cldR (Tx d) tx m)), (4, .int (st - (((st.toInt64 * ((held acc 0 wt).toInt64)) / (((2 : Int64)) * wt.toInt64)).toInt32))), (5, .int (nI (c + 1)))]) [5, 6, 2, 7, 1, 0] rfl ?_
                exact ih42 _ (c + 1) (upd (upd mm (100 + c) (held ((mm (100 + c)) + (held acc 0 wt)) 0 99999)) (140 + c) (held ((mm (140 + c)) + (((st.toInt64 * ((held acc 0 wt).toInt64)) / (((2 : Int64)) * wt.toInt64)).toInt32)) 0 999999)) (wt - (held acc 0 wt)) (st - (((st.toInt64 * ((held acc 0 wt).toInt64)) / (((2 : Int64)) * wt.toInt64)).toInt32)) (by omega) (by first | (rw [ze146, ze135, he42]; done) | (rw [ze146, ze135, he42]; simp only [up_up]; done) | (rw [ze146, ze135, he42]; funext zz; simp only [va_up]; (repeat' split) <;> first | rfl | (exfalso; omega) | simp_all)) (by first | assumption | rfl | omega) (by exact (pk_un (by omega)).trans ((pk_un (by omega)).trans hm1)) (by exact (pk_un (by omega)).trans ((pk_un (by omega)).trans hm11)) (by exact gbL_s hL (gbS_eq (hacc.trans (congrArg (sumN _) (show k = nc by omega))) (by unfold staysR; first | rw [if_pos (by assumption)] | rw [if_neg (by assumption)])))
              · refine z_iconst (v := 0) X dX12_goesBy_118 (by decide) ?_
                refine z_goto X 137 dX12_goesBy_119 (by decide) ?_
                refine z_istore (ls' := [(8, .int 0), (7, .int (held acc 0 wt)), (0, .ref o), (1, .ref (o + 2)), (2, .int wt), (3, .int (cldR (Tx d) tx m)), (4, .int st), (5, .int (nI c)), (6, .int acc)]) X dX12_goesBy_137 (by decide) rfl ?_
                refine z_aload_n X 3 dX12_goesBy_139 rfl ?_
                refine z_bipush (v := 100) X dX12_goesBy_140 (by decide) ?_
                refine z_iload X 7 dX12_goesBy_142 rfl ?_
                refine z_iadd X dX12_goesBy_144 ?_
                refine z_toe (y := nI (100 + c)) (nI_add (100) (c)) ?_
                refine z_aload_n X 3 dX12_goesBy_145 rfl ?_
                refine z_bipush (v := 100) X dX12_goesBy_146 (by decide) ?_
                refine z_iload X 7 dX12_goesBy_148 rfl ?_
                refine z_iadd X dX12_goesBy_150 ?_
                refine z_toe (y := nI (100 + c)) (nI_add (100) (c)) ?_
                refine z_iald2 (v := mm (100 + c)) X dX12_goesBy_151 zK38 (vp_in_nI (n := 100 + c) (by omega) (by omega)) (congrArg mm (nI_clamp (n := 100 + c) (by omega))) ?_
                refine z_iload X 1 dX12_goesBy_152 rfl ?_
                refine z_iadd X dX12_goesBy_154 ?_
                refine z_iconst (v := 0) X dX12_goesBy_155 (by decide) ?_
                refine z_ldc X dX12_goesBy_156 wd_1167 ?_
                refine z_callS X (r_held (κ := κ) (n := n) (v := ((mm (100 + c)) + (held acc 0 wt))) (lo := (0)) (hi := (99999))  ) mk_X12_held dX12_goesBy_158 wd_1134 wd_1135 rfl rfl (Nat.le_of_ble_eq_true rfl) (Nat.le_of_ble_eq_true rfl) (Nat.le_of_ble_eq_true rfl) (by omega) (by omega) (fun q zh151 zm153 zp154 => ?_)
                obtain ⟨rfl, ze152, zn155⟩ := zp154
                subst zm153
                subst zh151
                refine z_st (st' := [.int (held ((mm (100 + c)) + (held acc 0 wt)) 0 99999), .int (nI (100 + c)), .ref (o + 2)]) rfl ?_
                refine z_iast X dX12_goesBy_161 zK38 (vp_in_nI (n := 100 + c) (by omega) (by omega)) (congrArg (fun z => va_up hh42 (o + 2) (arI κ 340 (upd mm z (held ((mm (100 + c)) + (held acc 0 wt)) 0 99999)))) (nI_clamp (n := 100 + c) (by omega))) ?_
                obtain ⟨zh156, ze157⟩ : ∃ z : Mm, z = va_up hh42 (o + 2) (arI κ 340 (upd mm (100 + c) (held ((mm (100 + c)) + (held acc 0 wt)) 0 99999))) := ⟨_, rfl⟩
                refine z_heap (h' := zh156) ze157.symm ?_
                have zK158 := up_off ze157 (show o ≠ o + 2 by omega) zK36
                have zK159 := up_off ze157 (show o + 1 ≠ o + 2 by omega) zK37
                have zK160 := up_at ze157
                have zK161 := up_off ze157 (show o + 5 ≠ o + 2 by omega) zK39
                refine z_aload_n X 3 dX12_goesBy_162 rfl ?_
                refine z_sipush (v := 140) X dX12_goesBy_163 (by decide) ?_
                refine z_iload X 7 dX12_goesBy_166 rfl ?_
                refine z_iadd X dX12_goesBy_168 ?_
                refine z_toe (y := nI (140 + c)) (nI_add (140) (c)) ?_
                refine z_aload_n X 3 dX12_goesBy_169 rfl ?_
                refine z_sipush (v := 140) X dX12_goesBy_170 (by decide) ?_
                refine z_iload X 7 dX12_goesBy_173 rfl ?_
                refine z_iadd X dX12_goesBy_175 ?_
                refine z_toe (y := nI (140 + c)) (nI_add (140) (c)) ?_
                refine z_iald2 (v := mm (140 + c)) X dX12_goesBy_176 zK160 (vp_in_nI (n := 140 + c) (by omega) (by omega)) ((congrArg (upd mm (100 + c) (held ((mm (100 + c)) + (held acc 0 wt)) 0 99999)) (nI_clamp (n := 140 + c) (by omega))).trans (pk_un (show 140 + c ≠ 100 + c by omega))) ?_
                refine z_iload X 0 dX12_goesBy_177 rfl ?_
                refine z_iadd X dX12_goesBy_179 ?_
                refine z_iconst (v := 0) X dX12_goesBy_180 (by decide) ?_
                refine z_ldc X dX12_goesBy_181 wd_1168 ?_
                refine z_callS X (r_held (κ := κ) (n := n) (v := ((mm (140 + c)) + 0)) (lo := (0)) (hi := (999999))  ) mk_X12_held dX12_goesBy_183 wd_1134 wd_1135 rfl rfl (Nat.le_of_ble_eq_true rfl) (Nat.le_of_ble_eq_true rfl) (Nat.le_of_ble_eq_true rfl) (by omega) (by omega) (fun q zh162 zm164 zp165 => ?_)
                obtain ⟨rfl, ze163, zn166⟩ := zp165
                subst zm164
                subst zh162
                refine z_st (st' := [.int (held ((mm (140 + c)) + 0) 0 999999), .int (nI (140 + c)), .ref (o + 2)]) rfl ?_
                refine z_iast X dX12_goesBy_186 zK160 (vp_in_nI (n := 140 + c) (by omega) (by omega)) (congrArg (fun z => va_up zh156 (o + 2) (arI κ 340 (upd (upd mm (100 + c) (held ((mm (100 + c)) + (held acc 0 wt)) 0 99999)) z (held ((mm (140 + c)) + 0) 0 999999)))) (nI_clamp (n := 140 + c) (by omega))) ?_
                obtain ⟨zh167, ze168⟩ : ∃ z : Mm, z = va_up zh156 (o + 2) (arI κ 340 (upd (upd mm (100 + c) (held ((mm (100 + c)) + (held acc 0 wt)) 0 99999)) (140 + c) (held ((mm (140 + c)) + 0) 0 999999))) := ⟨_, rfl⟩
                refine z_heap (h' := zh167) ze168.symm ?_
                have zK169 := up_off ze168 (show o ≠ o + 2 by omega) zK158
                have zK170 := up_off ze168 (show o + 1 ≠ o + 2 by omega) zK159
                have zK171 := up_at ze168
                have zK172 := up_off ze168 (show o + 5 ≠ o + 2 by omega) zK161
                refine z_iload_n X 4 dX12_goesBy_187 rfl ?_
                refine z_iload X 1 dX12_goesBy_188 rfl ?_
                refine z_isub X dX12_goesBy_190 ?_
                refine z_istore_n (ls' := [(2, .int (wt - (held acc 0 wt))), (8, .int 0), (7, .int (held acc 0 wt)), (0, .ref o), (1, .ref (o + 2)), (3, .int (cldR (Tx d) tx m)), (4, .int st), (5, .int (nI c)), (6, .int acc)]) X dX12_goesBy_191 (by decide) rfl ?_
                refine z_iload X 6 dX12_goesBy_192 rfl ?_
                refine z_iload X 1 dX12_goesBy_194 rfl ?_
                refine z_isub X dX12_goesBy_196 ?_
                refine z_istore (ls' := [(4, .int (st - 0)), (2, .int (wt - (held acc 0 wt))), (8, .int 0), (7, .int (held acc 0 wt)), (0, .ref o), (1, .ref (o + 2)), (3, .int (cldR (Tx d) tx m)), (5, .int (nI c)), (6, .int acc)]) X dX12_goesBy_197 (by decide) rfl ?_
                refine z_iinc (v := nI (c + 1)) (ls' := [(5, .int (nI (c + 1))), (4, .int (st - 0)), (2, .int (wt - (held acc 0 wt))), (8, .int 0), (7, .int (held acc 0 wt)), (0, .ref o), (1, .ref (o + 2)), (3, .int (cldR (Tx d) tx m)), (6, .int acc)]) X 7 dX12_goesBy_199 rfl (nI_1 (c)) (by decide) rfl ?_
                refine z_goto X 42 dX12_goesBy_202 (by decide) ?_
                refine z_sub (ls' := [(0, .ref o), (1, .ref (o + 2)), (2, .int (wt - (held acc 0 wt))), (3, .int (cldR (Tx d) tx m)), (4, .int (st - 0)), (5, .int (nI (c + 1)))]) [5, 6, 2, 7, 1, 0] rfl ?_
                exact ih42 _ (c + 1) (upd (upd mm (100 + c) (held ((mm (100 + c)) + (held acc 0 wt)) 0 99999)) (140 + c) (held ((mm (140 + c)) + 0) 0 999999)) (wt - (held acc 0 wt)) (st - 0) (by omega) (by first | (rw [ze168, ze157, he42]; done) | (rw [ze168, ze157, he42]; simp only [up_up]; done) | (rw [ze168, ze157, he42]; funext zz; simp only [va_up]; (repeat' split) <;> first | rfl | (exfalso; omega) | simp_all)) (by first | assumption | rfl | omega) (by exact (pk_un (by omega)).trans ((pk_un (by omega)).trans hm1)) (by exact (pk_un (by omega)).trans ((pk_un (by omega)).trans hm11)) (by exact gbL_s hL (gbS_eq (hacc.trans (congrArg (sumN _) (show k = nc by omega))) (by unfold staysR; first | rw [if_pos (by assumption)] | rw [if_neg (by assumption)])))
            · try replace zc122 := mt (nI_leI (a := nc) (b := k) (by omega) (by omega)).mpr zc122
              refine z_iload X 6 dX12_goesBy_65 rfl ?_
              refine z_aload_n X 1 dX12_goesBy_67 rfl ?_
              refine z_bipush (v := 10) X dX12_goesBy_68 (by decide) ?_
              refine z_iald2 (v := mm 10) X dX12_goesBy_70 zK38 (vp_in_nI (n := 10) (by omega) (by omega)) (congrArg mm (nI_clamp (n := 10) (by omega))) ?_
              refine z_iload X 7 dX12_goesBy_71 rfl ?_
              refine z_ishr X dX12_goesBy_73 ?_
              refine z_iconst (v := 1) X dX12_goesBy_74 (by decide) ?_
              refine z_iand X dX12_goesBy_75 ?_
              refine z_iconst (v := 1) X dX12_goesBy_76 (by decide) ?_
              refine z_icmp_ne X 95 dX12_goesBy_77 (by decide) (fun zc173 => ?_) (fun zc173 => ?_)
              · refine z_iconst (v := 0) X dX12_goesBy_95 (by decide) ?_
                refine z_iadd X dX12_goesBy_96 ?_
                refine z_istore (ls' := [(6, .int (acc + 0)), (0, .ref o), (1, .ref (o + 2)), (2, .int wt), (3, .int (cldR (Tx d) tx m)), (4, .int st), (5, .int (nI c)), (7, .int (nI k))]) X dX12_goesBy_97 (by decide) rfl ?_
                refine z_iinc (v := nI (k + 1)) (ls' := [(7, .int (nI (k + 1))), (6, .int (acc + 0)), (0, .ref o), (1, .ref (o + 2)), (2, .int wt), (3, .int (cldR (Tx d) tx m)), (4, .int st), (5, .int (nI c))]) X 7 dX12_goesBy_99 rfl (nI_1 (k)) (by decide) rfl ?_
                refine z_goto X 56 dX12_goesBy_102 (by decide) ?_
                refine z_sub (ls' := [(0, .ref o), (1, .ref (o + 2)), (2, .int wt), (3, .int (cldR (Tx d) tx m)), (4, .int st), (5, .int (nI c)), (6, .int (acc + 0)), (7, .int (nI (k + 1)))]) [2, 3, 4, 5, 6, 7, 1, 0] rfl ?_
                exact ih56 (k + 1) (acc + 0) (by omega) (by first | assumption | rfl | omega) (by first | exact frF_t hacc (by assumption) | exact frF_f hacc (by assumption))
              · refine z_aload_n X 1 dX12_goesBy_80 rfl ?_
                refine z_iload X 7 dX12_goesBy_81 rfl ?_
                refine z_iload X 5 dX12_goesBy_83 rfl ?_
                refine z_iload_n X 2 dX12_goesBy_85 rfl ?_
                refine z_iload X 4 dX12_goesBy_86 rfl ?_
                refine z_iload_n X 3 dX12_goesBy_88 rfl ?_
                refine z_callS X (r_freezesOf (κ := κ) (n := n) (a := (o + 2)) (m := (mm)) (len := (len)) (k := (k)) (c := (c)) (w := (wt)) (s := (st)) (cold := (cldR (Tx d) tx m)) zK38 (by first | assumption | omega) (by first | assumption | omega) (by first | assumption | omega) (by first | assumption | omega) (by first | assumption | omega)) mk_X12_freezesOf dX12_goesBy_89 wd_1137 wd_1138 rfl rfl (Nat.le_of_ble_eq_true rfl) (Nat.le_of_ble_eq_true rfl) (Nat.le_of_ble_eq_true rfl) (by omega) (by omega) (fun q zh174 zm176 zp177 => ?_)
                obtain ⟨rfl, ze175, zn178⟩ := zp177
                subst zm176
                subst zh174
                refine z_st (st' := [.int (frz mm len k c wt st (cldR (Tx d) tx m)), .int acc]) rfl ?_
                refine z_goto X 96 dX12_goesBy_92 (by decide) ?_
                refine z_iadd X dX12_goesBy_96 ?_
                refine z_istore (ls' := [(6, .int (acc + (frz mm len k c wt st (cldR (Tx d) tx m)))), (0, .ref o), (1, .ref (o + 2)), (2, .int wt), (3, .int (cldR (Tx d) tx m)), (4, .int st), (5, .int (nI c)), (7, .int (nI k))]) X dX12_goesBy_97 (by decide) rfl ?_
                refine z_iinc (v := nI (k + 1)) (ls' := [(7, .int (nI (k + 1))), (6, .int (acc + (frz mm len k c wt st (cldR (Tx d) tx m)))), (0, .ref o), (1, .ref (o + 2)), (2, .int wt), (3, .int (cldR (Tx d) tx m)), (4, .int st), (5, .int (nI c))]) X 7 dX12_goesBy_99 rfl (nI_1 (k)) (by decide) rfl ?_
                refine z_goto X 56 dX12_goesBy_102 (by decide) ?_
                refine z_sub (ls' := [(0, .ref o), (1, .ref (o + 2)), (2, .int wt), (3, .int (cldR (Tx d) tx m)), (4, .int st), (5, .int (nI c)), (6, .int (acc + (frz mm len k c wt st (cldR (Tx d) tx m)))), (7, .int (nI (k + 1)))]) [2, 3, 4, 5, 6, 7, 1, 0] rfl ?_
                exact ih56 (k + 1) (acc + (frz mm len k c wt st (cldR (Tx d) tx m))) (by omega) (by first | assumption | rfl | omega) (by first | exact frF_t hacc (by assumption) | exact frF_f hacc (by assumption))
        refine z_sub (ls' := [(0, .ref o), (1, .ref (o + 2)), (2, .int wt), (3, .int (cldR (Tx d) tx m)), (4, .int st), (5, .int (nI c)), (6, .int 0), (7, .int 0)]) [2, 3, 4, 5, 6, 7, 1, 0] rfl ?_
        exact L56 _ 0 0 (Nat.lt_succ_self _) (by first | assumption | rfl | omega) (by rfl)
  refine z_sub (ls' := [(0, .ref o), (1, .ref (o + 2)), (2, .int (held (gv (Tx d) tx 0 (m 0) (m 4) (m 6) (m 4)) 0 9999)), (3, .int (cldR (Tx d) tx m)), (4, .int ((held (gv (Tx d) tx 0 (m 0) (m 4) (m 6) (m 4)) 0 9999) * (m 5))), (5, .int 0)]) [4, 5, 3, 2, 1, 0] rfl ?_
  exact L42 _ _ 0 m (held (gv (Tx d) tx 0 (m 0) (m 4) (m 6) (m 4)) 0 9999) ((held (gv (Tx d) tx 0 (m 0) (m 4) (m 6) (m 4)) 0 9999) * (m 5)) (Nat.lt_succ_self _) (by first | (rw [ze28, ze8]; done) | (rw [ze28, ze8]; simp only [up_up]; done) | (rw [ze28, ze8]; funext zz; simp only [va_up]; (repeat' split) <;> first | rfl | (exfalso; omega) | simp_all)) (by first | assumption | rfl | omega) (by exact q1) (by exact q4) (by rfl)
set_option maxHeartbeats 4000000 in
set_option maxRecDepth 100000 in
theorem r_goesBy_d {κ : Wc} {l : Launch} {h : Mm} {n : Nat} {o : Nat} {m : Nat → Int32} {nm : Nat → Int32} {len : Nat} {nc : Nat} {tx : Nat → Nat} {im : Int32} {ba : Int32} {at_ : Int32} {sz : Int32} {fa : Int32} {op : Int32} {rm : Int32} {ti : Int32} {tm : Int32} {wh : Int32} (K0 : h o = some (.inr (12, [.ref (o + 1), .ref (o + 2), .ref (o + 3), .int im, .ref (o + 4), .int ba, .int at_, .int sz, .int fa, .int op, .ref (o + 5), .ref (o + 6), .int rm, .ref (o + 7), .ref (o + 8), .int ti, .ref (o + 9), .int tm, .int wh, .ref (o + 10), .ref (o + 11), .ref (o + 12), .ref (o + 13)]))) (K1 : h (o + 1) = arI κ 340 m) (K2 : h (o + 5) = arI κ 3 nm) (q8 : ∀ u, u < 2 → m (60 + u) = nI (tx u) ∧ tx u ≤ 50) (q1 : m 1 = nI len) (q2 : 1 ≤ len) (q3 : len ≤ 40) (q4 : m 11 = nI nc) (q5 : nc ≤ 6) : Con κ l yX12_goesBy cX12_goesBy 9 none 42 0 0 [.ref o, .ref (o + 1)] h n (fun q h' n' => ∃ ba' : Int32, ∃ at' : Int32, ∃ sz' : Int32, ∃ fa' : Int32, ∃ op' : Int32, ∃ nm' : Nat → Int32, q = none ∧ h' = va_up (va_up (va_up h o (some (.inr (12, [.ref (o + 1), .ref (o + 2), .ref (o + 3), .int im, .ref (o + 4), .int ba', .int at', .int sz', .int fa', .int op', .ref (o + 5), .ref (o + 6), .int rm, .ref (o + 7), .ref (o + 8), .int ti, .ref (o + 9), .int tm, .int wh, .ref (o + 10), .ref (o + 11), .ref (o + 12), .ref (o + 13)])))) (o + 5) (arI κ 3 nm')) (o + 1) (arI κ 340 (gby (Tx m) tx m)) ∧ n' = n) := by
  refine Con.of mk_X12_goesBy (Nat.le_of_ble_eq_true rfl) (fun G hG X E => ?_)
  subst hG
  refine z_ls (ls' := [(0, .ref o), (1, .ref (o + 1))]) rfl ?_
  refine z_aload_n X 0 dX12_goesBy_0 rfl ?_
  refine z_iconst (v := 0) X dX12_goesBy_1 (by decide) ?_
  refine z_aload_n X 1 dX12_goesBy_2 rfl ?_
  refine z_iconst (v := 0) X dX12_goesBy_3 (by decide) ?_
  refine z_iald2 (v := m 0) X dX12_goesBy_4 K1 (vp_in_nI (n := 0) (by omega) (by omega)) (congrArg m (nI_clamp (n := 0) (by omega))) ?_
  refine z_aload_n X 1 dX12_goesBy_5 rfl ?_
  refine z_iconst (v := 4) X dX12_goesBy_6 (by decide) ?_
  refine z_iald2 (v := m 4) X dX12_goesBy_7 K1 (vp_in_nI (n := 4) (by omega) (by omega)) (congrArg m (nI_clamp (n := 4) (by omega))) ?_
  refine z_aload_n X 1 dX12_goesBy_8 rfl ?_
  refine z_bipush (v := 6) X dX12_goesBy_9 (by decide) ?_
  refine z_iald2 (v := m 6) X dX12_goesBy_11 K1 (vp_in_nI (n := 6) (by omega) (by omega)) (congrArg m (nI_clamp (n := 6) (by omega))) ?_
  refine z_aload_n X 1 dX12_goesBy_12 rfl ?_
  refine z_iconst (v := 4) X dX12_goesBy_13 (by decide) ?_
  refine z_iald2 (v := m 4) X dX12_goesBy_14 K1 (vp_in_nI (n := 4) (by omega) (by omega)) (congrArg m (nI_clamp (n := 4) (by omega))) ?_
  refine z_callV X (r_gives (κ := κ) (n := n) (o := (o)) (u := (0)) (t := (m 0)) (w := (m 4)) (c := (m 6)) (wo := (m 4)) (d := (m)) (nm := (nm)) (im := (im)) (ba := (ba)) (at_ := (at_)) (sz := (sz)) (fa := (fa)) (op := (op)) (rm := (rm)) (ti := (ti)) (tm := (tm)) (wh := (wh)) K0 K1 K2 (by first | assumption | omega) (by first | assumption | omega)) mk_X12_gives dX12_goesBy_15 wd_1084 wd_1086 wd_27 rfl K0 rfl rfl rfl (Nat.le_of_ble_eq_true rfl) (Nat.le_of_ble_eq_true rfl) (Nat.le_of_ble_eq_true rfl) (by omega) (by omega) (fun q zh7 zm9 zp10 => ?_)
  obtain ⟨ba'1, at'2, sz'3, fa'4, op'5, nm'6, rfl, ze8, zn11⟩ := zp10
  subst zm9
  refine z_st (st' := [.int (gv (Tx m) tx 0 (m 0) (m 4) (m 6) (m 4))]) rfl ?_
  have zK12 : zh7 o = some (.inr (12, [.ref (o + 1), .ref (o + 2), .ref (o + 3), .int im, .ref (o + 4), .int ba'1, .int at'2, .int sz'3, .int fa'4, .int op'5, .ref (o + 5), .ref (o + 6), .int rm, .ref (o + 7), .ref (o + 8), .int ti, .ref (o + 9), .int tm, .int wh, .ref (o + 10), .ref (o + 11), .ref (o + 12), .ref (o + 13)])) := by rw [ze8]; rw [va_up_ne _ _ (show o ≠ o + 5 by omega)]; exact va_up_self _ _ _
  have zK13 : zh7 (o + 1) = arI κ 340 m := by rw [ze8]; rw [va_up_ne _ _ (show o + 1 ≠ o + 5 by omega)]; rw [va_up_ne _ _ (show o + 1 ≠ o by omega)]; exact K1
  have zK14 : zh7 (o + 5) = arI κ 3 nm'6 := by rw [ze8]; exact va_up_self _ _ _
  refine z_iconst (v := 0) X dX12_goesBy_18 (by decide) ?_
  refine z_sipush (v := 9999) X dX12_goesBy_19 (by decide) ?_
  refine z_callS X (r_held (κ := κ) (n := n) (v := (gv (Tx m) tx 0 (m 0) (m 4) (m 6) (m 4))) (lo := (0)) (hi := (9999))  ) mk_X12_held dX12_goesBy_22 wd_1134 wd_1135 rfl rfl (Nat.le_of_ble_eq_true rfl) (Nat.le_of_ble_eq_true rfl) (Nat.le_of_ble_eq_true rfl) (by omega) (by omega) (fun q zh15 zm17 zp18 => ?_)
  obtain ⟨rfl, ze16, zn19⟩ := zp18
  subst zm17
  subst zh15
  refine z_st (st' := [.int (held (gv (Tx m) tx 0 (m 0) (m 4) (m 6) (m 4)) 0 9999)]) rfl ?_
  refine z_istore_n (ls' := [(2, .int (held (gv (Tx m) tx 0 (m 0) (m 4) (m 6) (m 4)) 0 9999)), (0, .ref o), (1, .ref (o + 1))]) X dX12_goesBy_25 (by decide) rfl ?_
  refine z_aload_n X 1 dX12_goesBy_26 rfl ?_
  refine z_aload_n X 2 dX12_goesBy_27 rfl ?_
  refine z_callV X (r_coldOf (κ := κ) (n := n) (o := (o)) (a := (o + 1)) (d := (m)) (m := (m)) (nm := (nm'6)) (im := (im)) (ba := (ba'1)) (at_ := (at'2)) (sz := (sz'3)) (fa := (fa'4)) (op := (op'5)) (rm := (rm)) (ti := (ti)) (tm := (tm)) (wh := (wh)) zK12 zK13 zK14 zK13 (by first | assumption | omega) (Or.inl rfl)) mk_X12_coldOf dX12_goesBy_28 wd_1080 wd_1082 wd_26 rfl zK12 rfl rfl rfl (Nat.le_of_ble_eq_true rfl) (Nat.le_of_ble_eq_true rfl) (Nat.le_of_ble_eq_true rfl) (by omega) (by omega) (fun q zh26 zm28 zp29 => ?_)
  obtain ⟨ba'20, at'21, sz'22, fa'23, op'24, nm'25, rfl, ze27, zn30⟩ := zp29
  subst zm28
  refine z_st (st' := [.int (cldR (Tx m) tx m)]) rfl ?_
  have zK31 : zh26 o = some (.inr (12, [.ref (o + 1), .ref (o + 2), .ref (o + 3), .int im, .ref (o + 4), .int ba'20, .int at'21, .int sz'22, .int fa'23, .int op'24, .ref (o + 5), .ref (o + 6), .int rm, .ref (o + 7), .ref (o + 8), .int ti, .ref (o + 9), .int tm, .int wh, .ref (o + 10), .ref (o + 11), .ref (o + 12), .ref (o + 13)])) := by rw [ze27]; rw [va_up_ne _ _ (show o ≠ o + 5 by omega)]; exact va_up_self _ _ _
  have zK32 : zh26 (o + 1) = arI κ 340 m := by rw [ze27]; rw [va_up_ne _ _ (show o + 1 ≠ o + 5 by omega)]; rw [va_up_ne _ _ (show o + 1 ≠ o by omega)]; exact zK13
  have zK33 : zh26 (o + 5) = arI κ 3 nm'25 := by rw [ze27]; exact va_up_self _ _ _
  refine z_istore_n (ls' := [(3, .int (cldR (Tx m) tx m)), (2, .int (held (gv (Tx m) tx 0 (m 0) (m 4) (m 6) (m 4)) 0 9999)), (0, .ref o), (1, .ref (o + 1))]) X dX12_goesBy_31 (by decide) rfl ?_
  refine z_iload_n X 1 dX12_goesBy_32 rfl ?_
  refine z_aload_n X 3 dX12_goesBy_33 rfl ?_
  refine z_iconst (v := 5) X dX12_goesBy_34 (by decide) ?_
  refine z_iald2 (v := m 5) X dX12_goesBy_35 zK32 (vp_in_nI (n := 5) (by omega) (by omega)) (congrArg m (nI_clamp (n := 5) (by omega))) ?_
  refine z_imul X dX12_goesBy_36 ?_
  refine z_istore (ls' := [(4, .int ((held (gv (Tx m) tx 0 (m 0) (m 4) (m 6) (m 4)) 0 9999) * (m 5))), (3, .int (cldR (Tx m) tx m)), (2, .int (held (gv (Tx m) tx 0 (m 0) (m 4) (m 6) (m 4)) 0 9999)), (0, .ref o), (1, .ref (o + 1))]) X dX12_goesBy_37 (by decide) rfl ?_
  refine z_iconst (v := 0) X dX12_goesBy_39 (by decide) ?_
  refine z_istore (ls' := [(5, .int 0), (4, .int ((held (gv (Tx m) tx 0 (m 0) (m 4) (m 6) (m 4)) 0 9999) * (m 5))), (3, .int (cldR (Tx m) tx m)), (2, .int (held (gv (Tx m) tx 0 (m 0) (m 4) (m 6) (m 4)) 0 9999)), (0, .ref o), (1, .ref (o + 1))]) X dX12_goesBy_40 (by decide) rfl ?_
  have L42 : ∀ (jj : Nat) (hh42 : Mm)  (c : Nat) (mm : Nat → Int32) (wt : Int32) (st : Int32), (len - c < jj) → (hh42 = va_up (va_up (va_up h o (some (.inr (12, [.ref (o + 1), .ref (o + 2), .ref (o + 3), .int im, .ref (o + 4), .int ba'20, .int at'21, .int sz'22, .int fa'23, .int op'24, .ref (o + 5), .ref (o + 6), .int rm, .ref (o + 7), .ref (o + 8), .int ti, .ref (o + 9), .int tm, .int wh, .ref (o + 10), .ref (o + 11), .ref (o + 12), .ref (o + 13)])))) (o + 5) (arI κ 3 nm'25)) (o + 1) (arI κ 340 mm)) → (hc : c ≤ len) → (hm1 : mm 1 = nI len) → (hm11 : mm 11 = nI nc) → (hL : gbL (cldR (Tx m) tx m) len nc c (m, watR (Tx m) tx m, watR (Tx m) tx m * m 5) = (mm, wt, st)) → Z κ G 9 42 [(0, .ref o), (1, .ref (o + 1)), (2, .int wt), (3, .int (cldR (Tx m) tx m)), (4, .int st), (5, .int (nI c))] [] hh42 n 0 (0) := by
    intro jj
    induction jj with
    | zero => intro hh42 c mm wt st hmu; exact absurd hmu (Nat.not_lt_zero _)
    | succ jj ih42 =>
      intro hh42 c mm wt st hmu he42 hc hm1 hm11 hL
      have zK34 : hh42 o = some (.inr (12, [.ref (o + 1), .ref (o + 2), .ref (o + 3), .int im, .ref (o + 4), .int ba'20, .int at'21, .int sz'22, .int fa'23, .int op'24, .ref (o + 5), .ref (o + 6), .int rm, .ref (o + 7), .ref (o + 8), .int ti, .ref (o + 9), .int tm, .int wh, .ref (o + 10), .ref (o + 11), .ref (o + 12), .ref (o + 13)])) := by rw [he42]; rw [va_up_ne _ _ (show o ≠ o + 1 by omega)]; rw [va_up_ne _ _ (show o ≠ o + 5 by omega)]; exact va_up_self _ _ _
      have zK35 : hh42 (o + 1) = arI κ 340 mm := by rw [he42]; exact va_up_self _ _ _
      have zK36 : hh42 (o + 5) = arI κ 3 nm'25 := by rw [he42]; rw [va_up_ne _ _ (show o + 5 ≠ o + 1 by omega)]; exact va_up_self _ _ _
      refine z_iload X 5 dX12_goesBy_42 rfl ?_
      refine z_aload_n X 1 dX12_goesBy_44 rfl ?_
      refine z_iconst (v := 1) X dX12_goesBy_45 (by decide) ?_
      refine z_iald2 (v := mm 1) X dX12_goesBy_46 zK35 (vp_in_nI (n := 1) (by omega) (by omega)) (congrArg mm (nI_clamp (n := 1) (by omega))) ?_
      refine z_toe (y := nI len) (hm1) ?_
      refine z_icmp_ge X 205 dX12_goesBy_47 (by decide) (fun zc37 => ?_) (fun zc37 => ?_)
      · try replace zc37 := (nI_leI (a := len) (b := c) (by omega) (by omega)).mp zc37
        refine z_iload_n X 2 dX12_goesBy_205 rfl ?_
        refine z_if_le X 261 dX12_goesBy_206 (by decide) (fun zc38 => ?_) (fun zc38 => ?_)
        · refine z_iload_n X 2 dX12_goesBy_261 rfl ?_
          refine z_if_le X 279 dX12_goesBy_262 (by decide) (fun zc39 => ?_) (fun zc39 => ?_)
          · refine z_aload_n X 1 dX12_goesBy_279 rfl ?_
            refine z_iconst (v := 0) X dX12_goesBy_280 (by decide) ?_
            refine z_dup2 X dX12_goesBy_281 rfl rfl ?_
            refine z_iald2 (v := mm 0) X dX12_goesBy_282 zK35 (vp_in_nI (n := 0) (by omega) (by omega)) (congrArg mm (nI_clamp (n := 0) (by omega))) ?_
            refine z_iconst (v := 1) X dX12_goesBy_283 (by decide) ?_
            refine z_iadd X dX12_goesBy_284 ?_
            refine z_iast X dX12_goesBy_285 zK35 (vp_in_nI (n := 0) (by omega) (by omega)) (congrArg (fun z => va_up hh42 (o + 1) (arI κ 340 (upd mm z ((mm 0) + 1)))) (nI_clamp (n := 0) (by omega))) ?_
            obtain ⟨zh40, ze41⟩ : ∃ z : Mm, z = va_up hh42 (o + 1) (arI κ 340 (upd mm 0 ((mm 0) + 1))) := ⟨_, rfl⟩
            refine z_heap (h' := zh40) ze41.symm ?_
            have zK42 := up_off ze41 (show o ≠ o + 1 by omega) zK34
            have zK43 := up_at ze41
            have zK44 := up_off ze41 (show o + 5 ≠ o + 1 by omega) zK36
            refine z_vret X E dX12_goesBy_286 (by omega) (by omega) ⟨ba'20, at'21, sz'22, fa'23, op'24, nm'25, ?_, ?_, ?_⟩
            · rfl
            · (have hcl : c = len := by omega); rw [hcl] at hL; rw [gby_eq q1 q3 q4 q5 hL]; (first | rw [gbE_a (by assumption) (by assumption) (by omega)] | rw [gbE_b (by assumption) (Or.inl (by assumption))] | rw [gbE_b (by assumption) (Or.inr (by omega))] | rw [gbE_c (by assumption)]); rw [ze41, he42]; funext zz; simp only [va_up]; (repeat' split) <;> first | rfl | (exfalso; omega) | (simp_all; done)
            · rfl
          · first | exact absurd zc39 zc38 | exact absurd zc38 zc39 | (exfalso; omega) | (exfalso; simp only [i_eq, i_lt, i_le] at *; omega)
        · refine z_iload_n X 2 dX12_goesBy_209 rfl ?_
          refine z_aload_n X 1 dX12_goesBy_210 rfl ?_
          refine z_bipush (v := 8) X dX12_goesBy_211 (by decide) ?_
          refine z_iald2 (v := mm 8) X dX12_goesBy_213 zK35 (vp_in_nI (n := 8) (by omega) (by omega)) (congrArg mm (nI_clamp (n := 8) (by omega))) ?_
          refine z_icmp_ge X 261 dX12_goesBy_214 (by decide) (fun zc45 => ?_) (fun zc45 => ?_)
          · refine z_iload_n X 2 dX12_goesBy_261 rfl ?_
            refine z_if_le X 279 dX12_goesBy_262 (by decide) (fun zc46 => ?_) (fun zc46 => ?_)
            · first | exact absurd zc46 zc38 | exact absurd zc38 zc46 | (exfalso; omega) | (exfalso; simp only [i_eq, i_lt, i_le] at *; omega)
            · refine z_aload_n X 1 dX12_goesBy_265 rfl ?_
              refine z_iconst (v := 2) X dX12_goesBy_266 (by decide) ?_
              refine z_dup2 X dX12_goesBy_267 rfl rfl ?_
              refine z_iald2 (v := mm 2) X dX12_goesBy_268 zK35 (vp_in_nI (n := 2) (by omega) (by omega)) (congrArg mm (nI_clamp (n := 2) (by omega))) ?_
              refine z_iload_n X 2 dX12_goesBy_269 rfl ?_
              refine z_iadd X dX12_goesBy_270 ?_
              refine z_iast X dX12_goesBy_271 zK35 (vp_in_nI (n := 2) (by omega) (by omega)) (congrArg (fun z => va_up hh42 (o + 1) (arI κ 340 (upd mm z ((mm 2) + wt)))) (nI_clamp (n := 2) (by omega))) ?_
              obtain ⟨zh47, ze48⟩ : ∃ z : Mm, z = va_up hh42 (o + 1) (arI κ 340 (upd mm 2 ((mm 2) + wt))) := ⟨_, rfl⟩
              refine z_heap (h' := zh47) ze48.symm ?_
              have zK49 := up_off ze48 (show o ≠ o + 1 by omega) zK34
              have zK50 := up_at ze48
              have zK51 := up_off ze48 (show o + 5 ≠ o + 1 by omega) zK36
              refine z_aload_n X 1 dX12_goesBy_272 rfl ?_
              refine z_iconst (v := 3) X dX12_goesBy_273 (by decide) ?_
              refine z_dup2 X dX12_goesBy_274 rfl rfl ?_
              refine z_iald2 (v := mm 3) X dX12_goesBy_275 zK50 (vp_in_nI (n := 3) (by omega) (by omega)) ((congrArg (upd mm 2 ((mm 2) + wt)) (nI_clamp (n := 3) (by omega))).trans (pk_un (show 3 ≠ 2 by omega))) ?_
              refine z_iconst (v := 1) X dX12_goesBy_276 (by decide) ?_
              refine z_iadd X dX12_goesBy_277 ?_
              refine z_iast X dX12_goesBy_278 zK50 (vp_in_nI (n := 3) (by omega) (by omega)) (congrArg (fun z => va_up zh47 (o + 1) (arI κ 340 (upd (upd mm 2 ((mm 2) + wt)) z ((mm 3) + 1)))) (nI_clamp (n := 3) (by omega))) ?_
              obtain ⟨zh52, ze53⟩ : ∃ z : Mm, z = va_up zh47 (o + 1) (arI κ 340 (upd (upd mm 2 ((mm 2) + wt)) 3 ((mm 3) + 1))) := ⟨_, rfl⟩
              refine z_heap (h' := zh52) ze53.symm ?_
              have zK54 := up_off ze53 (show o ≠ o + 1 by omega) zK49
              have zK55 := up_at ze53
              have zK56 := up_off ze53 (show o + 5 ≠ o + 1 by omega) zK51
              refine z_aload_n X 1 dX12_goesBy_279 rfl ?_
              refine z_iconst (v := 0) X dX12_goesBy_280 (by decide) ?_
              refine z_dup2 X dX12_goesBy_281 rfl rfl ?_
              refine z_iald2 (v := mm 0) X dX12_goesBy_282 zK55 (vp_in_nI (n := 0) (by omega) (by omega)) (((congrArg (upd (upd mm 2 ((mm 2) + wt)) 3 ((mm 3) + 1)) (nI_clamp (n := 0) (by omega))).trans (pk_un (show 0 ≠ 3 by omega))).trans (pk_un (show 0 ≠ 2 by omega))) ?_
              refine z_iconst (v := 1) X dX12_goesBy_283 (by decide) ?_
              refine z_iadd X dX12_goesBy_284 ?_
              refine z_iast X dX12_goesBy_285 zK55 (vp_in_nI (n := 0) (by omega) (by omega)) (congrArg (fun z => va_up zh52 (o + 1) (arI κ 340 (upd (upd (upd mm 2 ((mm 2) + wt)) 3 ((mm 3) + 1)) z ((mm 0) + 1)))) (nI_clamp (n := 0) (by omega))) ?_
              obtain ⟨zh57, ze58⟩ : ∃ z : Mm, z = va_up zh52 (o + 1) (arI κ 340 (upd (upd (upd mm 2 ((mm 2) + wt)) 3 ((mm 3) + 1)) 0 ((mm 0) + 1))) := ⟨_, rfl⟩
              refine z_heap (h' := zh57) ze58.symm ?_
              have zK59 := up_off ze58 (show o ≠ o + 1 by omega) zK54
              have zK60 := up_at ze58
              have zK61 := up_off ze58 (show o + 5 ≠ o + 1 by omega) zK56
              refine z_vret X E dX12_goesBy_286 (by omega) (by omega) ⟨ba'20, at'21, sz'22, fa'23, op'24, nm'25, ?_, ?_, ?_⟩
              · rfl
              · (have hcl : c = len := by omega); rw [hcl] at hL; rw [gby_eq q1 q3 q4 q5 hL]; (first | rw [gbE_a (by assumption) (by assumption) (by omega)] | rw [gbE_b (by assumption) (Or.inl (by assumption))] | rw [gbE_b (by assumption) (Or.inr (by omega))] | rw [gbE_c (by assumption)]); rw [ze58, ze53, ze48, he42]; funext zz; simp only [va_up]; (repeat' split) <;> first | rfl | (exfalso; omega) | (simp_all; done)
              · rfl
          · refine z_aload_n X 1 dX12_goesBy_217 rfl ?_
            refine z_iconst (v := 1) X dX12_goesBy_218 (by decide) ?_
            refine z_iald2 (v := mm 1) X dX12_goesBy_219 zK35 (vp_in_nI (n := 1) (by omega) (by omega)) (congrArg mm (nI_clamp (n := 1) (by omega))) ?_
            refine z_toe (y := nI len) (hm1) ?_
            refine z_bipush (v := 40) X dX12_goesBy_220 (by decide) ?_
            refine z_icmp_ge X 261 dX12_goesBy_222 (by decide) (fun zc62 => ?_) (fun zc62 => ?_)
            · try replace zc62 := (nI_leI (a := 40) (b := len) (by omega) (by omega)).mp zc62
              refine z_iload_n X 2 dX12_goesBy_261 rfl ?_
              refine z_if_le X 279 dX12_goesBy_262 (by decide) (fun zc63 => ?_) (fun zc63 => ?_)
              · first | exact absurd zc63 zc38 | exact absurd zc38 zc63 | (exfalso; omega) | (exfalso; simp only [i_eq, i_lt, i_le] at *; omega)
              · refine z_aload_n X 1 dX12_goesBy_265 rfl ?_
                refine z_iconst (v := 2) X dX12_goesBy_266 (by decide) ?_
                refine z_dup2 X dX12_goesBy_267 rfl rfl ?_
                refine z_iald2 (v := mm 2) X dX12_goesBy_268 zK35 (vp_in_nI (n := 2) (by omega) (by omega)) (congrArg mm (nI_clamp (n := 2) (by omega))) ?_
                refine z_iload_n X 2 dX12_goesBy_269 rfl ?_
                refine z_iadd X dX12_goesBy_270 ?_
                refine z_iast X dX12_goesBy_271 zK35 (vp_in_nI (n := 2) (by omega) (by omega)) (congrArg (fun z => va_up hh42 (o + 1) (arI κ 340 (upd mm z ((mm 2) + wt)))) (nI_clamp (n := 2) (by omega))) ?_
                obtain ⟨zh64, ze65⟩ : ∃ z : Mm, z = va_up hh42 (o + 1) (arI κ 340 (upd mm 2 ((mm 2) + wt))) := ⟨_, rfl⟩
                refine z_heap (h' := zh64) ze65.symm ?_
                have zK66 := up_off ze65 (show o ≠ o + 1 by omega) zK34
                have zK67 := up_at ze65
                have zK68 := up_off ze65 (show o + 5 ≠ o + 1 by omega) zK36
                refine z_aload_n X 1 dX12_goesBy_272 rfl ?_
                refine z_iconst (v := 3) X dX12_goesBy_273 (by decide) ?_
                refine z_dup2 X dX12_goesBy_274 rfl rfl ?_
                refine z_iald2 (v := mm 3) X dX12_goesBy_275 zK67 (vp_in_nI (n := 3) (by omega) (by omega)) ((congrArg (upd mm 2 ((mm 2) + wt)) (nI_clamp (n := 3) (by omega))).trans (pk_un (show 3 ≠ 2 by omega))) ?_
                refine z_iconst (v := 1) X dX12_goesBy_276 (by decide) ?_
                refine z_iadd X dX12_goesBy_277 ?_
                refine z_iast X dX12_goesBy_278 zK67 (vp_in_nI (n := 3) (by omega) (by omega)) (congrArg (fun z => va_up zh64 (o + 1) (arI κ 340 (upd (upd mm 2 ((mm 2) + wt)) z ((mm 3) + 1)))) (nI_clamp (n := 3) (by omega))) ?_
                obtain ⟨zh69, ze70⟩ : ∃ z : Mm, z = va_up zh64 (o + 1) (arI κ 340 (upd (upd mm 2 ((mm 2) + wt)) 3 ((mm 3) + 1))) := ⟨_, rfl⟩
                refine z_heap (h' := zh69) ze70.symm ?_
                have zK71 := up_off ze70 (show o ≠ o + 1 by omega) zK66
                have zK72 := up_at ze70
                have zK73 := up_off ze70 (show o + 5 ≠ o + 1 by omega) zK68
                refine z_aload_n X 1 dX12_goesBy_279 rfl ?_
                refine z_iconst (v := 0) X dX12_goesBy_280 (by decide) ?_
                refine z_dup2 X dX12_goesBy_281 rfl rfl ?_
                refine z_iald2 (v := mm 0) X dX12_goesBy_282 zK72 (vp_in_nI (n := 0) (by omega) (by omega)) (((congrArg (upd (upd mm 2 ((mm 2) + wt)) 3 ((mm 3) + 1)) (nI_clamp (n := 0) (by omega))).trans (pk_un (show 0 ≠ 3 by omega))).trans (pk_un (show 0 ≠ 2 by omega))) ?_
                refine z_iconst (v := 1) X dX12_goesBy_283 (by decide) ?_
                refine z_iadd X dX12_goesBy_284 ?_
                refine z_iast X dX12_goesBy_285 zK72 (vp_in_nI (n := 0) (by omega) (by omega)) (congrArg (fun z => va_up zh69 (o + 1) (arI κ 340 (upd (upd (upd mm 2 ((mm 2) + wt)) 3 ((mm 3) + 1)) z ((mm 0) + 1)))) (nI_clamp (n := 0) (by omega))) ?_
                obtain ⟨zh74, ze75⟩ : ∃ z : Mm, z = va_up zh69 (o + 1) (arI κ 340 (upd (upd (upd mm 2 ((mm 2) + wt)) 3 ((mm 3) + 1)) 0 ((mm 0) + 1))) := ⟨_, rfl⟩
                refine z_heap (h' := zh74) ze75.symm ?_
                have zK76 := up_off ze75 (show o ≠ o + 1 by omega) zK71
                have zK77 := up_at ze75
                have zK78 := up_off ze75 (show o + 5 ≠ o + 1 by omega) zK73
                refine z_vret X E dX12_goesBy_286 (by omega) (by omega) ⟨ba'20, at'21, sz'22, fa'23, op'24, nm'25, ?_, ?_, ?_⟩
                · rfl
                · (have hcl : c = len := by omega); rw [hcl] at hL; rw [gby_eq q1 q3 q4 q5 hL]; (first | rw [gbE_a (by assumption) (by assumption) (by omega)] | rw [gbE_b (by assumption) (Or.inl (by assumption))] | rw [gbE_b (by assumption) (Or.inr (by omega))] | rw [gbE_c (by assumption)]); rw [ze75, ze70, ze65, he42]; funext zz; simp only [va_up]; (repeat' split) <;> first | rfl | (exfalso; omega) | (simp_all; done)
                · rfl
            · try replace zc62 := mt (nI_leI (a := 40) (b := len) (by omega) (by omega)).mpr zc62
              refine z_aload_n X 1 dX12_goesBy_225 rfl ?_
              refine z_bipush (v := 100) X dX12_goesBy_226 (by decide) ?_
              refine z_aload_n X 1 dX12_goesBy_228 rfl ?_
              refine z_iconst (v := 1) X dX12_goesBy_229 (by decide) ?_
              refine z_iald2 (v := mm 1) X dX12_goesBy_230 zK35 (vp_in_nI (n := 1) (by omega) (by omega)) (congrArg mm (nI_clamp (n := 1) (by omega))) ?_
              refine z_toe (y := nI len) (hm1) ?_
              refine z_iadd X dX12_goesBy_231 ?_
              refine z_toe (y := nI (100 + len)) (nI_add (100) (len)) ?_
              refine z_iload_n X 2 dX12_goesBy_232 rfl ?_
              refine z_iast X dX12_goesBy_233 zK35 (vp_in_nI (n := 100 + len) (by omega) (by omega)) (congrArg (fun z => va_up hh42 (o + 1) (arI κ 340 (upd mm z wt))) (nI_clamp (n := 100 + len) (by omega))) ?_
              obtain ⟨zh79, ze80⟩ : ∃ z : Mm, z = va_up hh42 (o + 1) (arI κ 340 (upd mm (100 + len) wt)) := ⟨_, rfl⟩
              refine z_heap (h' := zh79) ze80.symm ?_
              have zK81 := up_off ze80 (show o ≠ o + 1 by omega) zK34
              have zK82 := up_at ze80
              have zK83 := up_off ze80 (show o + 5 ≠ o + 1 by omega) zK36
              refine z_aload_n X 1 dX12_goesBy_234 rfl ?_
              refine z_sipush (v := 140) X dX12_goesBy_235 (by decide) ?_
              refine z_aload_n X 1 dX12_goesBy_238 rfl ?_
              refine z_iconst (v := 1) X dX12_goesBy_239 (by decide) ?_
              refine z_iald2 (v := mm 1) X dX12_goesBy_240 zK82 (vp_in_nI (n := 1) (by omega) (by omega)) ((congrArg (upd mm (100 + len) wt) (nI_clamp (n := 1) (by omega))).trans (pk_un (show 1 ≠ 100 + len by omega))) ?_
              refine z_toe (y := nI len) (hm1) ?_
              refine z_iadd X dX12_goesBy_241 ?_
              refine z_toe (y := nI (140 + len)) (nI_add (140) (len)) ?_
              refine z_iload X 4 dX12_goesBy_242 rfl ?_
              refine z_iconst (v := 0) X dX12_goesBy_244 (by decide) ?_
              refine z_ldc X dX12_goesBy_245 wd_1168 ?_
              refine z_callS X (r_held (κ := κ) (n := n) (v := (st)) (lo := (0)) (hi := (999999))  ) mk_X12_held dX12_goesBy_247 wd_1134 wd_1135 rfl rfl (Nat.le_of_ble_eq_true rfl) (Nat.le_of_ble_eq_true rfl) (Nat.le_of_ble_eq_true rfl) (by omega) (by omega) (fun q zh84 zm86 zp87 => ?_)
              obtain ⟨rfl, ze85, zn88⟩ := zp87
              subst zm86
              subst zh84
              refine z_st (st' := [.int (held st 0 999999), .int (nI (140 + len)), .ref (o + 1)]) rfl ?_
              refine z_iast X dX12_goesBy_250 zK82 (vp_in_nI (n := 140 + len) (by omega) (by omega)) (congrArg (fun z => va_up zh79 (o + 1) (arI κ 340 (upd (upd mm (100 + len) wt) z (held st 0 999999)))) (nI_clamp (n := 140 + len) (by omega))) ?_
              obtain ⟨zh89, ze90⟩ : ∃ z : Mm, z = va_up zh79 (o + 1) (arI κ 340 (upd (upd mm (100 + len) wt) (140 + len) (held st 0 999999))) := ⟨_, rfl⟩
              refine z_heap (h' := zh89) ze90.symm ?_
              have zK91 := up_off ze90 (show o ≠ o + 1 by omega) zK81
              have zK92 := up_at ze90
              have zK93 := up_off ze90 (show o + 5 ≠ o + 1 by omega) zK83
              refine z_aload_n X 1 dX12_goesBy_251 rfl ?_
              refine z_iconst (v := 1) X dX12_goesBy_252 (by decide) ?_
              refine z_dup2 X dX12_goesBy_253 rfl rfl ?_
              refine z_iald2 (v := mm 1) X dX12_goesBy_254 zK92 (vp_in_nI (n := 1) (by omega) (by omega)) (((congrArg (upd (upd mm (100 + len) wt) (140 + len) (held st 0 999999)) (nI_clamp (n := 1) (by omega))).trans (pk_un (show 1 ≠ 140 + len by omega))).trans (pk_un (show 1 ≠ 100 + len by omega))) ?_
              refine z_toe (y := nI len) (hm1) ?_
              refine z_iconst (v := 1) X dX12_goesBy_255 (by decide) ?_
              refine z_iadd X dX12_goesBy_256 ?_
              refine z_toe (y := nI (len + 1)) (nI_add (len) (1)) ?_
              refine z_iast X dX12_goesBy_257 zK92 (vp_in_nI (n := 1) (by omega) (by omega)) (congrArg (fun z => va_up zh89 (o + 1) (arI κ 340 (upd (upd (upd mm (100 + len) wt) (140 + len) (held st 0 999999)) z (nI (len + 1))))) (nI_clamp (n := 1) (by omega))) ?_
              obtain ⟨zh94, ze95⟩ : ∃ z : Mm, z = va_up zh89 (o + 1) (arI κ 340 (upd (upd (upd mm (100 + len) wt) (140 + len) (held st 0 999999)) 1 (nI (len + 1)))) := ⟨_, rfl⟩
              refine z_heap (h' := zh94) ze95.symm ?_
              have zK96 := up_off ze95 (show o ≠ o + 1 by omega) zK91
              have zK97 := up_at ze95
              have zK98 := up_off ze95 (show o + 5 ≠ o + 1 by omega) zK93
              refine z_goto X 279 dX12_goesBy_258 (by decide) ?_
              refine z_aload_n X 1 dX12_goesBy_279 rfl ?_
              refine z_iconst (v := 0) X dX12_goesBy_280 (by decide) ?_
              refine z_dup2 X dX12_goesBy_281 rfl rfl ?_
              refine z_iald2 (v := mm 0) X dX12_goesBy_282 zK97 (vp_in_nI (n := 0) (by omega) (by omega)) ((((congrArg (upd (upd (upd mm (100 + len) wt) (140 + len) (held st 0 999999)) 1 (nI (len + 1))) (nI_clamp (n := 0) (by omega))).trans (pk_un (show 0 ≠ 1 by omega))).trans (pk_un (show 0 ≠ 140 + len by omega))).trans (pk_un (show 0 ≠ 100 + len by omega))) ?_
              refine z_iconst (v := 1) X dX12_goesBy_283 (by decide) ?_
              refine z_iadd X dX12_goesBy_284 ?_
              refine z_iast X dX12_goesBy_285 zK97 (vp_in_nI (n := 0) (by omega) (by omega)) (congrArg (fun z => va_up zh94 (o + 1) (arI κ 340 (upd (upd (upd (upd mm (100 + len) wt) (140 + len) (held st 0 999999)) 1 (nI (len + 1))) z ((mm 0) + 1)))) (nI_clamp (n := 0) (by omega))) ?_
              obtain ⟨zh99, ze100⟩ : ∃ z : Mm, z = va_up zh94 (o + 1) (arI κ 340 (upd (upd (upd (upd mm (100 + len) wt) (140 + len) (held st 0 999999)) 1 (nI (len + 1))) 0 ((mm 0) + 1))) := ⟨_, rfl⟩
              refine z_heap (h' := zh99) ze100.symm ?_
              have zK101 := up_off ze100 (show o ≠ o + 1 by omega) zK96
              have zK102 := up_at ze100
              have zK103 := up_off ze100 (show o + 5 ≠ o + 1 by omega) zK98
              refine z_vret X E dX12_goesBy_286 (by omega) (by omega) ⟨ba'20, at'21, sz'22, fa'23, op'24, nm'25, ?_, ?_, ?_⟩
              · rfl
              · (have hcl : c = len := by omega); rw [hcl] at hL; rw [gby_eq q1 q3 q4 q5 hL]; (first | rw [gbE_a (by assumption) (by assumption) (by omega)] | rw [gbE_b (by assumption) (Or.inl (by assumption))] | rw [gbE_b (by assumption) (Or.inr (by omega))] | rw [gbE_c (by assumption)]); rw [ze100, ze95, ze90, ze80, he42]; funext zz; simp only [va_up]; (repeat' split) <;> first | rfl | (exfalso; omega) | (simp_all; done)
              · rfl
      · try replace zc37 := mt (nI_leI (a := len) (b := c) (by omega) (by omega)).mpr zc37
        refine z_iconst (v := 0) X dX12_goesBy_50 (by decide) ?_
        refine z_istore (ls' := [(6, .int 0), (0, .ref o), (1, .ref (o + 1)), (2, .int wt), (3, .int (cldR (Tx m) tx m)), (4, .int st), (5, .int (nI c))]) X dX12_goesBy_51 (by decide) rfl ?_
        refine z_iconst (v := 0) X dX12_goesBy_53 (by decide) ?_
        refine z_istore (ls' := [(7, .int 0), (6, .int 0), (0, .ref o), (1, .ref (o + 1)), (2, .int wt), (3, .int (cldR (Tx m) tx m)), (4, .int st), (5, .int (nI c))]) X dX12_goesBy_54 (by decide) rfl ?_
        have L56 : ∀ (jj : Nat)  (k : Nat) (acc : Int32), (nc - k < jj) → (hk : k ≤ nc) → (hacc : acc = sumN (frF mm len c wt st (cldR (Tx m) tx m)) k) → Z κ G 9 56 [(0, .ref o), (1, .ref (o + 1)), (2, .int wt), (3, .int (cldR (Tx m) tx m)), (4, .int st), (5, .int (nI c)), (6, .int acc), (7, .int (nI k))] [] hh42 n 0 (0) := by
          intro jj
          induction jj with
          | zero => intro  k acc hmu; exact absurd hmu (Nat.not_lt_zero _)
          | succ jj ih56 =>
            intro  k acc hmu  hk hacc
            refine z_iload X 7 dX12_goesBy_56 rfl ?_
            refine z_aload_n X 1 dX12_goesBy_58 rfl ?_
            refine z_bipush (v := 11) X dX12_goesBy_59 (by decide) ?_
            refine z_iald2 (v := mm 11) X dX12_goesBy_61 zK35 (vp_in_nI (n := 11) (by omega) (by omega)) (congrArg mm (nI_clamp (n := 11) (by omega))) ?_
            refine z_toe (y := nI nc) (hm11) ?_
            refine z_icmp_ge X 105 dX12_goesBy_62 (by decide) (fun zc107 => ?_) (fun zc107 => ?_)
            · try replace zc107 := (nI_leI (a := nc) (b := k) (by omega) (by omega)).mp zc107
              refine z_iload X 6 dX12_goesBy_105 rfl ?_
              refine z_iconst (v := 0) X dX12_goesBy_107 (by decide) ?_
              refine z_iload_n X 2 dX12_goesBy_108 rfl ?_
              refine z_callS X (r_held (κ := κ) (n := n) (v := (acc)) (lo := (0)) (hi := (wt))  ) mk_X12_held dX12_goesBy_109 wd_1134 wd_1135 rfl rfl (Nat.le_of_ble_eq_true rfl) (Nat.le_of_ble_eq_true rfl) (Nat.le_of_ble_eq_true rfl) (by omega) (by omega) (fun q zh108 zm110 zp111 => ?_)
              obtain ⟨rfl, ze109, zn112⟩ := zp111
              subst zm110
              subst zh108
              refine z_st (st' := [.int (held acc 0 wt)]) rfl ?_
              refine z_istore (ls' := [(7, .int (held acc 0 wt)), (0, .ref o), (1, .ref (o + 1)), (2, .int wt), (3, .int (cldR (Tx m) tx m)), (4, .int st), (5, .int (nI c)), (6, .int acc)]) X dX12_goesBy_112 (by decide) rfl ?_
              refine z_iload_n X 3 dX12_goesBy_114 rfl ?_
              refine z_if_ne X 122 dX12_goesBy_115 (by decide) (fun zc113 => ?_) (fun zc113 => ?_)
              · refine z_iload X 5 dX12_goesBy_122 rfl ?_
                refine z_i2l X dX12_goesBy_124 rfl ?_
                refine z_iload X 0 dX12_goesBy_125 rfl ?_
                refine z_i2l X dX12_goesBy_127 rfl ?_
                refine z_lmul X dX12_goesBy_128 ?_
                refine z_ldc2 X dX12_goesBy_129 wd_1017 ?_
                refine z_iload_n X 3 dX12_goesBy_132 rfl ?_
                refine z_i2l X dX12_goesBy_133 rfl ?_
                refine z_lmul X dX12_goesBy_134 ?_
                refine z_ldiv X dX12_goesBy_135 (l2w_ne (by assumption)) ?_
                refine z_l2i X dX12_goesBy_136 rfl ?_
                refine z_istore (ls' := [(8, .int (((st.toInt64 * ((held acc 0 wt).toInt64)) / (((2 : Int64)) * wt.toInt64)).toInt32)), (7, .int (held acc 0 wt)), (0, .ref o), (1, .ref (o + 1)), (2, .int wt), (3, .int (cldR (Tx m) tx m)), (4, .int st), (5, .int (nI c)), (6, .int acc)]) X dX12_goesBy_137 (by decide) rfl ?_
                refine z_aload_n X 3 dX12_goesBy_139 rfl ?_
                refine z_bipush (v := 100) X dX12_goesBy_140 (by decide) ?_
                refine z_iload X 7 dX12_goesBy_142 rfl ?_
                refine z_iadd X dX12_goesBy_144 ?_
                refine z_toe (y := nI (100 + c)) (nI_add (100) (c)) ?_
                refine z_aload_n X 3 dX12_goesBy_145 rfl ?_
                refine z_bipush (v := 100) X dX12_goesBy_146 (by decide) ?_
                refine z_iload X 7 dX12_goesBy_148 rfl ?_
                refine z_iadd X dX12_goesBy_150 ?_
                refine z_toe (y := nI (100 + c)) (nI_add (100) (c)) ?_
                refine z_iald2 (v := mm (100 + c)) X dX12_goesBy_151 zK35 (vp_in_nI (n := 100 + c) (by omega) (by omega)) (congrArg mm (nI_clamp (n := 100 + c) (by omega))) ?_
                refine z_iload X 1 dX12_goesBy_152 rfl ?_
                refine z_iadd X dX12_goesBy_154 ?_
                refine z_iconst (v := 0) X dX12_goesBy_155 (by decide) ?_
                refine z_ldc X dX12_goesBy_156 wd_1167 ?_
                refine z_callS X (r_held (κ := κ) (n := n) (v := ((mm (100 + c)) + (held acc 0 wt))) (lo := (0)) (hi := (99999))  ) mk_X12_held dX12_goesBy_158 wd_1134 wd_1135 rfl rfl (Nat.le_of_ble_eq_true rfl) (Nat.le_of_ble_eq_true rfl) (Nat.le_of_ble_eq_true rfl) (by omega) (by omega) (fun q zh114 zm116 zp117 => ?_)
                obtain ⟨rfl, ze115, zn118⟩ := zp117
                subst zm116
                subst zh114
                refine z_st (st' := [.int (held ((mm (100 + c)) + (held acc 0 wt)) 0 99999), .int (nI (100 + c)), .ref (o + 1)]) rfl ?_
                refine z_iast X dX12_goesBy_161 zK35 (vp_in_nI (n := 100 + c) (by omega) (by omega)) (congrArg (fun z => va_up hh42 (o + 1) (arI κ 340 (upd mm z (held ((mm (100 + c)) + (held acc 0 wt)) 0 99999)))) (nI_clamp (n := 100 + c) (by omega))) ?_
                obtain ⟨zh119, ze120⟩ : ∃ z : Mm, z = va_up hh42 (o + 1) (arI κ 340 (upd mm (100 + c) (held ((mm (100 + c)) + (held acc 0 wt)) 0 99999))) := ⟨_, rfl⟩
                refine z_heap (h' := zh119) ze120.symm ?_
                have zK121 := up_off ze120 (show o ≠ o + 1 by omega) zK34
                have zK122 := up_at ze120
                have zK123 := up_off ze120 (show o + 5 ≠ o + 1 by omega) zK36
                refine z_aload_n X 3 dX12_goesBy_162 rfl ?_
                refine z_sipush (v := 140) X dX12_goesBy_163 (by decide) ?_
                refine z_iload X 7 dX12_goesBy_166 rfl ?_
                refine z_iadd X dX12_goesBy_168 ?_
                refine z_toe (y := nI (140 + c)) (nI_add (140) (c)) ?_
                refine z_aload_n X 3 dX12_goesBy_169 rfl ?_
                refine z_sipush (v := 140) X dX12_goesBy_170 (by decide) ?_
                refine z_iload X 7 dX12_goesBy_173 rfl ?_
                refine z_iadd X dX12_goesBy_175 ?_
                refine z_toe (y := nI (140 + c)) (nI_add (140) (c)) ?_
                refine z_iald2 (v := mm (140 + c)) X dX12_goesBy_176 zK122 (vp_in_nI (n := 140 + c) (by omega) (by omega)) ((congrArg (upd mm (100 + c) (held ((mm (100 + c)) + (held acc 0 wt)) 0 99999)) (nI_clamp (n := 140 + c) (by omega))).trans (pk_un (show 140 + c ≠ 100 + c by omega))) ?_
                refine z_iload X 0 dX12_goesBy_177 rfl ?_
                refine z_iadd X dX12_goesBy_179 ?_
                refine z_iconst (v := 0) X dX12_goesBy_180 (by decide) ?_
                refine z_ldc X dX12_goesBy_181 wd_1168 ?_
                refine z_callS X (r_held (κ := κ) (n := n) (v := ((mm (140 + c)) + (((st.toInt64 * ((held acc 0 wt).toInt64)) / (((2 : Int64)) * wt.toInt64)).toInt32))) (lo := (0)) (hi := (999999))  ) mk_X12_held dX12_goesBy_183 wd_1134 wd_1135 rfl rfl (Nat.le_of_ble_eq_true rfl) (Nat.le_of_ble_eq_true rfl) (Nat.le_of_ble_eq_true rfl) (by omega) (by omega) (fun q zh124 zm126 zp127 => ?_)
                obtain ⟨rfl, ze125, zn128⟩ := zp127
                subst zm126
                subst zh124
                refine z_st (st' := [.int (held ((mm (140 + c)) + (((st.toInt64 * ((held acc 0 wt).toInt64)) / (((2 : Int64)) * wt.toInt64)).toInt32)) 0 999999), .int (nI (140 + c)), .ref (o + 1)]) rfl ?_
                refine z_iast X dX12_goesBy_186 zK122 (vp_in_nI (n := 140 + c) (by omega) (by omega)) (congrArg (fun z => va_up zh119 (o + 1) (arI κ 340 (upd (upd mm (100 + c) (held ((mm (100 + c)) + (held acc 0 wt)) 0 99999)) z (held ((mm (140 + c)) + (((st.toInt64 * ((held acc 0 wt).toInt64)) / (((2 : Int64)) * wt.toInt64)).toInt32)) 0 999999)))) (nI_clamp (n := 140 + c) (by omega))) ?_
                obtain ⟨zh129, ze130⟩ : ∃ z : Mm, z = va_up zh119 (o + 1) (arI κ 340 (upd (upd mm (100 + c) (held ((mm (100 + c)) + (held acc 0 wt)) 0 99999)) (140 + c) (held ((mm (140 + c)) + (((st.toInt64 * ((held acc 0 wt).toInt64)) / (((2 : Int64)) * wt.toInt64)).toInt32)) 0 999999))) := ⟨_, rfl⟩
                refine z_heap (h' := zh129) ze130.symm ?_
                have zK131 := up_off ze130 (show o ≠ o + 1 by omega) zK121
                have zK132 := up_at ze130
                have zK133 := up_off ze130 (show o + 5 ≠ o + 1 by omega) zK123
                refine z_iload_n X 4 dX12_goesBy_187 rfl ?_
                refine z_iload X 1 dX12_goesBy_188 rfl ?_
                refine z_isub X dX12_goesBy_190 ?_
                refine z_istore_n (ls' := [(2, .int (wt - (held acc 0 wt))), (8, .int (((st.toInt64 * ((held acc 0 wt).toInt64)) / (((2 : Int64)) * wt.toInt64)).toInt32)), (7, .int (held acc 0 wt)), (0, .ref o), (1, .ref (o + 1)), (3, .int (cldR (Tx m) tx m)), (4, .int st), (5, .int (nI c)), (6, .int acc)]) X dX12_goesBy_191 (by decide) rfl ?_
                refine z_iload X 6 dX12_goesBy_192 rfl ?_
                refine z_iload X 1 dX12_goesBy_194 rfl ?_
                refine z_isub X dX12_goesBy_196 ?_
                refine z_istore (ls' := [(4, .int (st - (((st.toInt64 * ((held acc 0 wt).toInt64)) / (((2 : Int64)) * wt.toInt64)).toInt32))), (2, .int (wt - (held acc 0 wt))), (8, .int (((st.toInt64 * ((held acc 0 wt).toInt64)) / (((2 : Int64)) * wt.toInt64)).toInt32)), (7, .int (held acc 0 wt)), (0, .ref o), (1, .ref (o + 1)), (3, .int (cldR (Tx m) tx m)), (5, .int (nI c)), (6, .int acc)]) X dX12_goesBy_197 (by decide) rfl ?_
                refine z_iinc (v := nI (c + 1)) (ls' := [(5, .int (nI (c + 1))), (4, .int (st - (((st.toInt64 * ((held acc 0 wt).toInt64)) / (((2 : Int64)) * wt.toInt64)).toInt32))), (2, .int (wt - (held acc 0 wt))), (8, .int (((st.toInt64 * ((held acc 0 wt).toInt64)) / (((2 : Int64)) * wt.toInt64)).toInt32)), (7, .int (held acc 0 wt)), (0, .ref o), (1, .ref (o + 1)), (3, .int (cldR (Tx m) tx m)), (6, .int acc)]) X 7 dX12_goesBy_199 rfl (nI_1 (c)) (by decide) rfl ?_
                refine z_goto X 42 dX12_goesBy_202 (by decide) ?_
                refine z_sub (ls' := [(0, .ref o), (1, .ref (o + 1)), (2, .int (wt - (held acc 0 wt))), (3, .int (cldR (Tx m) tx m)), (4, .int (st - (((st.toInt64 * ((held acc 0 wt).toInt64)) / (((2 : Int64)) * wt.toInt64)).toInt32))), (5, .int (nI (c + 1)))]) [5, 6, 2, 7, 1, 0] rfl ?_
                exact ih42 _ (c + 1) (upd (upd mm (100 + c) (held ((mm (100 + c)) + (held acc 0 wt)) 0 99999)) (140 + c) (held ((mm (140 + c)) + (((st.toInt64 * ((held acc 0 wt).toInt64)) / (((2 : Int64)) * wt.toInt64)).toInt32)) 0 999999)) (wt - (held acc 0 wt)) (st - (((st.toInt64 * ((held acc 0 wt).toInt64)) / (((2 : Int64)) * wt.toInt64)).toInt32)) (by omega) (by first | (rw [ze130, ze120, he42]; done) | (rw [ze130, ze120, he42]; simp only [up_up]; done) | (rw [ze130, ze120, he42]; funext zz; simp only [va_up]; (repeat' split) <;> first | rfl | (exfalso; omega) | simp_all)) (by first | assumption | rfl | omega) (by exact (pk_un (by omega)).trans ((pk_un (by omega)).trans hm1)) (by exact (pk_un (by omega)).trans ((pk_un (by omega)).trans hm11)) (by exact gbL_s hL (gbS_eq (hacc.trans (congrArg (sumN _) (show k = nc by omega))) (by unfold staysR; first | rw [if_pos (by assumption)] | rw [if_neg (by assumption)])))
              · refine z_iconst (v := 0) X dX12_goesBy_118 (by decide) ?_
                refine z_goto X 137 dX12_goesBy_119 (by decide) ?_
                refine z_istore (ls' := [(8, .int 0), (7, .int (held acc 0 wt)), (0, .ref o), (1, .ref (o + 1)), (2, .int wt), (3, .int (cldR (Tx m) tx m)), (4, .int st), (5, .int (nI c)), (6, .int acc)]) X dX12_goesBy_137 (by decide) rfl ?_
                refine z_aload_n X 3 dX12_goesBy_139 rfl ?_
                refine z_bipush (v := 100) X dX12_goesBy_140 (by decide) ?_
                refine z_iload X 7 dX12_goesBy_142 rfl ?_
                refine z_iadd X dX12_goesBy_144 ?_
                refine z_toe (y := nI (100 + c)) (nI_add (100) (c)) ?_
                refine z_aload_n X 3 dX12_goesBy_145 rfl ?_
                refine z_bipush (v := 100) X dX12_goesBy_146 (by decide) ?_
                refine z_iload X 7 dX12_goesBy_148 rfl ?_
                refine z_iadd X dX12_goesBy_150 ?_
                refine z_toe (y := nI (100 + c)) (nI_add (100) (c)) ?_
                refine z_iald2 (v := mm (100 + c)) X dX12_goesBy_151 zK35 (vp_in_nI (n := 100 + c) (by omega) (by omega)) (congrArg mm (nI_clamp (n := 100 + c) (by omega))) ?_
                refine z_iload X 1 dX12_goesBy_152 rfl ?_
                refine z_iadd X dX12_goesBy_154 ?_
                refine z_iconst (v := 0) X dX12_goesBy_155 (by decide) ?_
                refine z_ldc X dX12_goesBy_156 wd_1167 ?_
                refine z_callS X (r_held (κ := κ) (n := n) (v := ((mm (100 + c)) + (held acc 0 wt))) (lo := (0)) (hi := (99999))  ) mk_X12_held dX12_goesBy_158 wd_1134 wd_1135 rfl rfl (Nat.le_of_ble_eq_true rfl) (Nat.le_of_ble_eq_true rfl) (Nat.le_of_ble_eq_true rfl) (by omega) (by omega) (fun q zh134 zm136 zp137 => ?_)
                obtain ⟨rfl, ze135, zn138⟩ := zp137
                subst zm136
                subst zh134
                refine z_st (st' := [.int (held ((mm (100 + c)) + (held acc 0 wt)) 0 99999), .int (nI (100 + c)), .ref (o + 1)]) rfl ?_
                refine z_iast X dX12_goesBy_161 zK35 (vp_in_nI (n := 100 + c) (by omega) (by omega)) (congrArg (fun z => va_up hh42 (o + 1) (arI κ 340 (upd mm z (held ((mm (100 + c)) + (held acc 0 wt)) 0 99999)))) (nI_clamp (n := 100 + c) (by omega))) ?_
                obtain ⟨zh139, ze140⟩ : ∃ z : Mm, z = va_up hh42 (o + 1) (arI κ 340 (upd mm (100 + c) (held ((mm (100 + c)) + (held acc 0 wt)) 0 99999))) := ⟨_, rfl⟩
                refine z_heap (h' := zh139) ze140.symm ?_
                have zK141 := up_off ze140 (show o ≠ o + 1 by omega) zK34
                have zK142 := up_at ze140
                have zK143 := up_off ze140 (show o + 5 ≠ o + 1 by omega) zK36
                refine z_aload_n X 3 dX12_goesBy_162 rfl ?_
                refine z_sipush (v := 140) X dX12_goesBy_163 (by decide) ?_
                refine z_iload X 7 dX12_goesBy_166 rfl ?_
                refine z_iadd X dX12_goesBy_168 ?_
                refine z_toe (y := nI (140 + c)) (nI_add (140) (c)) ?_
                refine z_aload_n X 3 dX12_goesBy_169 rfl ?_
                refine z_sipush (v := 140) X dX12_goesBy_170 (by decide) ?_
                refine z_iload X 7 dX12_goesBy_173 rfl ?_
                refine z_iadd X dX12_goesBy_175 ?_
                refine z_toe (y := nI (140 + c)) (nI_add (140) (c)) ?_
                refine z_iald2 (v := mm (140 + c)) X dX12_goesBy_176 zK142 (vp_in_nI (n := 140 + c) (by omega) (by omega)) ((congrArg (upd mm (100 + c) (held ((mm (100 + c)) + (held acc 0 wt)) 0 99999)) (nI_clamp (n := 140 + c) (by omega))).trans (pk_un (show 140 + c ≠ 100 + c by omega))) ?_
                refine z_iload X 0 dX12_goesBy_177 rfl ?_
                refine z_iadd X dX12_goesBy_179 ?_
                refine z_iconst (v := 0) X dX12_goesBy_180 (by decide) ?_
                refine z_ldc X dX12_goesBy_181 wd_1168 ?_
                refine z_callS X (r_held (κ := κ) (n := n) (v := ((mm (140 + c)) + 0)) (lo := (0)) (hi := (999999))  ) mk_X12_held dX12_goesBy_183 wd_1134 wd_1135 rfl rfl (Nat.le_of_ble_eq_true rfl) (Nat.le_of_ble_eq_true rfl) (Nat.le_of_ble_eq_true rfl) (by omega) (by omega) (fun q zh144 zm146 zp147 => ?_)
                obtain ⟨rfl, ze145, zn148⟩ := zp147
                subst zm146
                subst zh144
                refine z_st (st' := [.int (held ((mm (140 + c)) + 0) 0 999999), .int (nI (140 + c)), .ref (o + 1)]) rfl ?_
                refine z_iast X dX12_goesBy_186 zK142 (vp_in_nI (n := 140 + c) (by omega) (by omega)) (congrArg (fun z => va_up zh139 (o + 1) (arI κ 340 (upd (upd mm (100 + c) (held ((mm (100 + c)) + (held acc 0 wt)) 0 99999)) z (held ((mm (140 + c)) + 0) 0 999999)))) (nI_clamp (n := 140 + c) (by omega))) ?_
                obtain ⟨zh149, ze150⟩ : ∃ z : Mm, z = va_up zh139 (o + 1) (arI κ 340 (upd (upd mm (100 + c) (held ((mm (100 + c)) + (held acc 0 wt)) 0 99999)) (140 + c) (held ((mm (140 + c)) + 0) 0 999999))) := ⟨_, rfl⟩
                refine z_heap (h' := zh149) ze150.symm ?_
                have zK151 := up_off ze150 (show o ≠ o + 1 by omega) zK141
                have zK152 := up_at ze150
                have zK153 := up_off ze150 (show o + 5 ≠ o + 1 by omega) zK143
                refine z_iload_n X 4 dX12_goesBy_187 rfl ?_
                refine z_iload X 1 dX12_goesBy_188 rfl ?_
                refine z_isub X dX12_goesBy_190 ?_
                refine z_istore_n (ls' := [(2, .int (wt - (held acc 0 wt))), (8, .int 0), (7, .int (held acc 0 wt)), (0, .ref o), (1, .ref (o + 1)), (3, .int (cldR (Tx m) tx m)), (4, .int st), (5, .int (nI c)), (6, .int acc)]) X dX12_goesBy_191 (by decide) rfl ?_
                refine z_iload X 6 dX12_goesBy_192 rfl ?_
                refine z_iload X 1 dX12_goesBy_194 rfl ?_
                refine z_isub X dX12_goesBy_196 ?_
                refine z_istore (ls' := [(4, .int (st - 0)), (2, .int (wt - (held acc 0 wt))), (8, .int 0), (7, .int (held acc 0 wt)), (0, .ref o), (1, .ref (o + 1)), (3, .int (cldR (Tx m) tx m)), (5, .int (nI c)), (6, .int acc)]) X dX12_goesBy_197 (by decide) rfl ?_
                refine z_iinc (v := nI (c + 1)) (ls' := [(5, .int (nI (c + 1))), (4, .int (st - 0)), (2, .int (wt - (held acc 0 wt))), (8, .int 0), (7, .int (held acc 0 wt)), (0, .ref o), (1, .ref (o + 1)), (3, .int (cldR (Tx m) tx m)), (6, .int acc)]) X 7 dX12_goesBy_199 rfl (nI_1 (c)) (by decide) rfl ?_
                refine z_goto X 42 dX12_goesBy_202 (by decide) ?_
                refine z_sub (ls' := [(0, .ref o), (1, .ref (o + 1)), (2, .int (wt - (held acc 0 wt))), (3, .int (cldR (Tx m) tx m)), (4, .int (st - 0)), (5, .int (nI (c + 1)))]) [5, 6, 2, 7, 1, 0] rfl ?_
                exact ih42 _ (c + 1) (upd (upd mm (100 + c) (held ((mm (100 + c)) + (held acc 0 wt)) 0 99999)) (140 + c) (held ((mm (140 + c)) + 0) 0 999999)) (wt - (held acc 0 wt)) (st - 0) (by omega) (by first | (rw [ze150, ze140, he42]; done) | (rw [ze150, ze140, he42]; simp only [up_up]; done) | (rw [ze150, ze140, he42]; funext zz; simp only [va_up]; (repeat' split) <;> first | rfl | (exfalso; omega) | simp_all)) (by first | assumption | rfl | omega) (by exact (pk_un (by omega)).trans ((pk_un (by omega)).trans hm1)) (by exact (pk_un (by omega)).trans ((pk_un (by omega)).trans hm11)) (by exact gbL_s hL (gbS_eq (hacc.trans (congrArg (sumN _) (show k = nc by omega))) (by unfold staysR; first | rw [if_pos (by assumption)] | rw [if_neg (by assumption)])))
            · try replace zc107 := mt (nI_leI (a := nc) (b := k) (by omega) (by omega)).mpr zc107
              refine z_iload X 6 dX12_goesBy_65 rfl ?_
              refine z_aload_n X 1 dX12_goesBy_67 rfl ?_
              refine z_bipush (v := 10) X dX12_goesBy_68 (by decide) ?_
              refine z_iald2 (v := mm 10) X dX12_goesBy_70 zK35 (vp_in_nI (n := 10) (by omega) (by omega)) (congrArg mm (nI_clamp (n := 10) (by omega))) ?_
              refine z_iload X 7 dX12_goesBy_71 rfl ?_
              refine z_ishr X dX12_goesBy_73 ?_
              refine z_iconst (v := 1) X dX12_goesBy_74 (by decide) ?_
              refine z_iand X dX12_goesBy_75 ?_
              refine z_iconst (v := 1) X dX12_goesBy_76 (by decide) ?_
              refine z_icmp_ne X 95 dX12_goesBy_77 (by decide) (fun zc154 => ?_) (fun zc154 => ?_)
              · refine z_iconst (v := 0) X dX12_goesBy_95 (by decide) ?_
                refine z_iadd X dX12_goesBy_96 ?_
                refine z_istore (ls' := [(6, .int (acc + 0)), (0, .ref o), (1, .ref (o + 1)), (2, .int wt), (3, .int (cldR (Tx m) tx m)), (4, .int st), (5, .int (nI c)), (7, .int (nI k))]) X dX12_goesBy_97 (by decide) rfl ?_
                refine z_iinc (v := nI (k + 1)) (ls' := [(7, .int (nI (k + 1))), (6, .int (acc + 0)), (0, .ref o), (1, .ref (o + 1)), (2, .int wt), (3, .int (cldR (Tx m) tx m)), (4, .int st), (5, .int (nI c))]) X 7 dX12_goesBy_99 rfl (nI_1 (k)) (by decide) rfl ?_
                refine z_goto X 56 dX12_goesBy_102 (by decide) ?_
                refine z_sub (ls' := [(0, .ref o), (1, .ref (o + 1)), (2, .int wt), (3, .int (cldR (Tx m) tx m)), (4, .int st), (5, .int (nI c)), (6, .int (acc + 0)), (7, .int (nI (k + 1)))]) [2, 3, 4, 5, 6, 7, 1, 0] rfl ?_
                exact ih56 (k + 1) (acc + 0) (by omega) (by first | assumption | rfl | omega) (by first | exact frF_t hacc (by assumption) | exact frF_f hacc (by assumption))
              · refine z_aload_n X 1 dX12_goesBy_80 rfl ?_
                refine z_iload X 7 dX12_goesBy_81 rfl ?_
                refine z_iload X 5 dX12_goesBy_83 rfl ?_
                refine z_iload_n X 2 dX12_goesBy_85 rfl ?_
                refine z_iload X 4 dX12_goesBy_86 rfl ?_
                refine z_iload_n X 3 dX12_goesBy_88 rfl ?_
                refine z_callS X (r_freezesOf (κ := κ) (n := n) (a := (o + 1)) (m := (mm)) (len := (len)) (k := (k)) (c := (c)) (w := (wt)) (s := (st)) (cold := (cldR (Tx m) tx m)) zK35 (by first | assumption | omega) (by first | assumption | omega) (by first | assumption | omega) (by first | assumption | omega) (by first | assumption | omega)) mk_X12_freezesOf dX12_goesBy_89 wd_1137 wd_1138 rfl rfl (Nat.le_of_ble_eq_true rfl) (Nat.le_of_ble_eq_true rfl) (Nat.le_of_ble_eq_true rfl) (by omega) (by omega) (fun q zh155 zm157 zp158 => ?_)
                obtain ⟨rfl, ze156, zn159⟩ := zp158
                subst zm157
                subst zh155
                refine z_st (st' := [.int (frz mm len k c wt st (cldR (Tx m) tx m)), .int acc]) rfl ?_
                refine z_goto X 96 dX12_goesBy_92 (by decide) ?_
                refine z_iadd X dX12_goesBy_96 ?_
                refine z_istore (ls' := [(6, .int (acc + (frz mm len k c wt st (cldR (Tx m) tx m)))), (0, .ref o), (1, .ref (o + 1)), (2, .int wt), (3, .int (cldR (Tx m) tx m)), (4, .int st), (5, .int (nI c)), (7, .int (nI k))]) X dX12_goesBy_97 (by decide) rfl ?_
                refine z_iinc (v := nI (k + 1)) (ls' := [(7, .int (nI (k + 1))), (6, .int (acc + (frz mm len k c wt st (cldR (Tx m) tx m)))), (0, .ref o), (1, .ref (o + 1)), (2, .int wt), (3, .int (cldR (Tx m) tx m)), (4, .int st), (5, .int (nI c))]) X 7 dX12_goesBy_99 rfl (nI_1 (k)) (by decide) rfl ?_
                refine z_goto X 56 dX12_goesBy_102 (by decide) ?_
                refine z_sub (ls' := [(0, .ref o), (1, .ref (o + 1)), (2, .int wt), (3, .int (cldR (Tx m) tx m)), (4, .int st), (5, .int (nI c)), (6, .int (acc + (frz mm len k c wt st (cldR (Tx m) tx m)))), (7, .int (nI (k + 1)))]) [2, 3, 4, 5, 6, 7, 1, 0] rfl ?_
                exact ih56 (k + 1) (acc + (frz mm len k c wt st (cldR (Tx m) tx m))) (by omega) (by first | assumption | rfl | omega) (by first | exact frF_t hacc (by assumption) | exact frF_f hacc (by assumption))
        refine z_sub (ls' := [(0, .ref o), (1, .ref (o + 1)), (2, .int wt), (3, .int (cldR (Tx m) tx m)), (4, .int st), (5, .int (nI c)), (6, .int 0), (7, .int 0)]) [2, 3, 4, 5, 6, 7, 1, 0] rfl ?_
        exact L56 _ 0 0 (Nat.lt_succ_self _) (by first | assumption | rfl | omega) (by rfl)
  refine z_sub (ls' := [(0, .ref o), (1, .ref (o + 1)), (2, .int (held (gv (Tx m) tx 0 (m 0) (m 4) (m 6) (m 4)) 0 9999)), (3, .int (cldR (Tx m) tx m)), (4, .int ((held (gv (Tx m) tx 0 (m 0) (m 4) (m 6) (m 4)) 0 9999) * (m 5))), (5, .int 0)]) [4, 5, 3, 2, 1, 0] rfl ?_
  exact L42 _ _ 0 m (held (gv (Tx m) tx 0 (m 0) (m 4) (m 6) (m 4)) 0 9999) ((held (gv (Tx m) tx 0 (m 0) (m 4) (m 6) (m 4)) 0 9999) * (m 5)) (Nat.lt_succ_self _) (by first | (rw [ze27, ze8]; done) | (rw [ze27, ze8]; simp only [up_up]; done) | (rw [ze27, ze8]; funext zz; simp only [va_up]; (repeat' split) <;> first | rfl | (exfalso; omega) | simp_all)) (by first | assumption | rfl | omega) (by exact q1) (by exact q4) (by rfl)
