def gbyN (T : Nat → Nat → Int32) (tx : Nat → Nat) : Nat → (Nat → Int32) → Nat → Int32
  | 0, m => m
  | k + 1, m => gby T tx (gbyN T tx k m)
theorem gbyN_s (T : Nat → Nat → Int32) (tx : Nat → Nat) (k : Nat) (m : Nat → Int32) : gbyN T tx (k + 1) m = gby T tx (gbyN T tx k m) := rfl
theorem gbyN_z (T : Nat → Nat → Int32) (tx : Nat → Nat) (m : Nat → Int32) : gbyN T tx 0 m = m := rfl
def lnOk (m : Nat → Int32) : Prop := m 1 = nI (lnO m) ∧ 1 ≤ lnO m ∧ lnO m ≤ 40
theorem lnOk_of {m : Nat → Int32} {len : Nat} (q1 : m 1 = nI len) (q2 : 1 ≤ len) (q3 : len ≤ 40) : lnOk m := by
  unfold lnOk
  rw [lnO_of q1 q3]
  exact ⟨q1, q2, q3⟩
theorem lnOk_gby {T : Nat → Nat → Int32} {tx : Nat → Nat} {m : Nat → Int32} (h : lnOk m) : lnOk (gby T tx m) := by
  obtain ⟨l2, e1, e2, e3⟩ := gby_1 (T := T) (tx := tx) h.1 h.2.1 h.2.2
  have := h.2.1
  exact lnOk_of e1 (by omega) e3
theorem gbyN_ok {T : Nat → Nat → Int32} {tx : Nat → Nat} {m : Nat → Int32} (h : lnOk m) : ∀ k, lnOk (gbyN T tx k m) := by
  intro k
  induction k with
  | zero => exact h
  | succ k ih => rw [gbyN_s]; exact lnOk_gby ih
theorem gbyN_off {T : Nat → Nat → Int32} {tx : Nat → Nat} {m : Nat → Int32} {q : Nat} (h : lnOk m) (hq : 4 ≤ q ∧ q < 100 ∨ 180 ≤ q) : ∀ k, gbyN T tx k m q = m q := by
  intro k
  induction k with
  | zero => rfl
  | succ k ih => rw [gbyN_s, gby_off (gbyN_ok h k).1 (gbyN_ok h k).2.2 hq, ih]
theorem Tx_gbyN {T : Nat → Nat → Int32} {tx : Nat → Nat} {m : Nat → Int32} (h : lnOk m) (k : Nat) : Tx (gbyN T tx k m) = Tx m := by
  funext u i
  exact gbyN_off h (by omega) k
theorem lnOk_upd {m : Nat → Int32} {q : Nat} {x : Int32} (h : lnOk m) (hq : q ≠ 1) : lnOk (upd m q x) := lnOk_of ((pk_un (by omega)).trans h.1) h.2.1 h.2.2
theorem lnO_upd {m : Nat → Int32} {q : Nat} {x : Int32} (hq : q ≠ 1) : lnO (upd m q x) = lnO m := congrArg Int32.toNatClampNeg (pk_un (Ne.symm hq))
set_option maxHeartbeats 4000000 in
set_option maxRecDepth 100000 in
theorem r_goesAhead {κ : Wc} {l : Launch} {h : Mm} {n : Nat} {o : Nat} {v : Nat} {d : Nat → Int32} {m : Nat → Int32} {nm : Nat → Int32} {nc : Nat} {tx : Nat → Nat} {im : Int32} {ba : Int32} {at_ : Int32} {sz : Int32} {fa : Int32} {op : Int32} {rm : Int32} {ti : Int32} {tm : Int32} {wh : Int32} (K0 : h o = some (.inr (12, [.ref (o + 1), .ref (o + 2), .ref (o + 3), .int im, .ref (o + 4), .int ba, .int at_, .int sz, .int fa, .int op, .ref (o + 5), .ref (o + 6), .int rm, .ref (o + 7), .ref (o + 8), .int ti, .ref (o + 9), .int tm, .int wh, .ref (o + 10), .ref (o + 11), .ref (o + 12), .ref (o + 13)]))) (K1 : h (o + 1) = arI κ 340 d) (K2 : h (o + 2) = arI κ 340 m) (K3 : h (o + 5) = arI κ 3 nm) (q8 : ∀ u, u < 2 → d (60 + u) = nI (tx u) ∧ tx u ≤ 50) (hOk : lnOk m) (q4 : m 11 = nI nc) (q5 : nc ≤ 6) (q6 : v ≤ 100) : Con κ l yX12_goesAhead cX12_goesAhead 3 none 43 0 0 [.ref o, .int (nI v)] h n (fun q h' n' => ∃ ba' : Int32, ∃ at' : Int32, ∃ sz' : Int32, ∃ fa' : Int32, ∃ op' : Int32, ∃ nm' : Nat → Int32, q = none ∧ h' = va_up (va_up (va_up h o (some (.inr (12, [.ref (o + 1), .ref (o + 2), .ref (o + 3), .int im, .ref (o + 4), .int ba', .int at', .int sz', .int fa', .int op', .ref (o + 5), .ref (o + 6), .int rm, .ref (o + 7), .ref (o + 8), .int ti, .ref (o + 9), .int tm, .int wh, .ref (o + 10), .ref (o + 11), .ref (o + 12), .ref (o + 13)])))) (o + 5) (arI κ 3 nm')) (o + 2) (arI κ 340 (gbyN (Tx d) tx v m)) ∧ n' = n) := by
  refine Con.of mk_X12_goesAhead (Nat.le_of_ble_eq_true rfl) (fun G hG X E => ?_)
  subst hG
  refine z_ls (ls' := [(0, .ref o), (1, .int (nI v))]) rfl ?_
  refine z_iconst (v := 0) X dX12_goesAhead_0 (by decide) ?_
  refine z_istore_n (ls' := [(2, .int 0), (0, .ref o), (1, .int (nI v))]) X dX12_goesAhead_1 (by decide) rfl ?_
  have L2 : ∀ (jj : Nat) (hh2 : Mm)  (i : Nat) (ba2 : Int32) (at2 : Int32) (sz2 : Int32) (fa2 : Int32) (op2 : Int32) (nm2 : Nat → Int32), (v - i < jj) → (hh2 = va_up (va_up (va_up h o (some (.inr (12, [.ref (o + 1), .ref (o + 2), .ref (o + 3), .int im, .ref (o + 4), .int ba2, .int at2, .int sz2, .int fa2, .int op2, .ref (o + 5), .ref (o + 6), .int rm, .ref (o + 7), .ref (o + 8), .int ti, .ref (o + 9), .int tm, .int wh, .ref (o + 10), .ref (o + 11), .ref (o + 12), .ref (o + 13)])))) (o + 5) (arI κ 3 nm2)) (o + 2) (arI κ 340 (gbyN (Tx d) tx i m))) → (hi : i ≤ v) → Z κ G 3 2 [(0, .ref o), (1, .int (nI v)), (2, .int (nI i))] [] hh2 n 0 (0) := by
    intro jj
    induction jj with
    | zero => intro hh2 i ba2 at2 sz2 fa2 op2 nm2 hmu; exact absurd hmu (Nat.not_lt_zero _)
    | succ jj ih2 =>
      intro hh2 i ba2 at2 sz2 fa2 op2 nm2 hmu he2 hi
      have zK1 : hh2 o = some (.inr (12, [.ref (o + 1), .ref (o + 2), .ref (o + 3), .int im, .ref (o + 4), .int ba2, .int at2, .int sz2, .int fa2, .int op2, .ref (o + 5), .ref (o + 6), .int rm, .ref (o + 7), .ref (o + 8), .int ti, .ref (o + 9), .int tm, .int wh, .ref (o + 10), .ref (o + 11), .ref (o + 12), .ref (o + 13)])) := by rw [he2]; rw [va_up_ne _ _ (show o ≠ o + 2 by omega)]; rw [va_up_ne _ _ (show o ≠ o + 5 by omega)]; exact va_up_self _ _ _
      have zK2 : hh2 (o + 1) = arI κ 340 d := by rw [he2]; rw [va_up_ne _ _ (show o + 1 ≠ o + 2 by omega)]; rw [va_up_ne _ _ (show o + 1 ≠ o + 5 by omega)]; rw [va_up_ne _ _ (show o + 1 ≠ o by omega)]; exact K1
      have zK3 : hh2 (o + 2) = arI κ 340 (gbyN (Tx d) tx i m) := by rw [he2]; exact va_up_self _ _ _
      have zK4 : hh2 (o + 5) = arI κ 3 nm2 := by rw [he2]; rw [va_up_ne _ _ (show o + 5 ≠ o + 2 by omega)]; exact va_up_self _ _ _
      refine z_iload_n X 2 dX12_goesAhead_2 rfl ?_
      refine z_iload_n X 1 dX12_goesAhead_3 rfl ?_
      refine z_icmp_ge X 21 dX12_goesAhead_4 (by decide) (fun zc5 => ?_) (fun zc5 => ?_)
      · try replace zc5 := (nI_leI (a := v) (b := i) (by omega) (by omega)).mp zc5
        refine z_vret X E dX12_goesAhead_21 (by omega) (by omega) ⟨ba2, at2, sz2, fa2, op2, nm2, ?_, ?_, ?_⟩
        · rfl
        · (have hiv : i = v := by omega); subst hiv; rw [he2]
        · rfl
      · try replace zc5 := mt (nI_leI (a := v) (b := i) (by omega) (by omega)).mpr zc5
        refine z_aload_n X 0 dX12_goesAhead_7 rfl ?_
        refine z_aload_n X 0 dX12_goesAhead_8 rfl ?_
        refine z_get X fl_X12_13_12 dX12_goesAhead_9 zK1 rfl ?_
        refine z_callV X (r_goesBy_e (κ := κ) (n := n) (o := (o)) (d := (d)) (m := (gbyN (Tx d) tx i m)) (nm := (nm2)) (len := (lnO (gbyN (Tx d) tx i m))) (nc := (nc)) (im := (im)) (ba := (ba2)) (at_ := (at2)) (sz := (sz2)) (fa := (fa2)) (op := (op2)) (rm := (rm)) (ti := (ti)) (tm := (tm)) (wh := (wh)) zK1 zK2 zK3 zK4 (q8) ((gbyN_ok hOk i).1) ((gbyN_ok hOk i).2.1) ((gbyN_ok hOk i).2.2) ((gbyN_off hOk (by omega) i).trans q4) (by first | assumption | omega)) mk_X12_goesBy dX12_goesAhead_12 wd_1163 wd_1165 wd_40 rfl zK1 rfl rfl rfl (Nat.le_of_ble_eq_true rfl) (Nat.le_of_ble_eq_true rfl) (Nat.le_of_ble_eq_true rfl) (by omega) (by omega) (fun q zh12 zm14 zp15 => ?_)
        obtain ⟨ba'6, at'7, sz'8, fa'9, op'10, nm'11, rfl, ze13, zn16⟩ := zp15
        subst zm14
        refine z_st (st' := []) rfl ?_
        have zK17 : zh12 o = some (.inr (12, [.ref (o + 1), .ref (o + 2), .ref (o + 3), .int im, .ref (o + 4), .int ba'6, .int at'7, .int sz'8, .int fa'9, .int op'10, .ref (o + 5), .ref (o + 6), .int rm, .ref (o + 7), .ref (o + 8), .int ti, .ref (o + 9), .int tm, .int wh, .ref (o + 10), .ref (o + 11), .ref (o + 12), .ref (o + 13)])) := by rw [ze13]; rw [va_up_ne _ _ (show o ≠ o + 2 by omega)]; rw [va_up_ne _ _ (show o ≠ o + 5 by omega)]; exact va_up_self _ _ _
        have zK18 : zh12 (o + 1) = arI κ 340 d := by rw [ze13]; rw [va_up_ne _ _ (show o + 1 ≠ o + 2 by omega)]; rw [va_up_ne _ _ (show o + 1 ≠ o + 5 by omega)]; rw [va_up_ne _ _ (show o + 1 ≠ o by omega)]; exact zK2
        have zK19 : zh12 (o + 2) = arI κ 340 (gby (Tx d) tx (gbyN (Tx d) tx i m)) := by rw [ze13]; exact va_up_self _ _ _
        have zK20 : zh12 (o + 5) = arI κ 3 nm'11 := by rw [ze13]; rw [va_up_ne _ _ (show o + 5 ≠ o + 2 by omega)]; exact va_up_self _ _ _
        refine z_iinc (v := nI (i + 1)) (ls' := [(2, .int (nI (i + 1))), (0, .ref o), (1, .int (nI v))]) X 2 dX12_goesAhead_15 rfl (nI_1 (i)) (by decide) rfl ?_
        refine z_goto X 2 dX12_goesAhead_18 (by decide) ?_
        refine z_sub (ls' := [(0, .ref o), (1, .int (nI v)), (2, .int (nI (i + 1)))]) [1, 2, 0] rfl ?_
        exact ih2 _ (i + 1) ba'6 at'7 sz'8 fa'9 op'10 nm'11 (by omega) (by rw [gbyN_s]; rw [ze13, he2]; funext zz; simp only [va_up]; (repeat' split) <;> first | rfl | (exfalso; omega)) (by first | assumption | rfl | omega)
  refine z_sub (ls' := [(0, .ref o), (1, .int (nI v)), (2, .int 0)]) [1, 2, 0] rfl ?_
  exact L2 _ _ 0 ba at_ sz fa op nm (Nat.lt_succ_self _) (by rw [gbyN_z, up_same _ _ K0, up_same _ _ K3, up_same _ _ K2]) (by first | assumption | rfl | omega)
set_option maxHeartbeats 4000000 in
set_option maxRecDepth 100000 in
theorem r_ahead {κ : Wc} {l : Launch} {h : Mm} {n : Nat} {o : Nat} {v : Nat} {d : Nat → Int32} {e : Nat → Int32} {nm : Nat → Int32} {nc : Nat} {tx : Nat → Nat} {im : Int32} {ba : Int32} {at_ : Int32} {sz : Int32} {fa : Int32} {op : Int32} {rm : Int32} {ti : Int32} {tm : Int32} {wh : Int32} (K0 : h o = some (.inr (12, [.ref (o + 1), .ref (o + 2), .ref (o + 3), .int im, .ref (o + 4), .int ba, .int at_, .int sz, .int fa, .int op, .ref (o + 5), .ref (o + 6), .int rm, .ref (o + 7), .ref (o + 8), .int ti, .ref (o + 9), .int tm, .int wh, .ref (o + 10), .ref (o + 11), .ref (o + 12), .ref (o + 13)]))) (K1 : h (o + 1) = arI κ 340 d) (K2 : h (o + 2) = arI κ 340 e) (K3 : h (o + 5) = arI κ 3 nm) (q8 : ∀ u, u < 2 → d (60 + u) = nI (tx u) ∧ tx u ≤ 50) (hOk : lnOk d) (q4 : d 11 = nI nc) (q5 : nc ≤ 6) (q6 : v ≤ 100) : Con κ l yX12_ahead cX12_ahead 2 none 44 0 0 [.ref o, .int (nI v)] h n (fun q h' n' => ∃ ba' : Int32, ∃ at' : Int32, ∃ sz' : Int32, ∃ fa' : Int32, ∃ op' : Int32, ∃ nm' : Nat → Int32, q = none ∧ h' = va_up (va_up (va_up h o (some (.inr (12, [.ref (o + 1), .ref (o + 2), .ref (o + 3), .int im, .ref (o + 4), .int ba', .int at', .int sz', .int fa', .int op', .ref (o + 5), .ref (o + 6), .int rm, .ref (o + 7), .ref (o + 8), .int ti, .ref (o + 9), .int tm, .int wh, .ref (o + 10), .ref (o + 11), .ref (o + 12), .ref (o + 13)])))) (o + 5) (arI κ 3 nm')) (o + 2) (arI κ 340 (gbyN (Tx d) tx v d)) ∧ n' = n) := by
  refine Con.of mk_X12_ahead (Nat.le_of_ble_eq_true rfl) (fun G hG X E => ?_)
  subst hG
  refine z_ls (ls' := [(0, .ref o), (1, .int (nI v))]) rfl ?_
  refine z_aload_n X 0 dX12_ahead_0 rfl ?_
  refine z_get X fl_X12_7_12 dX12_ahead_1 K0 rfl ?_
  refine z_aload_n X 0 dX12_ahead_4 rfl ?_
  refine z_get X fl_X12_13_12 dX12_ahead_5 K0 rfl ?_
  refine z_callS X (r_copies (κ := κ) (n := n) (a := (o + 1)) (b := (o + 2)) (f := (d)) (g := (e)) K1 K2 (by first | assumption | omega)) mk_X12_copies dX12_ahead_8 wd_1208 wd_1209 rfl rfl (Nat.le_of_ble_eq_true rfl) (Nat.le_of_ble_eq_true rfl) (Nat.le_of_ble_eq_true rfl) (by omega) (by omega) (fun q zh1 zm3 zp4 => ?_)
  obtain ⟨rfl, ze2, zn5⟩ := zp4
  subst zm3
  refine z_st (st' := []) rfl ?_
  have zK6 : zh1 o = some (.inr (12, [.ref (o + 1), .ref (o + 2), .ref (o + 3), .int im, .ref (o + 4), .int ba, .int at_, .int sz, .int fa, .int op, .ref (o + 5), .ref (o + 6), .int rm, .ref (o + 7), .ref (o + 8), .int ti, .ref (o + 9), .int tm, .int wh, .ref (o + 10), .ref (o + 11), .ref (o + 12), .ref (o + 13)])) := by rw [ze2]; rw [va_up_ne _ _ (show o ≠ o + 2 by omega)]; exact K0
  have zK7 : zh1 (o + 1) = arI κ 340 d := by rw [ze2]; rw [va_up_ne _ _ (show o + 1 ≠ o + 2 by omega)]; exact K1
  have zK8 : zh1 (o + 2) = arI κ 340 d := by rw [ze2]; exact va_up_self _ _ _
  have zK9 : zh1 (o + 5) = arI κ 3 nm := by rw [ze2]; rw [va_up_ne _ _ (show o + 5 ≠ o + 2 by omega)]; exact K3
  refine z_aload_n X 0 dX12_ahead_11 rfl ?_
  refine z_iload_n X 1 dX12_ahead_12 rfl ?_
  refine z_callV X (r_goesAhead (κ := κ) (n := n) (o := (o)) (v := (v)) (d := (d)) (m := (d)) (nm := (nm)) (nc := (nc)) (im := (im)) (ba := (ba)) (at_ := (at_)) (sz := (sz)) (fa := (fa)) (op := (op)) (rm := (rm)) (ti := (ti)) (tm := (tm)) (wh := (wh)) zK6 zK7 zK8 zK9 (by first | assumption | omega) (by first | assumption | omega) (by first | assumption | omega) (by first | assumption | omega) (by first | assumption | omega)) mk_X12_goesAhead dX12_ahead_13 wd_1211 wd_1213 wd_43 rfl zK6 rfl rfl rfl (Nat.le_of_ble_eq_true rfl) (Nat.le_of_ble_eq_true rfl) (Nat.le_of_ble_eq_true rfl) (by omega) (by omega) (fun q zh16 zm18 zp19 => ?_)
  obtain ⟨ba'10, at'11, sz'12, fa'13, op'14, nm'15, rfl, ze17, zn20⟩ := zp19
  subst zm18
  refine z_st (st' := []) rfl ?_
  have zK21 : zh16 o = some (.inr (12, [.ref (o + 1), .ref (o + 2), .ref (o + 3), .int im, .ref (o + 4), .int ba'10, .int at'11, .int sz'12, .int fa'13, .int op'14, .ref (o + 5), .ref (o + 6), .int rm, .ref (o + 7), .ref (o + 8), .int ti, .ref (o + 9), .int tm, .int wh, .ref (o + 10), .ref (o + 11), .ref (o + 12), .ref (o + 13)])) := by rw [ze17]; rw [va_up_ne _ _ (show o ≠ o + 2 by omega)]; rw [va_up_ne _ _ (show o ≠ o + 5 by omega)]; exact va_up_self _ _ _
  have zK22 : zh16 (o + 1) = arI κ 340 d := by rw [ze17]; rw [va_up_ne _ _ (show o + 1 ≠ o + 2 by omega)]; rw [va_up_ne _ _ (show o + 1 ≠ o + 5 by omega)]; rw [va_up_ne _ _ (show o + 1 ≠ o by omega)]; exact zK7
  have zK23 : zh16 (o + 2) = arI κ 340 (gbyN (Tx d) tx v d) := by rw [ze17]; exact va_up_self _ _ _
  have zK24 : zh16 (o + 5) = arI κ 3 nm'15 := by rw [ze17]; rw [va_up_ne _ _ (show o + 5 ≠ o + 2 by omega)]; exact va_up_self _ _ _
  refine z_vret X E dX12_ahead_16 (by omega) (by omega) ⟨ba'10, at'11, sz'12, fa'13, op'14, nm'15, ?_, ?_, ?_⟩
  · rfl
  · first | (rw [ze17, ze2]; done) | (rw [ze17, ze2]; simp only [up_up]; done) | (rw [ze17, ze2]; funext zz; simp only [va_up]; (repeat' split) <;> first | rfl | (exfalso; omega) | simp_all)
  · rfl
abbrev goesP (v : Int32) : Prop := 1 ≤ v.toInt ∧ v.toInt ≤ 100
def opTicks (T : Nat → Nat → Int32) (tx : Nat → Nat) (d : Nat → Int32) (v : Int32) : Nat × Int32 := if ¬ goesP v then (1, 0) else if 9999 < d 0 + v then (3, 0) else (0, gbyN T tx v.toNatClampNeg d 0)
def dTicks (T : Nat → Nat → Int32) (tx : Nat → Nat) (d : Nat → Int32) (v : Int32) : Nat → Int32 := if ¬ goesP v then d else if 9999 < d 0 + v then d else gbyN T tx v.toNatClampNeg d
def gsZ (m : Nat → Int32) : Int32 := m 13 * 1103515245 + 12345
def gsM (m : Nat → Int32) : Nat → Int32 := upd (upd m 13 (gsZ m)) 7 (((gsZ m).toUInt32 >>> (Int32.toUInt32 8 &&& Int32.toUInt32 31)).toInt32 - ((gsZ m).toUInt32 >>> (Int32.toUInt32 8 &&& Int32.toUInt32 31)).toInt32 / 100 * 100)
def gsN (T : Nat → Nat → Int32) (tx : Nat → Nat) : Nat → (Nat → Int32) → Nat → Int32
  | 0, m => m
  | k + 1, m => gby T tx (gsM (gsN T tx k m))
theorem gsN_s (T : Nat → Nat → Int32) (tx : Nat → Nat) (k : Nat) (m : Nat → Int32) : gsN T tx (k + 1) m = gby T tx (gsM (gsN T tx k m)) := rfl
theorem gsN_z (T : Nat → Nat → Int32) (tx : Nat → Nat) (m : Nat → Int32) : gsN T tx 0 m = m := rfl
theorem lnOk_gsM {m : Nat → Int32} (h : lnOk m) : lnOk (gsM m) := lnOk_upd (lnOk_upd h (by omega)) (by omega)
theorem gsM_off {m : Nat → Int32} {q : Nat} (hq : q ≠ 13 ∧ q ≠ 7) : gsM m q = m q := (pk_un hq.2).trans (pk_un hq.1)
theorem gsN_ok {T : Nat → Nat → Int32} {tx : Nat → Nat} {m : Nat → Int32} (h : lnOk m) : ∀ k, lnOk (gsN T tx k m) := by
  intro k
  induction k with
  | zero => exact h
  | succ k ih => rw [gsN_s]; exact lnOk_gby (lnOk_gsM ih)
theorem gsN_off {T : Nat → Nat → Int32} {tx : Nat → Nat} {m : Nat → Int32} {q : Nat} (h : lnOk m) (hq : (4 ≤ q ∧ q < 100 ∨ 180 ≤ q) ∧ q ≠ 13 ∧ q ≠ 7) : ∀ k, gsN T tx k m q = m q := by
  intro k
  induction k with
  | zero => rfl
  | succ k ih => rw [gsN_s, gby_off (lnOk_gsM (gsN_ok h k)).1 (lnOk_gsM (gsN_ok h k)).2.2 hq.1, gsM_off hq.2, ih]
theorem Tx_gsM {T : Nat → Nat → Int32} {tx : Nat → Nat} {m : Nat → Int32} (h : lnOk m) (k : Nat) : Tx (gsM (gsN T tx k m)) = Tx m := by
  funext u i
  exact (gsM_off (by omega)).trans (gsN_off h (by omega) k)
def opGusts (T : Nat → Nat → Int32) (tx : Nat → Nat) (d : Nat → Int32) (v : Int32) : Nat × Int32 := if ¬ goesP v then (1, 0) else if 9999 < d 0 + v then (3, 0) else (0, gsN T tx v.toNatClampNeg d 0)
def dGusts (T : Nat → Nat → Int32) (tx : Nat → Nat) (d : Nat → Int32) (v : Int32) : Nat → Int32 := if ¬ goesP v then d else if 9999 < d 0 + v then d else upd (gsN T tx v.toNatClampNeg d) 7 (d 7)
set_option maxHeartbeats 4000000 in
set_option maxRecDepth 100000 in
theorem r_ticks {κ : Wc} {l : Launch} {h : Mm} {n : Nat} {o : Nat} {fo : Nat → Int32} {d : Nat → Int32} {nm : Nat → Int32} {tx : Nat → Nat} {im : Int32} {ba : Int32} {at_ : Int32} {sz : Int32} {fa : Int32} {op : Int32} {rm : Int32} {ti : Int32} {tm : Int32} {wh : Int32} {nc : Nat} {v : Int32} (K0 : h o = some (.inr (12, [.ref (o + 1), .ref (o + 2), .ref (o + 3), .int im, .ref (o + 4), .int ba, .int at_, .int sz, .int fa, .int op, .ref (o + 5), .ref (o + 6), .int rm, .ref (o + 7), .ref (o + 8), .int ti, .ref (o + 9), .int tm, .int wh, .ref (o + 10), .ref (o + 11), .ref (o + 12), .ref (o + 13)]))) (K1 : h (o + 4) = arI κ 6 fo) (K2 : h (o + 1) = arI κ 340 d) (K3 : h (o + 5) = arI κ 3 nm) (q8 : ∀ u, u < 2 → d (60 + u) = nI (tx u) ∧ tx u ≤ 50) (hOk : lnOk d) (q4 : d 11 = nI nc) (q5 : nc ≤ 6) : Con κ l yX12_ticks cX12_ticks 3 (some .int) 43 0 0 [.ref o, .int v] h n (fun q h' n' => ∃ ba' : Int32, ∃ at' : Int32, ∃ sz' : Int32, ∃ fa' : Int32, ∃ op' : Int32, ∃ nm' : Nat → Int32, q = some (.int (ansOf (opTicks (Tx d) tx d v))) ∧ h' = va_up (va_up (va_up (va_up h o (some (.inr (12, [.ref (o + 1), .ref (o + 2), .ref (o + 3), .int im, .ref (o + 4), .int ba', .int at', .int sz', .int fa', .int op', .ref (o + 5), .ref (o + 6), .int rm, .ref (o + 7), .ref (o + 8), .int ti, .ref (o + 9), .int tm, .int wh, .ref (o + 10), .ref (o + 11), .ref (o + 12), .ref (o + 13)])))) (o + 5) (arI κ 3 nm')) (o + 1) (arI κ 340 (dTicks (Tx d) tx d v))) (o + 4) (arI κ 6 (bump (opTicks (Tx d) tx d v) fo)) ∧ n' = n) := by
  refine Con.of mk_X12_ticks (Nat.le_of_ble_eq_true rfl) (fun G hG X E => ?_)
  subst hG
  refine z_ls (ls' := [(0, .ref o), (1, .int v)]) rfl ?_
  refine z_iload_n X 1 dX12_ticks_0 rfl ?_
  refine z_i2l X dX12_ticks_1 rfl ?_
  refine z_lconst (v := 1) X dX12_ticks_2 (by decide) ?_
  refine z_ldc2 X dX12_ticks_3 wd_1158 ?_
  refine z_callS X (r_in (κ := κ) (n := n) (v := (v.toInt64)) (lo := (1 : Int64)) (hi := (100 : Int64))  ) mk_X12_in dX12_ticks_6 wd_1014 wd_1015 rfl rfl (Nat.le_of_ble_eq_true rfl) (Nat.le_of_ble_eq_true rfl) (Nat.le_of_ble_eq_true rfl) (by omega) (by omega) (fun q zh1 zm3 zp4 => ?_)
  obtain ⟨rfl, ze2, zn5⟩ := zp4
  subst zm3
  subst zh1
  refine z_st (st' := [.int (b2i ((1 : Int64).toInt ≤ (v.toInt64 : Int64).toInt ∧ (v.toInt64 : Int64).toInt ≤ (100 : Int64).toInt))]) rfl ?_
  refine z_toe (y := b2i (1 ≤ v.toInt ∧ v.toInt ≤ 100)) (by simp only [Int32.toInt_toInt64, show (1 : Int64).toInt = 1 by decide, show (100 : Int64).toInt = 100 by decide]) ?_
  refine z_if_ne X 18 dX12_ticks_9 (by decide) (fun zc6 => ?_) (fun zc6 => ?_)
  · replace zc6 := b2i_t zc6
    refine z_aload_n X 0 dX12_ticks_18 rfl ?_
    refine z_iload_n X 1 dX12_ticks_19 rfl ?_
    refine z_callV X (r_isLate (κ := κ) (n := n) (o := (o)) (v := (v)) (d := (d)) (im := (im)) (ba := (ba)) (at_ := (at_)) (sz := (sz)) (fa := (fa)) (op := (op)) (rm := (rm)) (ti := (ti)) (tm := (tm)) (wh := (wh)) K0 K2 ) mk_X12_isLate dX12_ticks_20 wd_1159 wd_1161 wd_39 rfl K0 rfl rfl rfl (Nat.le_of_ble_eq_true rfl) (Nat.le_of_ble_eq_true rfl) (Nat.le_of_ble_eq_true rfl) (by omega) (by omega) (fun q zh7 zm9 zp10 => ?_)
    obtain ⟨rfl, ze8, zn11⟩ := zp10
    subst zm9
    subst zh7
    refine z_st (st' := [.int (b2i (9999 < d 0 + v))]) rfl ?_
    refine z_if_eq X 32 dX12_ticks_23 (by decide) (fun zc12 => ?_) (fun zc12 => ?_)
    · replace zc12 := b2i_f zc12
      have hgp : goesP v := by assumption
      obtain ⟨vk, hvk, rfl⟩ := ix_of (c := v) (len := 101) (by omega) (by omega)
      refine z_iconst (v := 0) X dX12_ticks_32 (by decide) ?_
      refine z_istore_n (ls' := [(2, .int 0), (0, .ref o), (1, .int (nI vk))]) X dX12_ticks_33 (by decide) rfl ?_
      have L34 : ∀ (jj : Nat) (hh34 : Mm)  (i : Nat) (ba2 : Int32) (at2 : Int32) (sz2 : Int32) (fa2 : Int32) (op2 : Int32) (nm2 : Nat → Int32), (vk - i < jj) → (hh34 = va_up (va_up (va_up h o (some (.inr (12, [.ref (o + 1), .ref (o + 2), .ref (o + 3), .int im, .ref (o + 4), .int ba2, .int at2, .int sz2, .int fa2, .int op2, .ref (o + 5), .ref (o + 6), .int rm, .ref (o + 7), .ref (o + 8), .int ti, .ref (o + 9), .int tm, .int wh, .ref (o + 10), .ref (o + 11), .ref (o + 12), .ref (o + 13)])))) (o + 5) (arI κ 3 nm2)) (o + 1) (arI κ 340 (gbyN (Tx d) tx i d))) → (hi : i ≤ vk) → Z κ G 3 34 [(0, .ref o), (1, .int (nI vk)), (2, .int (nI i))] [] hh34 n 0 (0) := by
        intro jj
        induction jj with
        | zero => intro hh34 i ba2 at2 sz2 fa2 op2 nm2 hmu; exact absurd hmu (Nat.not_lt_zero _)
        | succ jj ih34 =>
          intro hh34 i ba2 at2 sz2 fa2 op2 nm2 hmu he34 hi
          have zK13 : hh34 o = some (.inr (12, [.ref (o + 1), .ref (o + 2), .ref (o + 3), .int im, .ref (o + 4), .int ba2, .int at2, .int sz2, .int fa2, .int op2, .ref (o + 5), .ref (o + 6), .int rm, .ref (o + 7), .ref (o + 8), .int ti, .ref (o + 9), .int tm, .int wh, .ref (o + 10), .ref (o + 11), .ref (o + 12), .ref (o + 13)])) := by rw [he34]; rw [va_up_ne _ _ (show o ≠ o + 1 by omega)]; rw [va_up_ne _ _ (show o ≠ o + 5 by omega)]; exact va_up_self _ _ _
          have zK14 : hh34 (o + 4) = arI κ 6 fo := by rw [he34]; rw [va_up_ne _ _ (show o + 4 ≠ o + 1 by omega)]; rw [va_up_ne _ _ (show o + 4 ≠ o + 5 by omega)]; rw [va_up_ne _ _ (show o + 4 ≠ o by omega)]; exact K1
          have zK15 : hh34 (o + 1) = arI κ 340 (gbyN (Tx d) tx i d) := by rw [he34]; exact va_up_self _ _ _
          have zK16 : hh34 (o + 5) = arI κ 3 nm2 := by rw [he34]; rw [va_up_ne _ _ (show o + 5 ≠ o + 1 by omega)]; exact va_up_self _ _ _
          refine z_iload_n X 2 dX12_ticks_34 rfl ?_
          refine z_iload_n X 1 dX12_ticks_35 rfl ?_
          refine z_icmp_ge X 53 dX12_ticks_36 (by decide) (fun zc17 => ?_) (fun zc17 => ?_)
          · try replace zc17 := (nI_leI (a := vk) (b := i) (by omega) (by omega)).mp zc17
            refine z_aload_n X 0 dX12_ticks_53 rfl ?_
            refine z_get X fl_X12_7_12 dX12_ticks_54 zK13 rfl ?_
            refine z_iconst (v := 0) X dX12_ticks_57 (by decide) ?_
            refine z_iald2 (v := (gbyN (Tx d) tx i d) 0) X dX12_ticks_58 zK15 (vp_in_nI (n := 0) (by omega) (by omega)) (congrArg (gbyN (Tx d) tx i d) (nI_clamp (n := 0) (by omega))) ?_
            refine z_iret X E dX12_ticks_59 (by omega) (by omega) ⟨ba2, at2, sz2, fa2, op2, nm2, ?_, ?_, ?_⟩
            · (have hiv : i = vk := by omega); subst hiv; (have hop : opTicks (Tx d) tx d (nI i) = (0, gbyN (Tx d) tx i d 0) := by (unfold opTicks; rw [if_neg (fun q => q hgp), if_neg (by assumption), nI_clamp (by omega)])); rw [hop, ansOf_0]
            · (have hiv : i = vk := by omega); subst hiv; (have hop : opTicks (Tx d) tx d (nI i) = (0, gbyN (Tx d) tx i d 0) := by (unfold opTicks; rw [if_neg (fun q => q hgp), if_neg (by assumption), nI_clamp (by omega)])); (have hdd : dTicks (Tx d) tx d (nI i) = gbyN (Tx d) tx i d := by (unfold dTicks; rw [if_neg (fun q => q hgp), if_neg (by assumption), nI_clamp (by omega)])); rw [hop, hdd, bump_0]; clear hop hdd; rw [he34]; funext zz; simp only [va_up]; (repeat' split) <;> first | rfl | (exfalso; omega) | (subst_vars; assumption)
            · rfl
          · try replace zc17 := mt (nI_leI (a := vk) (b := i) (by omega) (by omega)).mpr zc17
            refine z_aload_n X 0 dX12_ticks_39 rfl ?_
            refine z_aload_n X 0 dX12_ticks_40 rfl ?_
            refine z_get X fl_X12_7_12 dX12_ticks_41 zK13 rfl ?_
            refine z_callV X (r_goesBy_d (κ := κ) (n := n) (o := (o)) (m := (gbyN (Tx d) tx i d)) (nm := (nm2)) (len := (lnO (gbyN (Tx d) tx i d))) (nc := (nc)) (im := (im)) (ba := (ba2)) (at_ := (at2)) (sz := (sz2)) (fa := (fa2)) (op := (op2)) (rm := (rm)) (ti := (ti)) (tm := (tm)) (wh := (wh)) zK13 zK15 zK16 (fun u hu => ⟨(gbyN_off hOk (by omega) i).trans (q8 u hu).1, (q8 u hu).2⟩) ((gbyN_ok hOk i).1) ((gbyN_ok hOk i).2.1) ((gbyN_ok hOk i).2.2) ((gbyN_off hOk (by omega) i).trans q4) (by first | assumption | omega)) mk_X12_goesBy dX12_ticks_44 wd_1163 wd_1165 wd_40 rfl zK13 rfl rfl rfl (Nat.le_of_ble_eq_true rfl) (Nat.le_of_ble_eq_true rfl) (Nat.le_of_ble_eq_true rfl) (by omega) (by omega) (fun q zh24 zm26 zp27 => ?_)
            obtain ⟨ba'18, at'19, sz'20, fa'21, op'22, nm'23, rfl, ze25, zn28⟩ := zp27
            subst zm26
            refine z_st (st' := []) rfl ?_
            have zK29 : zh24 o = some (.inr (12, [.ref (o + 1), .ref (o + 2), .ref (o + 3), .int im, .ref (o + 4), .int ba'18, .int at'19, .int sz'20, .int fa'21, .int op'22, .ref (o + 5), .ref (o + 6), .int rm, .ref (o + 7), .ref (o + 8), .int ti, .ref (o + 9), .int tm, .int wh, .ref (o + 10), .ref (o + 11), .ref (o + 12), .ref (o + 13)])) := by rw [ze25]; rw [va_up_ne _ _ (show o ≠ o + 1 by omega)]; rw [va_up_ne _ _ (show o ≠ o + 5 by omega)]; exact va_up_self _ _ _
            have zK30 : zh24 (o + 4) = arI κ 6 fo := by rw [ze25]; rw [va_up_ne _ _ (show o + 4 ≠ o + 1 by omega)]; rw [va_up_ne _ _ (show o + 4 ≠ o + 5 by omega)]; rw [va_up_ne _ _ (show o + 4 ≠ o by omega)]; exact zK14
            have zK31 : zh24 (o + 1) = arI κ 340 (gby (Tx (gbyN (Tx d) tx i d)) tx (gbyN (Tx d) tx i d)) := by rw [ze25]; exact va_up_self _ _ _
            have zK32 : zh24 (o + 5) = arI κ 3 nm'23 := by rw [ze25]; rw [va_up_ne _ _ (show o + 5 ≠ o + 1 by omega)]; exact va_up_self _ _ _
            refine z_iinc (v := nI (i + 1)) (ls' := [(2, .int (nI (i + 1))), (0, .ref o), (1, .int (nI vk))]) X 2 dX12_ticks_47 rfl (nI_1 (i)) (by decide) rfl ?_
            refine z_goto X 34 dX12_ticks_50 (by decide) ?_
            refine z_sub (ls' := [(0, .ref o), (1, .int (nI vk)), (2, .int (nI (i + 1)))]) [1, 2, 0] rfl ?_
            exact ih34 _ (i + 1) ba'18 at'19 sz'20 fa'21 op'22 nm'23 (by omega) (by rw [gbyN_s]; rw [ze25, he34]; rw [Tx_gbyN hOk i]; funext zz; simp only [va_up]; (repeat' split) <;> first | rfl | (exfalso; omega)) (by first | assumption | rfl | omega)
      refine z_sub (ls' := [(0, .ref o), (1, .int (nI vk)), (2, .int 0)]) [1, 2, 0] rfl ?_
      exact L34 _ _ 0 ba at_ sz fa op nm (Nat.lt_succ_self _) (by rw [gbyN_z, up_same _ _ K0, up_same _ _ K3, up_same _ _ K2]) (by first | assumption | rfl | omega)
    · replace zc12 := b2i_t zc12
      refine z_aload_n X 0 dX12_ticks_26 rfl ?_
      refine z_iconst (v := 3) X dX12_ticks_27 (by decide) ?_
      refine z_callV X (r_finds (κ := κ) (n := n) (o := (o)) (k := (3)) (fo := (fo)) (im := (im)) (ba := (ba)) (at_ := (at_)) (sz := (sz)) (fa := (fa)) (op := (op)) (rm := (rm)) (ti := (ti)) (tm := (tm)) (wh := (wh)) K0 K1 (by first | assumption | omega) (by first | assumption | omega)) mk_X12_finds dX12_ticks_28 wd_1018 wd_1020 wd_24 rfl K0 rfl rfl rfl (Nat.le_of_ble_eq_true rfl) (Nat.le_of_ble_eq_true rfl) (Nat.le_of_ble_eq_true rfl) (by omega) (by omega) (fun q zh33 zm35 zp36 => ?_)
      obtain ⟨rfl, ze34, zn37⟩ := zp36
      subst zm35
      refine z_st (st' := [.int (lowE 3)]) rfl ?_
      have zK38 : zh33 o = some (.inr (12, [.ref (o + 1), .ref (o + 2), .ref (o + 3), .int im, .ref (o + 4), .int ba, .int at_, .int sz, .int fa, .int op, .ref (o + 5), .ref (o + 6), .int rm, .ref (o + 7), .ref (o + 8), .int ti, .ref (o + 9), .int tm, .int wh, .ref (o + 10), .ref (o + 11), .ref (o + 12), .ref (o + 13)])) := by rw [ze34]; rw [va_up_ne _ _ (show o ≠ o + 4 by omega)]; exact K0
      have zK39 : zh33 (o + 4) = arI κ 6 (bmp fo 3) := by rw [ze34]; exact va_up_self _ _ _
      have zK40 : zh33 (o + 1) = arI κ 340 d := by rw [ze34]; rw [va_up_ne _ _ (show o + 1 ≠ o + 4 by omega)]; exact K2
      have zK41 : zh33 (o + 5) = arI κ 3 nm := by rw [ze34]; rw [va_up_ne _ _ (show o + 5 ≠ o + 4 by omega)]; exact K3
      refine z_iret X E dX12_ticks_31 (by omega) (by omega) ⟨ba, at_, sz, fa, op, nm, ?_, ?_, ?_⟩
      · (have hop : opTicks (Tx d) tx d v = (3, 0) := by (unfold opTicks; rw [if_neg (fun q => q (by assumption)), if_pos (by assumption)])); (have hdd : dTicks (Tx d) tx d v = d := by (unfold dTicks; rw [if_neg (fun q => q (by assumption)), if_pos (by assumption)])); rw [hop]; rfl
      · (have hop : opTicks (Tx d) tx d v = (3, 0) := by (unfold opTicks; rw [if_neg (fun q => q (by assumption)), if_pos (by assumption)])); (have hdd : dTicks (Tx d) tx d v = d := by (unfold dTicks; rw [if_neg (fun q => q (by assumption)), if_pos (by assumption)])); rw [hop, hdd]; rw [ze34]; funext zz; simp only [va_up, bump, ↓reduceIte]; (repeat' split) <;> first | rfl | (exfalso; omega) | (simp_all; done)
      · rfl
  · replace zc6 := b2i_f zc6
    refine z_aload_n X 0 dX12_ticks_12 rfl ?_
    refine z_iconst (v := 1) X dX12_ticks_13 (by decide) ?_
    refine z_callV X (r_finds (κ := κ) (n := n) (o := (o)) (k := (1)) (fo := (fo)) (im := (im)) (ba := (ba)) (at_ := (at_)) (sz := (sz)) (fa := (fa)) (op := (op)) (rm := (rm)) (ti := (ti)) (tm := (tm)) (wh := (wh)) K0 K1 (by first | assumption | omega) (by first | assumption | omega)) mk_X12_finds dX12_ticks_14 wd_1018 wd_1020 wd_24 rfl K0 rfl rfl rfl (Nat.le_of_ble_eq_true rfl) (Nat.le_of_ble_eq_true rfl) (Nat.le_of_ble_eq_true rfl) (by omega) (by omega) (fun q zh42 zm44 zp45 => ?_)
    obtain ⟨rfl, ze43, zn46⟩ := zp45
    subst zm44
    refine z_st (st' := [.int (lowE 1)]) rfl ?_
    have zK47 : zh42 o = some (.inr (12, [.ref (o + 1), .ref (o + 2), .ref (o + 3), .int im, .ref (o + 4), .int ba, .int at_, .int sz, .int fa, .int op, .ref (o + 5), .ref (o + 6), .int rm, .ref (o + 7), .ref (o + 8), .int ti, .ref (o + 9), .int tm, .int wh, .ref (o + 10), .ref (o + 11), .ref (o + 12), .ref (o + 13)])) := by rw [ze43]; rw [va_up_ne _ _ (show o ≠ o + 4 by omega)]; exact K0
    have zK48 : zh42 (o + 4) = arI κ 6 (bmp fo 1) := by rw [ze43]; exact va_up_self _ _ _
    have zK49 : zh42 (o + 1) = arI κ 340 d := by rw [ze43]; rw [va_up_ne _ _ (show o + 1 ≠ o + 4 by omega)]; exact K2
    have zK50 : zh42 (o + 5) = arI κ 3 nm := by rw [ze43]; rw [va_up_ne _ _ (show o + 5 ≠ o + 4 by omega)]; exact K3
    refine z_iret X E dX12_ticks_17 (by omega) (by omega) ⟨ba, at_, sz, fa, op, nm, ?_, ?_, ?_⟩
    · (have hop : opTicks (Tx d) tx d v = (1, 0) := by (unfold opTicks; rw [if_pos (by assumption)])); (have hdd : dTicks (Tx d) tx d v = d := by (unfold dTicks; rw [if_pos (by assumption)])); rw [hop]; rfl
    · (have hop : opTicks (Tx d) tx d v = (1, 0) := by (unfold opTicks; rw [if_pos (by assumption)])); (have hdd : dTicks (Tx d) tx d v = d := by (unfold dTicks; rw [if_pos (by assumption)])); rw [hop, hdd]; rw [ze43]; funext zz; simp only [va_up, bump, ↓reduceIte]; (repeat' split) <;> first | rfl | (exfalso; omega) | (simp_all; done)
    · rfl
set_option maxHeartbeats 4000000 in
set_option maxRecDepth 100000 in
theorem r_gusts {κ : Wc} {l : Launch} {h : Mm} {n : Nat} {o : Nat} {fo : Nat → Int32} {d : Nat → Int32} {nm : Nat → Int32} {tx : Nat → Nat} {im : Int32} {ba : Int32} {at_ : Int32} {sz : Int32} {fa : Int32} {op : Int32} {rm : Int32} {ti : Int32} {tm : Int32} {wh : Int32} {nc : Nat} {v : Int32} (K0 : h o = some (.inr (12, [.ref (o + 1), .ref (o + 2), .ref (o + 3), .int im, .ref (o + 4), .int ba, .int at_, .int sz, .int fa, .int op, .ref (o + 5), .ref (o + 6), .int rm, .ref (o + 7), .ref (o + 8), .int ti, .ref (o + 9), .int tm, .int wh, .ref (o + 10), .ref (o + 11), .ref (o + 12), .ref (o + 13)]))) (K1 : h (o + 4) = arI κ 6 fo) (K2 : h (o + 1) = arI κ 340 d) (K3 : h (o + 5) = arI κ 3 nm) (q8 : ∀ u, u < 2 → d (60 + u) = nI (tx u) ∧ tx u ≤ 50) (hOk : lnOk d) (q4 : d 11 = nI nc) (q5 : nc ≤ 6) : Con κ l yX12_gusts cX12_gusts 4 (some .int) 43 0 0 [.ref o, .int v] h n (fun q h' n' => ∃ ba' : Int32, ∃ at' : Int32, ∃ sz' : Int32, ∃ fa' : Int32, ∃ op' : Int32, ∃ nm' : Nat → Int32, q = some (.int (ansOf (opGusts (Tx d) tx d v))) ∧ h' = va_up (va_up (va_up (va_up h o (some (.inr (12, [.ref (o + 1), .ref (o + 2), .ref (o + 3), .int im, .ref (o + 4), .int ba', .int at', .int sz', .int fa', .int op', .ref (o + 5), .ref (o + 6), .int rm, .ref (o + 7), .ref (o + 8), .int ti, .ref (o + 9), .int tm, .int wh, .ref (o + 10), .ref (o + 11), .ref (o + 12), .ref (o + 13)])))) (o + 5) (arI κ 3 nm')) (o + 1) (arI κ 340 (dGusts (Tx d) tx d v))) (o + 4) (arI κ 6 (bump (opGusts (Tx d) tx d v) fo)) ∧ n' = n) := by
  refine Con.of mk_X12_gusts (Nat.le_of_ble_eq_true rfl) (fun G hG X E => ?_)
  subst hG
  refine z_ls (ls' := [(0, .ref o), (1, .int v)]) rfl ?_
  refine z_iload_n X 1 dX12_gusts_0 rfl ?_
  refine z_i2l X dX12_gusts_1 rfl ?_
  refine z_lconst (v := 1) X dX12_gusts_2 (by decide) ?_
  refine z_ldc2 X dX12_gusts_3 wd_1158 ?_
  refine z_callS X (r_in (κ := κ) (n := n) (v := (v.toInt64)) (lo := (1 : Int64)) (hi := (100 : Int64))  ) mk_X12_in dX12_gusts_6 wd_1014 wd_1015 rfl rfl (Nat.le_of_ble_eq_true rfl) (Nat.le_of_ble_eq_true rfl) (Nat.le_of_ble_eq_true rfl) (by omega) (by omega) (fun q zh1 zm3 zp4 => ?_)
  obtain ⟨rfl, ze2, zn5⟩ := zp4
  subst zm3
  subst zh1
  refine z_st (st' := [.int (b2i ((1 : Int64).toInt ≤ (v.toInt64 : Int64).toInt ∧ (v.toInt64 : Int64).toInt ≤ (100 : Int64).toInt))]) rfl ?_
  refine z_toe (y := b2i (1 ≤ v.toInt ∧ v.toInt ≤ 100)) (by simp only [Int32.toInt_toInt64, show (1 : Int64).toInt = 1 by decide, show (100 : Int64).toInt = 100 by decide]) ?_
  refine z_if_ne X 18 dX12_gusts_9 (by decide) (fun zc6 => ?_) (fun zc6 => ?_)
  · replace zc6 := b2i_t zc6
    refine z_aload_n X 0 dX12_gusts_18 rfl ?_
    refine z_iload_n X 1 dX12_gusts_19 rfl ?_
    refine z_callV X (r_isLate (κ := κ) (n := n) (o := (o)) (v := (v)) (d := (d)) (im := (im)) (ba := (ba)) (at_ := (at_)) (sz := (sz)) (fa := (fa)) (op := (op)) (rm := (rm)) (ti := (ti)) (tm := (tm)) (wh := (wh)) K0 K2 ) mk_X12_isLate dX12_gusts_20 wd_1159 wd_1161 wd_39 rfl K0 rfl rfl rfl (Nat.le_of_ble_eq_true rfl) (Nat.le_of_ble_eq_true rfl) (Nat.le_of_ble_eq_true rfl) (by omega) (by omega) (fun q zh7 zm9 zp10 => ?_)
    obtain ⟨rfl, ze8, zn11⟩ := zp10
    subst zm9
    subst zh7
    refine z_st (st' := [.int (b2i (9999 < d 0 + v))]) rfl ?_
    refine z_if_eq X 32 dX12_gusts_23 (by decide) (fun zc12 => ?_) (fun zc12 => ?_)
    · replace zc12 := b2i_f zc12
      have hgp : goesP v := by assumption
      obtain ⟨vk, hvk, rfl⟩ := ix_of (c := v) (len := 101) (by omega) (by omega)
      refine z_aload_n X 0 dX12_gusts_32 rfl ?_
      refine z_get X fl_X12_7_12 dX12_gusts_33 K0 rfl ?_
      refine z_bipush (v := 7) X dX12_gusts_36 (by decide) ?_
      refine z_iald2 (v := d 7) X dX12_gusts_38 K2 (vp_in_nI (n := 7) (by omega) (by omega)) (congrArg d (nI_clamp (n := 7) (by omega))) ?_
      refine z_istore_n (ls' := [(2, .int (d 7)), (0, .ref o), (1, .int (nI vk))]) X dX12_gusts_39 (by decide) rfl ?_
      refine z_iconst (v := 0) X dX12_gusts_40 (by decide) ?_
      refine z_istore_n (ls' := [(3, .int 0), (2, .int (d 7)), (0, .ref o), (1, .int (nI vk))]) X dX12_gusts_41 (by decide) rfl ?_
      have L42 : ∀ (jj : Nat) (hh42 : Mm)  (i : Nat) (ba2 : Int32) (at2 : Int32) (sz2 : Int32) (fa2 : Int32) (op2 : Int32) (nm2 : Nat → Int32), (vk - i < jj) → (hh42 = va_up (va_up (va_up h o (some (.inr (12, [.ref (o + 1), .ref (o + 2), .ref (o + 3), .int im, .ref (o + 4), .int ba2, .int at2, .int sz2, .int fa2, .int op2, .ref (o + 5), .ref (o + 6), .int rm, .ref (o + 7), .ref (o + 8), .int ti, .ref (o + 9), .int tm, .int wh, .ref (o + 10), .ref (o + 11), .ref (o + 12), .ref (o + 13)])))) (o + 5) (arI κ 3 nm2)) (o + 1) (arI κ 340 (gsN (Tx d) tx i d))) → (hi : i ≤ vk) → Z κ G 4 42 [(0, .ref o), (1, .int (nI vk)), (2, .int (d 7)), (3, .int (nI i))] [] hh42 n 0 (0) := by
        intro jj
        induction jj with
        | zero => intro hh42 i ba2 at2 sz2 fa2 op2 nm2 hmu; exact absurd hmu (Nat.not_lt_zero _)
        | succ jj ih42 =>
          intro hh42 i ba2 at2 sz2 fa2 op2 nm2 hmu he42 hi
          have zK13 : hh42 o = some (.inr (12, [.ref (o + 1), .ref (o + 2), .ref (o + 3), .int im, .ref (o + 4), .int ba2, .int at2, .int sz2, .int fa2, .int op2, .ref (o + 5), .ref (o + 6), .int rm, .ref (o + 7), .ref (o + 8), .int ti, .ref (o + 9), .int tm, .int wh, .ref (o + 10), .ref (o + 11), .ref (o + 12), .ref (o + 13)])) := by rw [he42]; rw [va_up_ne _ _ (show o ≠ o + 1 by omega)]; rw [va_up_ne _ _ (show o ≠ o + 5 by omega)]; exact va_up_self _ _ _
          have zK14 : hh42 (o + 4) = arI κ 6 fo := by rw [he42]; rw [va_up_ne _ _ (show o + 4 ≠ o + 1 by omega)]; rw [va_up_ne _ _ (show o + 4 ≠ o + 5 by omega)]; rw [va_up_ne _ _ (show o + 4 ≠ o by omega)]; exact K1
          have zK15 : hh42 (o + 1) = arI κ 340 (gsN (Tx d) tx i d) := by rw [he42]; exact va_up_self _ _ _
          have zK16 : hh42 (o + 5) = arI κ 3 nm2 := by rw [he42]; rw [va_up_ne _ _ (show o + 5 ≠ o + 1 by omega)]; exact va_up_self _ _ _
          refine z_iload_n X 3 dX12_gusts_42 rfl ?_
          refine z_iload_n X 1 dX12_gusts_43 rfl ?_
          refine z_icmp_ge X 102 dX12_gusts_44 (by decide) (fun zc17 => ?_) (fun zc17 => ?_)
          · try replace zc17 := (nI_leI (a := vk) (b := i) (by omega) (by omega)).mp zc17
            refine z_aload_n X 0 dX12_gusts_102 rfl ?_
            refine z_get X fl_X12_7_12 dX12_gusts_103 zK13 rfl ?_
            refine z_bipush (v := 7) X dX12_gusts_106 (by decide) ?_
            refine z_iload_n X 2 dX12_gusts_108 rfl ?_
            refine z_iast X dX12_gusts_109 zK15 (vp_in_nI (n := 7) (by omega) (by omega)) (congrArg (fun z => va_up hh42 (o + 1) (arI κ 340 (upd (gsN (Tx d) tx i d) z (d 7)))) (nI_clamp (n := 7) (by omega))) ?_
            obtain ⟨zh18, ze19⟩ : ∃ z : Mm, z = va_up hh42 (o + 1) (arI κ 340 (upd (gsN (Tx d) tx i d) 7 (d 7))) := ⟨_, rfl⟩
            refine z_heap (h' := zh18) ze19.symm ?_
            have zK20 := up_off ze19 (show o ≠ o + 1 by omega) zK13
            have zK21 := up_off ze19 (show o + 4 ≠ o + 1 by omega) zK14
            have zK22 := up_at ze19
            have zK23 := up_off ze19 (show o + 5 ≠ o + 1 by omega) zK16
            refine z_aload_n X 0 dX12_gusts_110 rfl ?_
            refine z_get X fl_X12_7_12 dX12_gusts_111 zK20 rfl ?_
            refine z_iconst (v := 0) X dX12_gusts_114 (by decide) ?_
            refine z_iald2 (v := (gsN (Tx d) tx i d) 0) X dX12_gusts_115 zK22 (vp_in_nI (n := 0) (by omega) (by omega)) ((congrArg (upd (gsN (Tx d) tx i d) 7 (d 7)) (nI_clamp (n := 0) (by omega))).trans (pk_un (show 0 ≠ 7 by omega))) ?_
            refine z_iret X E dX12_gusts_116 (by omega) (by omega) ⟨ba2, at2, sz2, fa2, op2, nm2, ?_, ?_, ?_⟩
            · (have hiv : i = vk := by omega); subst hiv; (have hop : opGusts (Tx d) tx d (nI i) = (0, gsN (Tx d) tx i d 0) := by (unfold opGusts; rw [if_neg (fun q => q hgp), if_neg (by assumption), nI_clamp (by omega)])); rw [hop, ansOf_0]
            · (have hiv : i = vk := by omega); subst hiv; (have hop : opGusts (Tx d) tx d (nI i) = (0, gsN (Tx d) tx i d 0) := by (unfold opGusts; rw [if_neg (fun q => q hgp), if_neg (by assumption), nI_clamp (by omega)])); (have hdd : dGusts (Tx d) tx d (nI i) = upd (gsN (Tx d) tx i d) 7 (d 7) := by (unfold dGusts; rw [if_neg (fun q => q hgp), if_neg (by assumption), nI_clamp (by omega)])); rw [hop, hdd, bump_0]; clear hop hdd; rw [ze19, he42]; funext zz; simp only [va_up]; (repeat' split) <;> first | rfl | (exfalso; omega) | (subst_vars; assumption)
            · rfl
          · try replace zc17 := mt (nI_leI (a := vk) (b := i) (by omega) (by omega)).mpr zc17
            refine z_aload_n X 0 dX12_gusts_47 rfl ?_
            refine z_get X fl_X12_7_12 dX12_gusts_48 zK13 rfl ?_
            refine z_bipush (v := 13) X dX12_gusts_51 (by decide) ?_
            refine z_aload_n X 0 dX12_gusts_53 rfl ?_
            refine z_get X fl_X12_7_12 dX12_gusts_54 zK13 rfl ?_
            refine z_bipush (v := 13) X dX12_gusts_57 (by decide) ?_
            refine z_iald2 (v := (gsN (Tx d) tx i d) 13) X dX12_gusts_59 zK15 (vp_in_nI (n := 13) (by omega) (by omega)) (congrArg (gsN (Tx d) tx i d) (nI_clamp (n := 13) (by omega))) ?_
            refine z_ldc X dX12_gusts_60 wd_1173 ?_
            refine z_imul X dX12_gusts_62 ?_
            refine z_sipush (v := 12345) X dX12_gusts_63 (by decide) ?_
            refine z_iadd X dX12_gusts_66 ?_
            refine z_iast X dX12_gusts_67 zK15 (vp_in_nI (n := 13) (by omega) (by omega)) (congrArg (fun z => va_up hh42 (o + 1) (arI κ 340 (upd (gsN (Tx d) tx i d) z ((((gsN (Tx d) tx i d) 13) * 1103515245) + 12345)))) (nI_clamp (n := 13) (by omega))) ?_
            obtain ⟨zh24, ze25⟩ : ∃ z : Mm, z = va_up hh42 (o + 1) (arI κ 340 (upd (gsN (Tx d) tx i d) 13 ((((gsN (Tx d) tx i d) 13) * 1103515245) + 12345))) := ⟨_, rfl⟩
            refine z_heap (h' := zh24) ze25.symm ?_
            have zK26 := up_off ze25 (show o ≠ o + 1 by omega) zK13
            have zK27 := up_off ze25 (show o + 4 ≠ o + 1 by omega) zK14
            have zK28 := up_at ze25
            have zK29 := up_off ze25 (show o + 5 ≠ o + 1 by omega) zK16
            refine z_aload_n X 0 dX12_gusts_68 rfl ?_
            refine z_get X fl_X12_7_12 dX12_gusts_69 zK26 rfl ?_
            refine z_bipush (v := 7) X dX12_gusts_72 (by decide) ?_
            refine z_aload_n X 0 dX12_gusts_74 rfl ?_
            refine z_get X fl_X12_7_12 dX12_gusts_75 zK26 rfl ?_
            refine z_bipush (v := 13) X dX12_gusts_78 (by decide) ?_
            refine z_iald2 (v := (((gsN (Tx d) tx i d) 13) * 1103515245) + 12345) X dX12_gusts_80 zK28 (vp_in_nI (n := 13) (by omega) (by omega)) ((congrArg (upd (gsN (Tx d) tx i d) 13 ((((gsN (Tx d) tx i d) 13) * 1103515245) + 12345)) (nI_clamp (n := 13) (by omega))).trans pk_us) ?_
            refine z_bipush (v := 8) X dX12_gusts_81 (by decide) ?_
            refine z_iushr X dX12_gusts_83 rfl ?_
            refine z_bipush (v := 100) X dX12_gusts_84 (by decide) ?_
            refine z_irem X dX12_gusts_86 (by decide) ?_
            refine z_iast X dX12_gusts_87 zK28 (vp_in_nI (n := 7) (by omega) (by omega)) (congrArg (fun z => va_up zh24 (o + 1) (arI κ 340 (upd (upd (gsN (Tx d) tx i d) 13 ((((gsN (Tx d) tx i d) 13) * 1103515245) + 12345)) z (((((((gsN (Tx d) tx i d) 13) * 1103515245) + 12345).toUInt32 >>> (Int32.toUInt32 8 &&& Int32.toUInt32 31)).toInt32) - ((((((gsN (Tx d) tx i d) 13) * 1103515245) + 12345).toUInt32 >>> (Int32.toUInt32 8 &&& Int32.toUInt32 31)).toInt32) / 100 * 100)))) (nI_clamp (n := 7) (by omega))) ?_
            obtain ⟨zh30, ze31⟩ : ∃ z : Mm, z = va_up zh24 (o + 1) (arI κ 340 (upd (upd (gsN (Tx d) tx i d) 13 ((((gsN (Tx d) tx i d) 13) * 1103515245) + 12345)) 7 (((((((gsN (Tx d) tx i d) 13) * 1103515245) + 12345).toUInt32 >>> (Int32.toUInt32 8 &&& Int32.toUInt32 31)).toInt32) - ((((((gsN (Tx d) tx i d) 13) * 1103515245) + 12345).toUInt32 >>> (Int32.toUInt32 8 &&& Int32.toUInt32 31)).toInt32) / 100 * 100))) := ⟨_, rfl⟩
            refine z_heap (h' := zh30) ze31.symm ?_
            have zK32 := up_off ze31 (show o ≠ o + 1 by omega) zK26
            have zK33 := up_off ze31 (show o + 4 ≠ o + 1 by omega) zK27
            have zK34 := up_at ze31
            have zK35 := up_off ze31 (show o + 5 ≠ o + 1 by omega) zK29
            refine z_ext (g := gsM (gsN (Tx d) tx i d)) zK34 (fun z hz => rfl) ?_
            obtain ⟨zh36, ze37⟩ : ∃ z : Mm, z = va_up zh30 (o + 1) (arI κ 340 (gsM (gsN (Tx d) tx i d))) := ⟨_, rfl⟩
            refine z_heap (h' := zh36) ze37.symm ?_
            have zK38 := up_off ze37 (show o ≠ o + 1 by omega) zK32
            have zK39 := up_off ze37 (show o + 4 ≠ o + 1 by omega) zK33
            have zK40 := up_at ze37
            have zK41 := up_off ze37 (show o + 5 ≠ o + 1 by omega) zK35
            refine z_aload_n X 0 dX12_gusts_88 rfl ?_
            refine z_aload_n X 0 dX12_gusts_89 rfl ?_
            refine z_get X fl_X12_7_12 dX12_gusts_90 zK38 rfl ?_
            refine z_callV X (r_goesBy_d (κ := κ) (n := n) (o := (o)) (m := (gsM (gsN (Tx d) tx i d))) (nm := (nm2)) (len := (lnO (gsM (gsN (Tx d) tx i d)))) (nc := (nc)) (im := (im)) (ba := (ba2)) (at_ := (at2)) (sz := (sz2)) (fa := (fa2)) (op := (op2)) (rm := (rm)) (ti := (ti)) (tm := (tm)) (wh := (wh)) zK38 zK40 zK41 (fun u hu => ⟨(gsM_off (by omega)).trans ((gsN_off hOk (by omega) i).trans (q8 u hu).1), (q8 u hu).2⟩) ((lnOk_gsM (gsN_ok hOk i)).1) ((lnOk_gsM (gsN_ok hOk i)).2.1) ((lnOk_gsM (gsN_ok hOk i)).2.2) ((gsM_off (by omega)).trans ((gsN_off hOk (by omega) i).trans q4)) (by first | assumption | omega)) mk_X12_goesBy dX12_gusts_93 wd_1163 wd_1165 wd_40 rfl zK38 rfl rfl rfl (Nat.le_of_ble_eq_true rfl) (Nat.le_of_ble_eq_true rfl) (Nat.le_of_ble_eq_true rfl) (by omega) (by omega) (fun q zh48 zm50 zp51 => ?_)
            obtain ⟨ba'42, at'43, sz'44, fa'45, op'46, nm'47, rfl, ze49, zn52⟩ := zp51
            subst zm50
            refine z_st (st' := []) rfl ?_
            have zK53 : zh48 o = some (.inr (12, [.ref (o + 1), .ref (o + 2), .ref (o + 3), .int im, .ref (o + 4), .int ba'42, .int at'43, .int sz'44, .int fa'45, .int op'46, .ref (o + 5), .ref (o + 6), .int rm, .ref (o + 7), .ref (o + 8), .int ti, .ref (o + 9), .int tm, .int wh, .ref (o + 10), .ref (o + 11), .ref (o + 12), .ref (o + 13)])) := by rw [ze49]; rw [va_up_ne _ _ (show o ≠ o + 1 by omega)]; rw [va_up_ne _ _ (show o ≠ o + 5 by omega)]; exact va_up_self _ _ _
            have zK54 : zh48 (o + 4) = arI κ 6 fo := by rw [ze49]; rw [va_up_ne _ _ (show o + 4 ≠ o + 1 by omega)]; rw [va_up_ne _ _ (show o + 4 ≠ o + 5 by omega)]; rw [va_up_ne _ _ (show o + 4 ≠ o by omega)]; exact zK39
            have zK55 : zh48 (o + 1) = arI κ 340 (gby (Tx (gsM (gsN (Tx d) tx i d))) tx (gsM (gsN (Tx d) tx i d))) := by rw [ze49]; exact va_up_self _ _ _
            have zK56 : zh48 (o + 5) = arI κ 3 nm'47 := by rw [ze49]; rw [va_up_ne _ _ (show o + 5 ≠ o + 1 by omega)]; exact va_up_self _ _ _
            refine z_iinc (v := nI (i + 1)) (ls' := [(3, .int (nI (i + 1))), (0, .ref o), (1, .int (nI vk)), (2, .int (d 7))]) X 3 dX12_gusts_96 rfl (nI_1 (i)) (by decide) rfl ?_
            refine z_goto X 42 dX12_gusts_99 (by decide) ?_
            refine z_sub (ls' := [(0, .ref o), (1, .int (nI vk)), (2, .int (d 7)), (3, .int (nI (i + 1)))]) [1, 2, 3, 0] rfl ?_
            exact ih42 _ (i + 1) ba'42 at'43 sz'44 fa'45 op'46 nm'47 (by omega) (by rw [gsN_s]; rw [ze49, ze37, ze31, ze25, he42]; rw [Tx_gsM hOk i]; funext zz; simp only [va_up]; (repeat' split) <;> first | rfl | (exfalso; omega)) (by first | assumption | rfl | omega)
      refine z_sub (ls' := [(0, .ref o), (1, .int (nI vk)), (2, .int (d 7)), (3, .int 0)]) [2, 3, 1, 0] rfl ?_
      exact L42 _ _ 0 ba at_ sz fa op nm (Nat.lt_succ_self _) (by rw [gsN_z, up_same _ _ K0, up_same _ _ K3, up_same _ _ K2]) (by first | assumption | rfl | omega)
    · replace zc12 := b2i_t zc12
      refine z_aload_n X 0 dX12_gusts_26 rfl ?_
      refine z_iconst (v := 3) X dX12_gusts_27 (by decide) ?_
      refine z_callV X (r_finds (κ := κ) (n := n) (o := (o)) (k := (3)) (fo := (fo)) (im := (im)) (ba := (ba)) (at_ := (at_)) (sz := (sz)) (fa := (fa)) (op := (op)) (rm := (rm)) (ti := (ti)) (tm := (tm)) (wh := (wh)) K0 K1 (by first | assumption | omega) (by first | assumption | omega)) mk_X12_finds dX12_gusts_28 wd_1018 wd_1020 wd_24 rfl K0 rfl rfl rfl (Nat.le_of_ble_eq_true rfl) (Nat.le_of_ble_eq_true rfl) (Nat.le_of_ble_eq_true rfl) (by omega) (by omega) (fun q zh57 zm59 zp60 => ?_)
      obtain ⟨rfl, ze58, zn61⟩ := zp60
      subst zm59
      refine z_st (st' := [.int (lowE 3)]) rfl ?_
      have zK62 : zh57 o = some (.inr (12, [.ref (o + 1), .ref (o + 2), .ref (o + 3), .int im, .ref (o + 4), .int ba, .int at_, .int sz, .int fa, .int op, .ref (o + 5), .ref (o + 6), .int rm, .ref (o + 7), .ref (o + 8), .int ti, .ref (o + 9), .int tm, .int wh, .ref (o + 10), .ref (o + 11), .ref (o + 12), .ref (o + 13)])) := by rw [ze58]; rw [va_up_ne _ _ (show o ≠ o + 4 by omega)]; exact K0
      have zK63 : zh57 (o + 4) = arI κ 6 (bmp fo 3) := by rw [ze58]; exact va_up_self _ _ _
      have zK64 : zh57 (o + 1) = arI κ 340 d := by rw [ze58]; rw [va_up_ne _ _ (show o + 1 ≠ o + 4 by omega)]; exact K2
      have zK65 : zh57 (o + 5) = arI κ 3 nm := by rw [ze58]; rw [va_up_ne _ _ (show o + 5 ≠ o + 4 by omega)]; exact K3
      refine z_iret X E dX12_gusts_31 (by omega) (by omega) ⟨ba, at_, sz, fa, op, nm, ?_, ?_, ?_⟩
      · (have hop : opGusts (Tx d) tx d v = (3, 0) := by (unfold opGusts; rw [if_neg (fun q => q (by assumption)), if_pos (by assumption)])); (have hdd : dGusts (Tx d) tx d v = d := by (unfold dGusts; rw [if_neg (fun q => q (by assumption)), if_pos (by assumption)])); rw [hop]; rfl
      · (have hop : opGusts (Tx d) tx d v = (3, 0) := by (unfold opGusts; rw [if_neg (fun q => q (by assumption)), if_pos (by assumption)])); (have hdd : dGusts (Tx d) tx d v = d := by (unfold dGusts; rw [if_neg (fun q => q (by assumption)), if_pos (by assumption)])); rw [hop, hdd]; rw [ze58]; funext zz; simp only [va_up, bump, ↓reduceIte]; (repeat' split) <;> first | rfl | (exfalso; omega) | (simp_all; done)
      · rfl
  · replace zc6 := b2i_f zc6
    refine z_aload_n X 0 dX12_gusts_12 rfl ?_
    refine z_iconst (v := 1) X dX12_gusts_13 (by decide) ?_
    refine z_callV X (r_finds (κ := κ) (n := n) (o := (o)) (k := (1)) (fo := (fo)) (im := (im)) (ba := (ba)) (at_ := (at_)) (sz := (sz)) (fa := (fa)) (op := (op)) (rm := (rm)) (ti := (ti)) (tm := (tm)) (wh := (wh)) K0 K1 (by first | assumption | omega) (by first | assumption | omega)) mk_X12_finds dX12_gusts_14 wd_1018 wd_1020 wd_24 rfl K0 rfl rfl rfl (Nat.le_of_ble_eq_true rfl) (Nat.le_of_ble_eq_true rfl) (Nat.le_of_ble_eq_true rfl) (by omega) (by omega) (fun q zh66 zm68 zp69 => ?_)
    obtain ⟨rfl, ze67, zn70⟩ := zp69
    subst zm68
    refine z_st (st' := [.int (lowE 1)]) rfl ?_
    have zK71 : zh66 o = some (.inr (12, [.ref (o + 1), .ref (o + 2), .ref (o + 3), .int im, .ref (o + 4), .int ba, .int at_, .int sz, .int fa, .int op, .ref (o + 5), .ref (o + 6), .int rm, .ref (o + 7), .ref (o + 8), .int ti, .ref (o + 9), .int tm, .int wh, .ref (o + 10), .ref (o + 11), .ref (o + 12), .ref (o + 13)])) := by rw [ze67]; rw [va_up_ne _ _ (show o ≠ o + 4 by omega)]; exact K0
    have zK72 : zh66 (o + 4) = arI κ 6 (bmp fo 1) := by rw [ze67]; exact va_up_self _ _ _
    have zK73 : zh66 (o + 1) = arI κ 340 d := by rw [ze67]; rw [va_up_ne _ _ (show o + 1 ≠ o + 4 by omega)]; exact K2
    have zK74 : zh66 (o + 5) = arI κ 3 nm := by rw [ze67]; rw [va_up_ne _ _ (show o + 5 ≠ o + 4 by omega)]; exact K3
    refine z_iret X E dX12_gusts_17 (by omega) (by omega) ⟨ba, at_, sz, fa, op, nm, ?_, ?_, ?_⟩
    · (have hop : opGusts (Tx d) tx d v = (1, 0) := by (unfold opGusts; rw [if_pos (by assumption)])); (have hdd : dGusts (Tx d) tx d v = d := by (unfold dGusts; rw [if_pos (by assumption)])); rw [hop]; rfl
    · (have hop : opGusts (Tx d) tx d v = (1, 0) := by (unfold opGusts; rw [if_pos (by assumption)])); (have hdd : dGusts (Tx d) tx d v = d := by (unfold dGusts; rw [if_pos (by assumption)])); rw [hop, hdd]; rw [ze67]; funext zz; simp only [va_up, bump, ↓reduceIte]; (repeat' split) <;> first | rfl | (exfalso; omega) | (simp_all; done)
    · rfl
