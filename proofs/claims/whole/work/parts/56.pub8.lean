def Ag (m m2 : Nat → Int32) : Prop := ∀ q, q ≠ 2 → q ≠ 3 → q ≠ 15 → m q = m2 q
section AG
variable {m m2 : Nat → Int32}
theorem Ag.refl : Ag m m := fun q _ _ _ => rfl
theorem Ag.at_ (h : Ag m m2) {q : Nat} (hq : 16 ≤ q) : m q = m2 q := h q (by omega) (by omega) (by omega)
theorem Ag.upd {q : Nat} {x : Int32} (h : Ag m m2) : Ag (upd m q x) (upd m2 q x) := by
  intro z h1 h2 h3
  by_cases e : z = q
  · rw [e, pk_us, pk_us]
  · rw [pk_un e, pk_un e]; exact h z h1 h2 h3
theorem so_Ag (h : Ag m m2) (len c : Nat) : soR m len c = soR m2 len c := by
  unfold soR
  rw [h.at_ (q := 100 + c) (by omega), h.at_ (q := 100 + c - 1) (by omega), h.at_ (q := 100 + c + 1) (by omega)]
theorem frz_Ag (h : Ag m m2) (len k c : Nat) (w s cold : Int32) : frz m len k c w s cold = frz m2 len k c w s cold := by
  unfold frz
  rw [h.at_ (q := 20 + 2 * k) (by omega), h.at_ (q := 20 + 2 * k + 1) (by omega), so_Ag h, h 7 (by omega) (by omega) (by omega), h 0 (by omega) (by omega) (by omega)]
theorem frT_Ag (h : Ag m m2) (len nc c : Nat) (w s cold : Int32) : frT m len nc c w s cold = frT m2 len nc c w s cold := by
  unfold frT
  refine sumN_ext _ (fun k hk => ?_)
  unfold frF
  rw [h 10 (by omega) (by omega) (by omega), frz_Ag h]
theorem gbL_Ag {cold : Int32} {len nc : Nat} {w s : Int32} (h : Ag m m2) : ∀ c, Ag (gbL cold len nc c (m, w, s)).1 (gbL cold len nc c (m2, w, s)).1 ∧ (gbL cold len nc c (m, w, s)).2 = (gbL cold len nc c (m2, w, s)).2 := by
  intro c
  induction c with
  | zero => exact ⟨h, rfl⟩
  | succ c ih =>
    show Ag (gbS cold len nc c (gbL cold len nc c (m, w, s))).1 (gbS cold len nc c (gbL cold len nc c (m2, w, s))).1 ∧ (gbS cold len nc c (gbL cold len nc c (m, w, s))).2 = (gbS cold len nc c (gbL cold len nc c (m2, w, s))).2
    generalize gbL cold len nc c (m, w, s) = x at *
    generalize gbL cold len nc c (m2, w, s) = y at *
    obtain ⟨x1, x2⟩ := x
    obtain ⟨y1, y2⟩ := y
    obtain ⟨h1, h2⟩ := ih
    dsimp only at h1 h2
    subst h2
    unfold gbS
    dsimp only
    rw [frT_Ag h1, h1.at_ (q := 100 + c) (by omega), h1.at_ (q := 140 + c) (by omega)]
    exact ⟨h1.upd.upd, rfl⟩
theorem gby_Ag {T : Nat → Nat → Int32} {tx : Nat → Nat} (h : Ag m m2) : Ag (gby T tx m) (gby T tx m2) := by
  have e0 := h 0 (by omega) (by omega) (by omega)
  have e1 := h 1 (by omega) (by omega) (by omega)
  have e4 := h 4 (by omega) (by omega) (by omega)
  have e5 := h 5 (by omega) (by omega) (by omega)
  have e6 := h 6 (by omega) (by omega) (by omega)
  have e11 := h 11 (by omega) (by omega) (by omega)
  have hw : watR T tx m = watR T tx m2 := by unfold watR; rw [e0, e4, e6]
  have hc : cldR T tx m = cldR T tx m2 := by unfold cldR; rw [e0, e4, e6]
  have hl : lnO m = lnO m2 := by unfold lnO; rw [e1]
  have hn : ncO m = ncO m2 := by unfold ncO; rw [e11]
  have hx : Ag (gbX T tx m).1 (gbX T tx m2).1 ∧ (gbX T tx m).2 = (gbX T tx m2).2 := by
    unfold gbX
    rw [hw, hc, hl, hn, e5]
    exact gbL_Ag h _
  unfold gby
  rw [hl]
  generalize gbX T tx m = x at *
  generalize gbX T tx m2 = y at *
  obtain ⟨x1, x2⟩ := x
  obtain ⟨y1, y2⟩ := y
  obtain ⟨h1, h2⟩ := hx
  dsimp only at h1 h2
  subst h2
  dsimp only
  rw [h1 0 (by omega) (by omega) (by omega)]
  refine Ag.upd ?_
  unfold gbE
  dsimp only
  have e8 := h1 8 (by omega) (by omega) (by omega)
  by_cases hq : ¬ x2.1 ≤ 0 ∧ ¬ y1 8 ≤ x2.1 ∧ lnO m2 < 40
  · rw [if_pos (show ¬ x2.1 ≤ 0 ∧ ¬ x1 8 ≤ x2.1 ∧ lnO m2 < 40 by rw [e8]; exact hq), if_pos hq]
    exact h1.upd.upd.upd
  · rw [if_neg (show ¬ (¬ x2.1 ≤ 0 ∧ ¬ x1 8 ≤ x2.1 ∧ lnO m2 < 40) by rw [e8]; exact hq), if_neg hq]
    by_cases hq2 : ¬ x2.1 ≤ 0
    · rw [if_pos hq2, if_pos hq2]
      intro z z2 z3 z15
      rw [pk_un z3, pk_un z2, pk_un z3, pk_un z2]
      exact h1 z z2 z3 z15
    · rw [if_neg hq2, if_neg hq2]
      exact h1
theorem gbyN_Ag {T : Nat → Nat → Int32} {tx : Nat → Nat} (h : Ag m m2) : ∀ k, Ag (gbyN T tx k m) (gbyN T tx k m2) := by
  intro k
  induction k with
  | zero => exact h
  | succ k ih => exact gby_Ag ih
theorem ln_Ag (h : Ag m m2) : lnO m = lnO m2 := by unfold lnO; rw [h 1 (by omega) (by omega) (by omega)]
theorem rl_Ag (h : Ag m m2) (len : Nat) : ∀ i, rl m len i = rl m2 len i := by
  intro i
  induction i with
  | zero => rfl
  | succ i ih =>
    unfold rl isRing
    rw [so_Ag h, so_Ag h, so_Ag h, ih]
theorem rn_Ag (h : Ag m m2) : rnE m = rnE m2 := by
  unfold rnE rn
  rw [ln_Ag h, rl_Ag h]
theorem rAt_Ag (h : Ag m m2) (j : Nat) : rAtE m j = rAtE m2 j := by
  unfold rAtE rAt
  rw [ln_Ag h, rl_Ag h]
theorem chk_Ag (h : Ag m m2) (f : Nat → Int32) (nw : Nat) : chk f nw m = chk f nw m2 := by
  unfold chk
  rw [rn_Ag h, show (fun k => nI (rAtE m k)) = fun k => nI (rAtE m2 k) from funext (fun k => congrArg nI (rAt_Ag h k))]
theorem offE_Ag (h : Ag m m2) (nu : Nat → Int32) (sz s : Nat) : offE m nu sz s = offE m2 nu sz s := by
  unfold offE offS
  rw [ln_Ag h]
  refine sumN_ext _ (fun k hk => ?_)
  unfold wI
  rw [h.at_ (q := 100 + k) (by omega)]
theorem unlE_Ag {x x2 : Nat → Int32} (h : Ag m m2) (h2 : Ag x x2) : unlE m x = unlE m2 x2 := by
  unfold unlE
  refine b2i_iff (not_congr ?_)
  rw [ln_Ag h, h 1 (by omega) (by omega) (by omega), h2 1 (by omega) (by omega) (by omega)]
  refine and_congr Iff.rfl ⟨fun q c hc => ?_, fun q c hc => ?_⟩
  · have := q c hc
    rw [h.at_ (q := 100 + c) (by omega), h2.at_ (q := 100 + c) (by omega)] at this
    exact this
  · rw [h.at_ (q := 100 + c) (by omega), h2.at_ (q := 100 + c) (by omega)]
    exact q c hc
end AG
theorem Ag_15 (d : Nat → Int32) : Ag d (upd d 15 0) := fun q _ _ h => (pk_un h).symm
theorem Ag_bg (d : Nat → Int32) : Ag (bg2 d) (bgn d) := fun q h2 h3 _ => (pk_un h3).trans (pk_un h2)
section TH
variable {T : Nat → Nat → Int32} {tx : Nat → Nat} {d : Nat → Int32} {vn : Nat} {w : Int32}
theorem opThen_e {v w : Int32} (h : ¬ (0 ≤ v.toInt ∧ v.toInt ≤ 60 ∧ 0 ≤ w.toInt ∧ w.toInt ≤ 6)) : opThen T tx d v w = (1, 0) := if_pos h
theorem opThen_l (hv : vn ≤ 60) : opThen T tx d (nI vn) 0 = (0, gbyN T tx vn d 1) ∧ opThen T tx d (nI vn) 1 = (0, nI (rnE (gbyN T tx vn d))) ∧ opThen T tx d (nI vn) 2 = (0, massR (gbyN T tx vn d) (lnO (gbyN T tx vn d))) ∧ opThen T tx d (nI vn) 3 = (0, gbyN T tx vn d 2) ∧ opThen T tx d (nI vn) 4 = (0, gbyN T tx vn d 3) ∧ opThen T tx d (nI vn) 5 = (0, gbyN T tx vn d (100 + lnO (gbyN T tx vn d) - 1)) := by
  have e1 := i_nI (n := vn) (by omega)
  unfold opThen
  rw [ahd_n _ _ _ (by omega)]
  refine ⟨?_, ?_, ?_, ?_, ?_, ?_⟩ <;> (rw [if_neg (fun q => q ⟨by omega, by omega, by decide, by decide⟩)]; rfl)
theorem opThen_6 (hv : vn ≤ 60) (hw : 0 ≤ w.toInt ∧ w.toInt ≤ 6) (h0 : ¬ w = 0) (h1 : ¬ w = 1) (h2 : ¬ w = 2) (h3 : ¬ w = 3) (h4 : ¬ w = 4) (h5 : ¬ w = 5) : opThen T tx d (nI vn) w = (0, saltR (gbyN T tx vn d) (lnO (gbyN T tx vn d))) := by
  have e1 := i_nI (n := vn) (by omega)
  unfold opThen
  rw [ahd_n _ _ _ (by omega), if_neg (by omega), if_neg (fun q => h0 (eq0_of q)), if_neg (fun q => h1 (i_eq.mpr (q.trans (by decide)))), if_neg (fun q => h2 (i_eq.mpr (q.trans (by decide)))), if_neg (fun q => h3 (i_eq.mpr (q.trans (by decide)))), if_neg (fun q => h4 (i_eq.mpr (q.trans (by decide)))), if_neg (fun q => h5 (i_eq.mpr (q.trans (by decide))))]
end TH
set_option maxHeartbeats 4000000 in
set_option maxRecDepth 100000 in
theorem p_then {κ : Wc} {l : Launch} {h : Mm} {n : Nat} {o : Nat} {im : Int32} {d : Nat → Int32} {len : Nat} {nc : Nat} {cold : Int32} {wind : Int32} {cs : Nat → Option Nat} {ts : Nat → Option Nat} {alen : Int32} {anow : Int32} {add : Int32} {adr : Int32} {acc : Int32} {aon : Int32} {acold : Int32} {awind : Int32} {af1 : Nat → Int32} {af2 : Nat → Int32} {af3 : Nat → Int32} {ac1 : Nat → Option Nat} {at1 : Nat → Option Nat} {rs2 : Int32} {bt2 : Int32} {g2 : Nat → Int32} {fo : Nat → Int32} {v : Int32} {w : Int32} {tx : Nat → Nat} (K0 : h o = some (.inr (11, [.ref (o + 1), .ref (o + 14), .ref (o + 27), .ref (o + 33), .ref (o + 42), .ref (o + 55), .ref (o + 57), .ref (o + 59), .ref (o + 61), .int im]))) (K1 : h (o + 1) = some (.inr (3, [.ref (o + 1 + 1), .ref (o + 1 + 7), .ref (o + 1 + 9), .ref (o + 1 + 11), .int (d 13)]))) (K2 : h (o + 2) = some (.inr (2, [.ref (o + 3), .ref (o + 4), .ref (o + 5), .ref (o + 6), .ref (o + 7), .int (nI len), .int (d 0), .int (d 2), .int (d 3), .int (nI nc), .int (d 10), .int cold, .int wind]))) (K3 : h (o + 3) = arI κ 40 (win 100 40 d)) (K4 : h (o + 4) = arI κ 40 (win 140 40 d)) (K5 : h (o + 5) = arI κ 6 (win 4 6 d)) (K6 : h (o + 6) = arR κ 1 6 cs) (K7 : h (o + 7) = arR κ 2 2 ts) (K8 : h (o + 27) = some (.inr (2, [.ref (o + 28), .ref (o + 29), .ref (o + 30), .ref (o + 31), .ref (o + 32), .int alen, .int anow, .int add, .int adr, .int acc, .int aon, .int acold, .int awind]))) (K9 : h (o + 28) = arI κ 40 af1) (K10 : h (o + 29) = arI κ 40 af2) (K11 : h (o + 30) = arI κ 6 af3) (K12 : h (o + 31) = arR κ 1 6 ac1) (K13 : h (o + 32) = arR κ 2 2 at1) (K14 : h (o + 57) = some (.inr (6, [.ref (o + 57 + 1), .int rs2, .int bt2]))) (K15 : h (o + 58) = arI κ 40 g2) (K16 : h (o + 61) = arI κ 6 fo) (q1 : d 1 = nI len) (q2 : 1 ≤ len) (q3 : len ≤ 40) (q4 : d 11 = nI nc) (q5 : nc ≤ 6) (hTs : TsO κ (o + 76) h ts (Tx d) tx) (hCs : CsO (o + 76) h cs d nc) (hCA : CsA (o + 76) h cs) (hS : wfS d) (hC : wfC d) : Con κ l yX11_then cX11_then 3 (some .int) 14 0 0 [.ref o, .int v, .int w] h n (fun q h' n' => ∃ x1' : Int32, ∃ x2' : Int32, ∃ x3' : Int32, ∃ x4' : Int32, ∃ x5' : Int32, ∃ x6' : Int32, ∃ x7' : Int32, ∃ x8' : Int32, ∃ af1' : Nat → Int32, ∃ af2' : Nat → Int32, ∃ af3' : Nat → Int32, ∃ ac1' : Nat → Option Nat, ∃ at1' : Nat → Option Nat, ∃ rs2' : Int32, ∃ g2' : Nat → Int32, q = some (.int (ansOf (opThen (Tx d) tx d v w))) ∧ n' = n ∧ (∀ zq : Nat, zq < (o + 76) → zq ≠ (o + 27) → zq ≠ (o + 28) → zq ≠ (o + 29) → zq ≠ (o + 30) → zq ≠ (o + 31) → zq ≠ (o + 32) → zq ≠ (o + 57) → zq ≠ (o + 58) → zq ≠ (o + 61) → h' zq = h zq) ∧ Zr κ (o + 76) h h' ∧ h' (o + 27) = some (.inr (2, [.ref (o + 28), .ref (o + 29), .ref (o + 30), .ref (o + 31), .ref (o + 32), .int x1', .int x2', .int x3', .int x4', .int x5', .int x6', .int x7', .int x8'])) ∧ h' (o + 28) = arI κ 40 af1' ∧ h' (o + 29) = arI κ 40 af2' ∧ h' (o + 30) = arI κ 6 af3' ∧ h' (o + 31) = arR κ 1 6 ac1' ∧ h' (o + 32) = arR κ 2 2 at1' ∧ h' (o + 57) = some (.inr (6, [.ref (o + 57 + 1), .int rs2', .int bt2])) ∧ h' (o + 58) = arI κ 40 g2' ∧ h' (o + 61) = arI κ 6 (bump (opThen (Tx d) tx d v w) fo)) := by
  refine Con.of mk_X11_then (Nat.le_of_ble_eq_true rfl) (fun G hG X E => ?_)
  subst hG
  refine z_ls (ls' := [(0, .ref o), (1, .int v), (2, .int w)]) rfl ?_
  have hOk : lnOk d := lnOk_of q1 q2 q3
  refine z_iload_n X 1 dX11_then_0 rfl ?_
  refine z_callS X (c_isAhead (κ := κ) (n := n) (v := (v))  ) mk_X11_isAhead dX11_then_1 wd_658 wd_659 rfl rfl (Nat.le_of_ble_eq_true rfl) (Nat.le_of_ble_eq_true rfl) (Nat.le_of_ble_eq_true rfl) (by omega) (by omega) (fun q zh1 zm3 zp4 => ?_)
  obtain ⟨rfl, ze2, zn5⟩ := zp4
  subst zm3
  subst zh1
  refine z_st (st' := [.int (b2i (0 ≤ (v : Int32).toInt ∧ (v : Int32).toInt ≤ 60))]) rfl ?_
  refine z_if_eq X 17 dX11_then_4 (by decide) (fun zc6 => ?_) (fun zc6 => ?_)
  · replace zc6 := b2i_f zc6
    refine z_aload_n X 0 dX11_then_17 rfl ?_
    refine z_iconst (v := 1) X dX11_then_18 (by decide) ?_
    refine z_callV X (c_fail (κ := κ) (n := n) (o := (o)) (im := (im)) (fo := (fo)) (k := (1)) K0 K16 (by first | assumption | omega) (by first | assumption | omega)) mk_X11_fail dX11_then_19 wd_260 wd_262 wd_0 rfl K0 rfl rfl rfl (Nat.le_of_ble_eq_true rfl) (Nat.le_of_ble_eq_true rfl) (Nat.le_of_ble_eq_true rfl) (by omega) (by omega) (fun q zh7 zm9 zp10 => ?_)
    obtain ⟨rfl, ze8, zn11⟩ := zp10
    subst zm9
    refine z_st (st' := [.int (lowE 1)]) rfl ?_
    have zK12 : zh7 o = some (.inr (11, [.ref (o + 1), .ref (o + 14), .ref (o + 27), .ref (o + 33), .ref (o + 42), .ref (o + 55), .ref (o + 57), .ref (o + 59), .ref (o + 61), .int im])) := by rw [ze8]; rw [va_up_ne _ _ (show o ≠ o + 61 by omega)]; exact K0
    have zK13 : zh7 (o + 1) = some (.inr (3, [.ref (o + 1 + 1), .ref (o + 1 + 7), .ref (o + 1 + 9), .ref (o + 1 + 11), .int (d 13)])) := by rw [ze8]; rw [va_up_ne _ _ (show o + 1 ≠ o + 61 by omega)]; exact K1
    have zK14 : zh7 (o + 2) = some (.inr (2, [.ref (o + 3), .ref (o + 4), .ref (o + 5), .ref (o + 6), .ref (o + 7), .int (nI len), .int (d 0), .int (d 2), .int (d 3), .int (nI nc), .int (d 10), .int cold, .int wind])) := by rw [ze8]; rw [va_up_ne _ _ (show o + 2 ≠ o + 61 by omega)]; exact K2
    have zK15 : zh7 (o + 3) = arI κ 40 (win 100 40 d) := by rw [ze8]; rw [va_up_ne _ _ (show o + 3 ≠ o + 61 by omega)]; exact K3
    have zK16 : zh7 (o + 4) = arI κ 40 (win 140 40 d) := by rw [ze8]; rw [va_up_ne _ _ (show o + 4 ≠ o + 61 by omega)]; exact K4
    have zK17 : zh7 (o + 5) = arI κ 6 (win 4 6 d) := by rw [ze8]; rw [va_up_ne _ _ (show o + 5 ≠ o + 61 by omega)]; exact K5
    have zK18 : zh7 (o + 6) = arR κ 1 6 cs := by rw [ze8]; rw [va_up_ne _ _ (show o + 6 ≠ o + 61 by omega)]; exact K6
    have zK19 : zh7 (o + 7) = arR κ 2 2 ts := by rw [ze8]; rw [va_up_ne _ _ (show o + 7 ≠ o + 61 by omega)]; exact K7
    have zK20 : zh7 (o + 27) = some (.inr (2, [.ref (o + 28), .ref (o + 29), .ref (o + 30), .ref (o + 31), .ref (o + 32), .int alen, .int anow, .int add, .int adr, .int acc, .int aon, .int acold, .int awind])) := by rw [ze8]; rw [va_up_ne _ _ (show o + 27 ≠ o + 61 by omega)]; exact K8
    have zK21 : zh7 (o + 28) = arI κ 40 af1 := by rw [ze8]; rw [va_up_ne _ _ (show o + 28 ≠ o + 61 by omega)]; exact K9
    have zK22 : zh7 (o + 29) = arI κ 40 af2 := by rw [ze8]; rw [va_up_ne _ _ (show o + 29 ≠ o + 61 by omega)]; exact K10
    have zK23 : zh7 (o + 30) = arI κ 6 af3 := by rw [ze8]; rw [va_up_ne _ _ (show o + 30 ≠ o + 61 by omega)]; exact K11
    have zK24 : zh7 (o + 31) = arR κ 1 6 ac1 := by rw [ze8]; rw [va_up_ne _ _ (show o + 31 ≠ o + 61 by omega)]; exact K12
    have zK25 : zh7 (o + 32) = arR κ 2 2 at1 := by rw [ze8]; rw [va_up_ne _ _ (show o + 32 ≠ o + 61 by omega)]; exact K13
    have zK26 : zh7 (o + 57) = some (.inr (6, [.ref (o + 57 + 1), .int rs2, .int bt2])) := by rw [ze8]; rw [va_up_ne _ _ (show o + 57 ≠ o + 61 by omega)]; exact K14
    have zK27 : zh7 (o + 58) = arI κ 40 g2 := by rw [ze8]; rw [va_up_ne _ _ (show o + 58 ≠ o + 61 by omega)]; exact K15
    have zK28 : zh7 (o + 61) = arI κ 6 (bmp fo 1) := by rw [ze8]; exact va_up_self _ _ _
    have zl29 : ∀ zq : Nat, zq < (o + 76) → zq ≠ (o + 61) → zh7 zq = h zq := by intro zq hzq zn0; rw [ze8, va_up_ne _ _ (show zq ≠ o + 61 by omega)]; try rfl
    have zr30 : Zr κ (o + 76) h zh7 := (Zr.refl).trans (Zr.same (fun zq h1 => by rw [ze8, va_up_ne _ _ (show zq ≠ o + 61 by omega)]))
    refine z_iret X E dX11_then_22 (by omega) (by omega) ⟨alen, anow, add, adr, acc, aon, acold, awind, af1, af2, af3, ac1, at1, rs2, g2, ?_, ?_, ?_, ?_, ?_, ?_, ?_, ?_, ?_, ?_, ?_, ?_, ?_⟩
    · rw [opThen_e (T := Tx d) (tx := tx) (d := d) (by omega)]; first | exact congrArg (fun z => some (Value.int z)) (ansOf_0 _).symm | rfl
    · rfl
    · exact fun zq hzq zn0 zn1 zn2 zn3 zn4 zn5 zn6 zn7 zn8 => zl29 zq hzq zn8
    · exact zr30
    · exact zK20
    · exact zK21
    · exact zK22
    · exact zK23
    · exact zK24
    · exact zK25
    · exact zK26
    · exact zK27
    · rw [opThen_e (T := Tx d) (tx := tx) (d := d) (by omega)]; first | (rw [bump_0]; exact zK28) | exact zK28
  · replace zc6 := b2i_t zc6
    refine z_iload_n X 2 dX11_then_7 rfl ?_
    refine z_iconst (v := 0) X dX11_then_8 (by decide) ?_
    refine z_bipush (v := 6) X dX11_then_9 (by decide) ?_
    refine z_callS X (c_within (κ := κ) (n := n) (v := (w)) (lo := (0)) (hi := (6))  ) mk_X11_within dX11_then_11 wd_259 wd_257 rfl rfl (Nat.le_of_ble_eq_true rfl) (Nat.le_of_ble_eq_true rfl) (Nat.le_of_ble_eq_true rfl) (by omega) (by omega) (fun q zh31 zm33 zp34 => ?_)
    obtain ⟨rfl, ze32, zn35⟩ := zp34
    subst zm33
    subst zh31
    refine z_st (st' := [.int (b2i ((0 : Int32).toInt ≤ (w : Int32).toInt ∧ (w : Int32).toInt ≤ (6 : Int32).toInt))]) rfl ?_
    refine z_toe (y := b2i (0 ≤ w.toInt ∧ w.toInt ≤ 6)) (by simp only [show (0 : Int32).toInt = 0 by decide, show (6 : Int32).toInt = 6 by decide]) ?_
    refine z_if_ne X 23 dX11_then_14 (by decide) (fun zc36 => ?_) (fun zc36 => ?_)
    · replace zc36 := b2i_t zc36
      obtain ⟨vk, hvk, rfl⟩ := ix_of (c := v) (len := 61) (by omega) (by omega)
      refine z_aload_n X 0 dX11_then_23 rfl ?_
      refine z_iload_n X 1 dX11_then_24 rfl ?_
      refine z_callV X (c_goAhead (κ := κ) (n := n) (o := (o)) (im := (im)) (d := (d)) (len := (len)) (nc := (nc)) (cold := (cold)) (wind := (wind)) (cs := (cs)) (ts := (ts)) (alen := (alen)) (anow := (anow)) (add := (add)) (adr := (adr)) (acc := (acc)) (aon := (aon)) (acold := (acold)) (awind := (awind)) (af1 := (af1)) (af2 := (af2)) (af3 := (af3)) (ac1 := (ac1)) (at1 := (at1)) (tx := (tx)) (v := (vk)) K0 K1 K2 K3 K4 K5 K6 K7 K8 K9 K10 K11 K12 K13 (by first | assumption | omega) (by first | assumption | omega) (by first | assumption | omega) (by first | assumption | omega) (by first | assumption | omega) (hTs) (hCs) (hCA) (hS) (hC) (by first | assumption | omega)) mk_X11_goAhead dX11_then_25 wd_661 wd_663 wd_19 rfl K0 rfl rfl rfl (Nat.le_of_ble_eq_true rfl) (Nat.le_of_ble_eq_true rfl) (Nat.le_of_ble_eq_true rfl) (by omega) (by omega) (fun q zh39 zm41 zp42 => ?_)
      obtain ⟨cold'37, wind'38, rfl, zn43, zf44, zr45, zK46, zK47, zK48, zK49, zK50, zK51⟩ := zp42
      subst zm41
      refine z_st (st' := []) rfl ?_
      have zK52 : zh39 o = some (.inr (11, [.ref (o + 1), .ref (o + 14), .ref (o + 27), .ref (o + 33), .ref (o + 42), .ref (o + 55), .ref (o + 57), .ref (o + 59), .ref (o + 61), .int im])) := (zf44 o (by omega) (by omega) (by omega) (by omega) (by omega) (by omega) (by omega)).trans K0
      have zK53 : zh39 (o + 1) = some (.inr (3, [.ref (o + 1 + 1), .ref (o + 1 + 7), .ref (o + 1 + 9), .ref (o + 1 + 11), .int (d 13)])) := (zf44 (o + 1) (by omega) (by omega) (by omega) (by omega) (by omega) (by omega) (by omega)).trans K1
      have zK54 : zh39 (o + 2) = some (.inr (2, [.ref (o + 3), .ref (o + 4), .ref (o + 5), .ref (o + 6), .ref (o + 7), .int (nI len), .int (d 0), .int (d 2), .int (d 3), .int (nI nc), .int (d 10), .int cold, .int wind])) := (zf44 (o + 2) (by omega) (by omega) (by omega) (by omega) (by omega) (by omega) (by omega)).trans K2
      have zK55 : zh39 (o + 3) = arI κ 40 (win 100 40 d) := (zf44 (o + 3) (by omega) (by omega) (by omega) (by omega) (by omega) (by omega) (by omega)).trans K3
      have zK56 : zh39 (o + 4) = arI κ 40 (win 140 40 d) := (zf44 (o + 4) (by omega) (by omega) (by omega) (by omega) (by omega) (by omega) (by omega)).trans K4
      have zK57 : zh39 (o + 5) = arI κ 6 (win 4 6 d) := (zf44 (o + 5) (by omega) (by omega) (by omega) (by omega) (by omega) (by omega) (by omega)).trans K5
      have zK58 : zh39 (o + 6) = arR κ 1 6 cs := (zf44 (o + 6) (by omega) (by omega) (by omega) (by omega) (by omega) (by omega) (by omega)).trans K6
      have zK59 : zh39 (o + 7) = arR κ 2 2 ts := (zf44 (o + 7) (by omega) (by omega) (by omega) (by omega) (by omega) (by omega) (by omega)).trans K7
      have zK60 : zh39 (o + 57) = some (.inr (6, [.ref (o + 57 + 1), .int rs2, .int bt2])) := (zf44 (o + 57) (by omega) (by omega) (by omega) (by omega) (by omega) (by omega) (by omega)).trans K14
      have zK61 : zh39 (o + 58) = arI κ 40 g2 := (zf44 (o + 58) (by omega) (by omega) (by omega) (by omega) (by omega) (by omega) (by omega)).trans K15
      have zK62 : zh39 (o + 61) = arI κ 6 fo := (zf44 (o + 61) (by omega) (by omega) (by omega) (by omega) (by omega) (by omega) (by omega)).trans K16
      have zl63 : ∀ zq : Nat, zq < (o + 76) → zq ≠ (o + 27) → zq ≠ (o + 28) → zq ≠ (o + 29) → zq ≠ (o + 30) → zq ≠ (o + 31) → zq ≠ (o + 32) → zh39 zq = h zq := by intro zq hzq zn0 zn1 zn2 zn3 zn4 zn5; rw [zf44 zq (by omega) (by omega) (by omega) (by omega) (by omega) (by omega) (by omega)]; try rfl
      have zr64 : Zr κ (o + 76) h zh39 := (Zr.refl).trans zr45
      have hEl : lnO (gbyN (Tx d) tx vk d) ≤ 40 := (gbyN_ok (T := Tx d) (tx := tx) hOk vk).2.2
      have hEl1 : 1 ≤ lnO (gbyN (Tx d) tx vk d) := (gbyN_ok (T := Tx d) (tx := tx) hOk vk).2.1
      refine z_iload_n X 2 dX11_then_28 rfl ?_
      by_cases zc65 : w = 0
      · refine z_tableIn (off := 39) X 68 dX11_then_29 (by rw [zc65]; decide) (by rw [zc65]; decide) (by rw [zc65]; decide) (by decide) ?_
        refine z_aload_n X 0 dX11_then_68 rfl ?_
        refine z_get X fl_X11_22_11 dX11_then_69 zK52 rfl ?_
        refine z_get X fl_X11_98_2 dX11_then_72 zK46 rfl ?_
        refine z_iret X E dX11_then_75 (by omega) (by omega) ⟨(nI (lnO (gbyN (Tx d) tx vk d))), ((gbyN (Tx d) tx vk d) 0), ((gbyN (Tx d) tx vk d) 2), ((gbyN (Tx d) tx vk d) 3), (nI nc), (d 10), cold'37, wind'38, (win 100 40 (gbyN (Tx d) tx vk d)), (win 140 40 (gbyN (Tx d) tx vk d)), (win 4 6 d), cs, ts, rs2, g2, ?_, ?_, ?_, ?_, ?_, ?_, ?_, ?_, ?_, ?_, ?_, ?_, ?_⟩
        · rw [zc65]; rw [((opThen_l (T := Tx d) (tx := tx) (d := d) (vn := vk) (by omega)).1).trans (congrArg (fun z => (0, z)) (gbyN_ok (T := Tx d) (tx := tx) hOk vk).1)]; first | exact congrArg (fun z => some (Value.int z)) (ansOf_0 _).symm | rfl
        · rfl
        · exact fun zq hzq zn0 zn1 zn2 zn3 zn4 zn5 zn6 zn7 zn8 => zl63 zq hzq zn0 zn1 zn2 zn3 zn4 zn5
        · exact zr64
        · exact zK46
        · exact zK47
        · exact zK48
        · exact zK49
        · exact zK50
        · exact zK51
        · exact zK60
        · exact zK61
        · rw [zc65]; rw [((opThen_l (T := Tx d) (tx := tx) (d := d) (vn := vk) (by omega)).1).trans (congrArg (fun z => (0, z)) (gbyN_ok (T := Tx d) (tx := tx) hOk vk).1)]; first | (rw [bump_0]; exact zK62) | exact zK62
      by_cases zc66 : w = 1
      · refine z_tableIn (off := 47) X 76 dX11_then_29 (by rw [zc66]; decide) (by rw [zc66]; decide) (by rw [zc66]; decide) (by decide) ?_
        refine z_aload_n X 0 dX11_then_76 rfl ?_
        refine z_get X fl_X11_22_11 dX11_then_77 zK52 rfl ?_
        refine z_aload_n X 0 dX11_then_80 rfl ?_
        refine z_get X fl_X11_42_11 dX11_then_81 zK52 rfl ?_
        refine z_callV X (c_ringsInto (κ := κ) (n := n) (i := (o + 27)) (len := (lnO (gbyN (Tx d) tx vk d))) (m := (gbyN (Tx d) tx vk d)) (now := ((gbyN (Tx d) tx vk d) 0)) (dd := ((gbyN (Tx d) tx vk d) 2)) (dr := ((gbyN (Tx d) tx vk d) 3)) (cc := (nI nc)) (on := (d 10)) (cold := (cold'37)) (wind := (wind'38)) (r := (o + 57)) (rs := (rs2)) (bt := (bt2)) (g := (g2)) zK46 zK47 zK60 zK61 ((gbyN_ok (T := Tx d) (tx := tx) hOk vk).2.2) (by omega)) mk_X2_ringsInto dX11_then_84 wd_643 wd_644 wd_645 rfl zK46 rfl rfl rfl (Nat.le_of_ble_eq_true rfl) (Nat.le_of_ble_eq_true rfl) (Nat.le_of_ble_eq_true rfl) (by omega) (by omega) (fun q zh68 zm70 zp71 => ?_)
        obtain ⟨g'67, rfl, ze69, zn73, zf72⟩ := zp71
        subst zm70
        refine z_st (st' := [.int (nI (rn (gbyN (Tx d) tx vk d) (lnO (gbyN (Tx d) tx vk d)) (lnO (gbyN (Tx d) tx vk d))))]) rfl ?_
        have zK74 : zh68 o = some (.inr (11, [.ref (o + 1), .ref (o + 14), .ref (o + 27), .ref (o + 33), .ref (o + 42), .ref (o + 55), .ref (o + 57), .ref (o + 59), .ref (o + 61), .int im])) := by rw [ze69]; rw [va_up_ne _ _ (show o ≠ o + 58 by omega)]; rw [va_up_ne _ _ (show o ≠ o + 57 by omega)]; exact zK52
        have zK75 : zh68 (o + 1) = some (.inr (3, [.ref (o + 1 + 1), .ref (o + 1 + 7), .ref (o + 1 + 9), .ref (o + 1 + 11), .int (d 13)])) := by rw [ze69]; rw [va_up_ne _ _ (show o + 1 ≠ o + 58 by omega)]; rw [va_up_ne _ _ (show o + 1 ≠ o + 57 by omega)]; exact zK53
        have zK76 : zh68 (o + 2) = some (.inr (2, [.ref (o + 3), .ref (o + 4), .ref (o + 5), .ref (o + 6), .ref (o + 7), .int (nI len), .int (d 0), .int (d 2), .int (d 3), .int (nI nc), .int (d 10), .int cold, .int wind])) := by rw [ze69]; rw [va_up_ne _ _ (show o + 2 ≠ o + 58 by omega)]; rw [va_up_ne _ _ (show o + 2 ≠ o + 57 by omega)]; exact zK54
        have zK77 : zh68 (o + 3) = arI κ 40 (win 100 40 d) := by rw [ze69]; rw [va_up_ne _ _ (show o + 3 ≠ o + 58 by omega)]; rw [va_up_ne _ _ (show o + 3 ≠ o + 57 by omega)]; exact zK55
        have zK78 : zh68 (o + 4) = arI κ 40 (win 140 40 d) := by rw [ze69]; rw [va_up_ne _ _ (show o + 4 ≠ o + 58 by omega)]; rw [va_up_ne _ _ (show o + 4 ≠ o + 57 by omega)]; exact zK56
        have zK79 : zh68 (o + 5) = arI κ 6 (win 4 6 d) := by rw [ze69]; rw [va_up_ne _ _ (show o + 5 ≠ o + 58 by omega)]; rw [va_up_ne _ _ (show o + 5 ≠ o + 57 by omega)]; exact zK57
        have zK80 : zh68 (o + 6) = arR κ 1 6 cs := by rw [ze69]; rw [va_up_ne _ _ (show o + 6 ≠ o + 58 by omega)]; rw [va_up_ne _ _ (show o + 6 ≠ o + 57 by omega)]; exact zK58
        have zK81 : zh68 (o + 7) = arR κ 2 2 ts := by rw [ze69]; rw [va_up_ne _ _ (show o + 7 ≠ o + 58 by omega)]; rw [va_up_ne _ _ (show o + 7 ≠ o + 57 by omega)]; exact zK59
        have zK82 : zh68 (o + 57) = some (.inr (6, [.ref ((o + 57) + 1), .int (nI (rn (gbyN (Tx d) tx vk d) (lnO (gbyN (Tx d) tx vk d)) (lnO (gbyN (Tx d) tx vk d)))), .int bt2])) := by rw [ze69]; rw [va_up_ne _ _ (show o + 57 ≠ o + 58 by omega)]; exact va_up_self _ _ _
        have zK83 : zh68 (o + 58) = arI κ 40 g'67 := by rw [ze69]; exact va_up_self _ _ _
        have zK84 : zh68 (o + 61) = arI κ 6 fo := by rw [ze69]; rw [va_up_ne _ _ (show o + 61 ≠ o + 58 by omega)]; rw [va_up_ne _ _ (show o + 61 ≠ o + 57 by omega)]; exact zK62
        have zK85 : zh68 (o + 27) = some (.inr (2, [.ref (o + 28), .ref (o + 29), .ref (o + 30), .ref (o + 31), .ref (o + 32), .int (nI (lnO (gbyN (Tx d) tx vk d))), .int ((gbyN (Tx d) tx vk d) 0), .int ((gbyN (Tx d) tx vk d) 2), .int ((gbyN (Tx d) tx vk d) 3), .int (nI nc), .int (d 10), .int cold'37, .int wind'38])) := by rw [ze69]; rw [va_up_ne _ _ (show o + 27 ≠ o + 58 by omega)]; rw [va_up_ne _ _ (show o + 27 ≠ o + 57 by omega)]; exact zK46
        have zK86 : zh68 (o + 28) = arI κ 40 (win 100 40 (gbyN (Tx d) tx vk d)) := by rw [ze69]; rw [va_up_ne _ _ (show o + 28 ≠ o + 58 by omega)]; rw [va_up_ne _ _ (show o + 28 ≠ o + 57 by omega)]; exact zK47
        have zK87 : zh68 (o + 29) = arI κ 40 (win 140 40 (gbyN (Tx d) tx vk d)) := by rw [ze69]; rw [va_up_ne _ _ (show o + 29 ≠ o + 58 by omega)]; rw [va_up_ne _ _ (show o + 29 ≠ o + 57 by omega)]; exact zK48
        have zK88 : zh68 (o + 30) = arI κ 6 (win 4 6 d) := by rw [ze69]; rw [va_up_ne _ _ (show o + 30 ≠ o + 58 by omega)]; rw [va_up_ne _ _ (show o + 30 ≠ o + 57 by omega)]; exact zK49
        have zK89 : zh68 (o + 31) = arR κ 1 6 cs := by rw [ze69]; rw [va_up_ne _ _ (show o + 31 ≠ o + 58 by omega)]; rw [va_up_ne _ _ (show o + 31 ≠ o + 57 by omega)]; exact zK50
        have zK90 : zh68 (o + 32) = arR κ 2 2 ts := by rw [ze69]; rw [va_up_ne _ _ (show o + 32 ≠ o + 58 by omega)]; rw [va_up_ne _ _ (show o + 32 ≠ o + 57 by omega)]; exact zK51
        have zl91 : ∀ zq : Nat, zq < (o + 76) → zq ≠ (o + 27) → zq ≠ (o + 28) → zq ≠ (o + 29) → zq ≠ (o + 30) → zq ≠ (o + 31) → zq ≠ (o + 32) → zq ≠ (o + 57) → zq ≠ (o + 58) → zh68 zq = h zq := by intro zq hzq zn0 zn1 zn2 zn3 zn4 zn5 zn6 zn7; rw [ze69, va_up_ne _ _ (show zq ≠ o + 58 by omega), va_up_ne _ _ (show zq ≠ o + 57 by omega)]; exact zl63 zq hzq zn0 zn1 zn2 zn3 zn4 zn5
        have zr92 : Zr κ (o + 76) h zh68 := (zr64).trans (Zr.same (fun zq h1 => by rw [ze69, va_up_ne _ _ (show zq ≠ o + 58 by omega), va_up_ne _ _ (show zq ≠ o + 57 by omega)]))
        have hrg := zf72
        have hrn := rn_le (gbyN (Tx d) tx vk d) (lnO (gbyN (Tx d) tx vk d)) (lnO (gbyN (Tx d) tx vk d))
        have hrnq : lnO (gbyN (Tx d) tx vk d) ≤ 40 := (gbyN_ok (T := Tx d) (tx := tx) hOk vk).2.2
        refine z_iret X E dX11_then_87 (by omega) (by omega) ⟨(nI (lnO (gbyN (Tx d) tx vk d))), ((gbyN (Tx d) tx vk d) 0), ((gbyN (Tx d) tx vk d) 2), ((gbyN (Tx d) tx vk d) 3), (nI nc), (d 10), cold'37, wind'38, (win 100 40 (gbyN (Tx d) tx vk d)), (win 140 40 (gbyN (Tx d) tx vk d)), (win 4 6 d), cs, ts, (nI (rn (gbyN (Tx d) tx vk d) (lnO (gbyN (Tx d) tx vk d)) (lnO (gbyN (Tx d) tx vk d)))), g'67, ?_, ?_, ?_, ?_, ?_, ?_, ?_, ?_, ?_, ?_, ?_, ?_, ?_⟩
        · rw [zc66]; rw [(opThen_l (T := Tx d) (tx := tx) (d := d) (vn := vk) (by omega)).2.1]; first | exact congrArg (fun z => some (Value.int z)) (ansOf_0 _).symm | rfl
        · rfl
        · exact fun zq hzq zn0 zn1 zn2 zn3 zn4 zn5 zn6 zn7 zn8 => zl91 zq hzq zn0 zn1 zn2 zn3 zn4 zn5 zn6 zn7
        · exact zr92
        · exact zK85
        · exact zK86
        · exact zK87
        · exact zK88
        · exact zK89
        · exact zK90
        · exact zK82
        · exact zK83
        · rw [zc66]; rw [(opThen_l (T := Tx d) (tx := tx) (d := d) (vn := vk) (by omega)).2.1]; first | (rw [bump_0]; exact zK84) | exact zK84
      by_cases zc93 : w = 2
      · refine z_tableIn (off := 59) X 88 dX11_then_29 (by rw [zc93]; decide) (by rw [zc93]; decide) (by rw [zc93]; decide) (by decide) ?_
        refine z_aload_n X 0 dX11_then_88 rfl ?_
        refine z_get X fl_X11_22_11 dX11_then_89 zK52 rfl ?_
        refine z_callV X (c_massOfAll (κ := κ) (n := n) (i := (o + 27)) (len := (lnO (gbyN (Tx d) tx vk d))) (m := (gbyN (Tx d) tx vk d)) (now := ((gbyN (Tx d) tx vk d) 0)) (dd := ((gbyN (Tx d) tx vk d) 2)) (dr := ((gbyN (Tx d) tx vk d) 3)) (cc := (nI nc)) (on := (d 10)) (cold := (cold'37)) (wind := (wind'38)) zK46 zK47 zK48 ((gbyN_ok (T := Tx d) (tx := tx) hOk vk).2.2)) mk_X2_massOfAll dX11_then_92 wd_631 wd_632 wd_633 rfl zK46 rfl rfl rfl (Nat.le_of_ble_eq_true rfl) (Nat.le_of_ble_eq_true rfl) (Nat.le_of_ble_eq_true rfl) (by omega) (by omega) (fun q zh94 zm96 zp97 => ?_)
        obtain ⟨rfl, ze95, zn98⟩ := zp97
        subst zm96
        subst zh94
        refine z_st (st' := [.int (massR (gbyN (Tx d) tx vk d) (lnO (gbyN (Tx d) tx vk d)))]) rfl ?_
        refine z_iret X E dX11_then_95 (by omega) (by omega) ⟨(nI (lnO (gbyN (Tx d) tx vk d))), ((gbyN (Tx d) tx vk d) 0), ((gbyN (Tx d) tx vk d) 2), ((gbyN (Tx d) tx vk d) 3), (nI nc), (d 10), cold'37, wind'38, (win 100 40 (gbyN (Tx d) tx vk d)), (win 140 40 (gbyN (Tx d) tx vk d)), (win 4 6 d), cs, ts, rs2, g2, ?_, ?_, ?_, ?_, ?_, ?_, ?_, ?_, ?_, ?_, ?_, ?_, ?_⟩
        · rw [zc93]; rw [(opThen_l (T := Tx d) (tx := tx) (d := d) (vn := vk) (by omega)).2.2.1]; first | exact congrArg (fun z => some (Value.int z)) (ansOf_0 _).symm | rfl
        · rfl
        · exact fun zq hzq zn0 zn1 zn2 zn3 zn4 zn5 zn6 zn7 zn8 => zl63 zq hzq zn0 zn1 zn2 zn3 zn4 zn5
        · exact zr64
        · exact zK46
        · exact zK47
        · exact zK48
        · exact zK49
        · exact zK50
        · exact zK51
        · exact zK60
        · exact zK61
        · rw [zc93]; rw [(opThen_l (T := Tx d) (tx := tx) (d := d) (vn := vk) (by omega)).2.2.1]; first | (rw [bump_0]; exact zK62) | exact zK62
      by_cases zc99 : w = 3
      · refine z_tableIn (off := 67) X 96 dX11_then_29 (by rw [zc99]; decide) (by rw [zc99]; decide) (by rw [zc99]; decide) (by decide) ?_
        refine z_aload_n X 0 dX11_then_96 rfl ?_
        refine z_get X fl_X11_22_11 dX11_then_97 zK52 rfl ?_
        refine z_get X fl_X11_207_2 dX11_then_100 zK46 rfl ?_
        refine z_iret X E dX11_then_103 (by omega) (by omega) ⟨(nI (lnO (gbyN (Tx d) tx vk d))), ((gbyN (Tx d) tx vk d) 0), ((gbyN (Tx d) tx vk d) 2), ((gbyN (Tx d) tx vk d) 3), (nI nc), (d 10), cold'37, wind'38, (win 100 40 (gbyN (Tx d) tx vk d)), (win 140 40 (gbyN (Tx d) tx vk d)), (win 4 6 d), cs, ts, rs2, g2, ?_, ?_, ?_, ?_, ?_, ?_, ?_, ?_, ?_, ?_, ?_, ?_, ?_⟩
        · rw [zc99]; rw [(opThen_l (T := Tx d) (tx := tx) (d := d) (vn := vk) (by omega)).2.2.2.1]; first | exact congrArg (fun z => some (Value.int z)) (ansOf_0 _).symm | rfl
        · rfl
        · exact fun zq hzq zn0 zn1 zn2 zn3 zn4 zn5 zn6 zn7 zn8 => zl63 zq hzq zn0 zn1 zn2 zn3 zn4 zn5
        · exact zr64
        · exact zK46
        · exact zK47
        · exact zK48
        · exact zK49
        · exact zK50
        · exact zK51
        · exact zK60
        · exact zK61
        · rw [zc99]; rw [(opThen_l (T := Tx d) (tx := tx) (d := d) (vn := vk) (by omega)).2.2.2.1]; first | (rw [bump_0]; exact zK62) | exact zK62
      by_cases zc100 : w = 4
      · refine z_tableIn (off := 75) X 104 dX11_then_29 (by rw [zc100]; decide) (by rw [zc100]; decide) (by rw [zc100]; decide) (by decide) ?_
        refine z_aload_n X 0 dX11_then_104 rfl ?_
        refine z_get X fl_X11_22_11 dX11_then_105 zK52 rfl ?_
        refine z_get X fl_X11_210_2 dX11_then_108 zK46 rfl ?_
        refine z_iret X E dX11_then_111 (by omega) (by omega) ⟨(nI (lnO (gbyN (Tx d) tx vk d))), ((gbyN (Tx d) tx vk d) 0), ((gbyN (Tx d) tx vk d) 2), ((gbyN (Tx d) tx vk d) 3), (nI nc), (d 10), cold'37, wind'38, (win 100 40 (gbyN (Tx d) tx vk d)), (win 140 40 (gbyN (Tx d) tx vk d)), (win 4 6 d), cs, ts, rs2, g2, ?_, ?_, ?_, ?_, ?_, ?_, ?_, ?_, ?_, ?_, ?_, ?_, ?_⟩
        · rw [zc100]; rw [(opThen_l (T := Tx d) (tx := tx) (d := d) (vn := vk) (by omega)).2.2.2.2.1]; first | exact congrArg (fun z => some (Value.int z)) (ansOf_0 _).symm | rfl
        · rfl
        · exact fun zq hzq zn0 zn1 zn2 zn3 zn4 zn5 zn6 zn7 zn8 => zl63 zq hzq zn0 zn1 zn2 zn3 zn4 zn5
        · exact zr64
        · exact zK46
        · exact zK47
        · exact zK48
        · exact zK49
        · exact zK50
        · exact zK51
        · exact zK60
        · exact zK61
        · rw [zc100]; rw [(opThen_l (T := Tx d) (tx := tx) (d := d) (vn := vk) (by omega)).2.2.2.2.1]; first | (rw [bump_0]; exact zK62) | exact zK62
      by_cases zc101 : w = 5
      · refine z_tableIn (off := 83) X 112 dX11_then_29 (by rw [zc101]; decide) (by rw [zc101]; decide) (by rw [zc101]; decide) (by decide) ?_
        refine z_aload_n X 0 dX11_then_112 rfl ?_
        refine z_get X fl_X11_22_11 dX11_then_113 zK52 rfl ?_
        refine z_aload_n X 0 dX11_then_116 rfl ?_
        refine z_get X fl_X11_22_11 dX11_then_117 zK52 rfl ?_
        refine z_get X fl_X11_98_2 dX11_then_120 zK46 rfl ?_
        refine z_iconst (v := 1) X dX11_then_123 (by decide) ?_
        refine z_isub X dX11_then_124 ?_
        refine z_toe (y := nI (lnO (gbyN (Tx d) tx vk d) - 1)) (pk_sub (a := lnO (gbyN (Tx d) tx vk d)) (b := 1) (by omega)) ?_
        refine z_callV X (c_wideAt (κ := κ) (n := n) (i := (o + 27)) (len := (lnO (gbyN (Tx d) tx vk d))) (m := (gbyN (Tx d) tx vk d)) (now := ((gbyN (Tx d) tx vk d) 0)) (dd := ((gbyN (Tx d) tx vk d) 2)) (dr := ((gbyN (Tx d) tx vk d) 3)) (cc := (nI nc)) (on := (d 10)) (cold := (cold'37)) (wind := (wind'38)) (k := (lnO (gbyN (Tx d) tx vk d) - 1)) zK46 zK47 ((gbyN_ok (T := Tx d) (tx := tx) hOk vk).2.2) (by first | assumption | omega)) mk_X2_wideAt dX11_then_125 wd_265 wd_266 wd_267 rfl zK46 rfl rfl rfl (Nat.le_of_ble_eq_true rfl) (Nat.le_of_ble_eq_true rfl) (Nat.le_of_ble_eq_true rfl) (by omega) (by omega) (fun q zh102 zm104 zp105 => ?_)
        obtain ⟨rfl, ze103, zn106⟩ := zp105
        subst zm104
        subst zh102
        refine z_st (st' := [.int (wAt (gbyN (Tx d) tx vk d) 100 (lnO (gbyN (Tx d) tx vk d)) (lnO (gbyN (Tx d) tx vk d) - 1))]) rfl ?_
        refine z_toe (y := (gbyN (Tx d) tx vk d) (100 + lnO (gbyN (Tx d) tx vk d) - 1)) ((wAt_t (by omega)).trans (congrArg (gbyN (Tx d) tx vk d) (by omega))) ?_
        refine z_iret X E dX11_then_128 (by omega) (by omega) ⟨(nI (lnO (gbyN (Tx d) tx vk d))), ((gbyN (Tx d) tx vk d) 0), ((gbyN (Tx d) tx vk d) 2), ((gbyN (Tx d) tx vk d) 3), (nI nc), (d 10), cold'37, wind'38, (win 100 40 (gbyN (Tx d) tx vk d)), (win 140 40 (gbyN (Tx d) tx vk d)), (win 4 6 d), cs, ts, rs2, g2, ?_, ?_, ?_, ?_, ?_, ?_, ?_, ?_, ?_, ?_, ?_, ?_, ?_⟩
        · rw [zc101]; rw [(opThen_l (T := Tx d) (tx := tx) (d := d) (vn := vk) (by omega)).2.2.2.2.2]; first | exact congrArg (fun z => some (Value.int z)) (ansOf_0 _).symm | rfl
        · rfl
        · exact fun zq hzq zn0 zn1 zn2 zn3 zn4 zn5 zn6 zn7 zn8 => zl63 zq hzq zn0 zn1 zn2 zn3 zn4 zn5
        · exact zr64
        · exact zK46
        · exact zK47
        · exact zK48
        · exact zK49
        · exact zK50
        · exact zK51
        · exact zK60
        · exact zK61
        · rw [zc101]; rw [(opThen_l (T := Tx d) (tx := tx) (d := d) (vn := vk) (by omega)).2.2.2.2.2]; first | (rw [bump_0]; exact zK62) | exact zK62
      refine z_tableOut X 129 dX11_then_29 (by have t0 := lv_neT zc65 (show (0 : Int32).toInt = 0 by decide); have t1 := lv_neT zc66 (show (1 : Int32).toInt = 1 by decide); have t2 := lv_neT zc93 (show (2 : Int32).toInt = 2 by decide); have t3 := lv_neT zc99 (show (3 : Int32).toInt = 3 by decide); have t4 := lv_neT zc100 (show (4 : Int32).toInt = 4 by decide); have t5 := lv_neT zc101 (show (5 : Int32).toInt = 5 by decide); omega) (by decide) ?_
      refine z_aload_n X 0 dX11_then_129 rfl ?_
      refine z_get X fl_X11_22_11 dX11_then_130 zK52 rfl ?_
      refine z_callV X (c_saltOfAll (κ := κ) (n := n) (i := (o + 27)) (len := (lnO (gbyN (Tx d) tx vk d))) (m := (gbyN (Tx d) tx vk d)) (now := ((gbyN (Tx d) tx vk d) 0)) (dd := ((gbyN (Tx d) tx vk d) 2)) (dr := ((gbyN (Tx d) tx vk d) 3)) (cc := (nI nc)) (on := (d 10)) (cold := (cold'37)) (wind := (wind'38)) zK46 zK48 ((gbyN_ok (T := Tx d) (tx := tx) hOk vk).2.2)) mk_X2_saltOfAll dX11_then_133 wd_669 wd_636 wd_637 rfl zK46 rfl rfl rfl (Nat.le_of_ble_eq_true rfl) (Nat.le_of_ble_eq_true rfl) (Nat.le_of_ble_eq_true rfl) (by omega) (by omega) (fun q zh107 zm109 zp110 => ?_)
      obtain ⟨rfl, ze108, zn111⟩ := zp110
      subst zm109
      subst zh107
      refine z_st (st' := [.int (saltR (gbyN (Tx d) tx vk d) (lnO (gbyN (Tx d) tx vk d)))]) rfl ?_
      refine z_iret X E dX11_then_136 (by omega) (by omega) ⟨(nI (lnO (gbyN (Tx d) tx vk d))), ((gbyN (Tx d) tx vk d) 0), ((gbyN (Tx d) tx vk d) 2), ((gbyN (Tx d) tx vk d) 3), (nI nc), (d 10), cold'37, wind'38, (win 100 40 (gbyN (Tx d) tx vk d)), (win 140 40 (gbyN (Tx d) tx vk d)), (win 4 6 d), cs, ts, rs2, g2, ?_, ?_, ?_, ?_, ?_, ?_, ?_, ?_, ?_, ?_, ?_, ?_, ?_⟩
      · rw [opThen_6 (T := Tx d) (tx := tx) (d := d) (by omega) (by assumption) (by assumption) (by assumption) (by assumption) (by assumption) (by assumption) (by assumption)]; first | exact congrArg (fun z => some (Value.int z)) (ansOf_0 _).symm | rfl
      · rfl
      · exact fun zq hzq zn0 zn1 zn2 zn3 zn4 zn5 zn6 zn7 zn8 => zl63 zq hzq zn0 zn1 zn2 zn3 zn4 zn5
      · exact zr64
      · exact zK46
      · exact zK47
      · exact zK48
      · exact zK49
      · exact zK50
      · exact zK51
      · exact zK60
      · exact zK61
      · rw [opThen_6 (T := Tx d) (tx := tx) (d := d) (by omega) (by assumption) (by assumption) (by assumption) (by assumption) (by assumption) (by assumption) (by assumption)]; first | (rw [bump_0]; exact zK62) | exact zK62
    · replace zc36 := b2i_f zc36
      refine z_aload_n X 0 dX11_then_17 rfl ?_
      refine z_iconst (v := 1) X dX11_then_18 (by decide) ?_
      refine z_callV X (c_fail (κ := κ) (n := n) (o := (o)) (im := (im)) (fo := (fo)) (k := (1)) K0 K16 (by first | assumption | omega) (by first | assumption | omega)) mk_X11_fail dX11_then_19 wd_260 wd_262 wd_0 rfl K0 rfl rfl rfl (Nat.le_of_ble_eq_true rfl) (Nat.le_of_ble_eq_true rfl) (Nat.le_of_ble_eq_true rfl) (by omega) (by omega) (fun q zh112 zm114 zp115 => ?_)
      obtain ⟨rfl, ze113, zn116⟩ := zp115
      subst zm114
      refine z_st (st' := [.int (lowE 1)]) rfl ?_
      have zK117 : zh112 o = some (.inr (11, [.ref (o + 1), .ref (o + 14), .ref (o + 27), .ref (o + 33), .ref (o + 42), .ref (o + 55), .ref (o + 57), .ref (o + 59), .ref (o + 61), .int im])) := by rw [ze113]; rw [va_up_ne _ _ (show o ≠ o + 61 by omega)]; exact K0
      have zK118 : zh112 (o + 1) = some (.inr (3, [.ref (o + 1 + 1), .ref (o + 1 + 7), .ref (o + 1 + 9), .ref (o + 1 + 11), .int (d 13)])) := by rw [ze113]; rw [va_up_ne _ _ (show o + 1 ≠ o + 61 by omega)]; exact K1
      have zK119 : zh112 (o + 2) = some (.inr (2, [.ref (o + 3), .ref (o + 4), .ref (o + 5), .ref (o + 6), .ref (o + 7), .int (nI len), .int (d 0), .int (d 2), .int (d 3), .int (nI nc), .int (d 10), .int cold, .int wind])) := by rw [ze113]; rw [va_up_ne _ _ (show o + 2 ≠ o + 61 by omega)]; exact K2
      have zK120 : zh112 (o + 3) = arI κ 40 (win 100 40 d) := by rw [ze113]; rw [va_up_ne _ _ (show o + 3 ≠ o + 61 by omega)]; exact K3
      have zK121 : zh112 (o + 4) = arI κ 40 (win 140 40 d) := by rw [ze113]; rw [va_up_ne _ _ (show o + 4 ≠ o + 61 by omega)]; exact K4
      have zK122 : zh112 (o + 5) = arI κ 6 (win 4 6 d) := by rw [ze113]; rw [va_up_ne _ _ (show o + 5 ≠ o + 61 by omega)]; exact K5
      have zK123 : zh112 (o + 6) = arR κ 1 6 cs := by rw [ze113]; rw [va_up_ne _ _ (show o + 6 ≠ o + 61 by omega)]; exact K6
      have zK124 : zh112 (o + 7) = arR κ 2 2 ts := by rw [ze113]; rw [va_up_ne _ _ (show o + 7 ≠ o + 61 by omega)]; exact K7
      have zK125 : zh112 (o + 27) = some (.inr (2, [.ref (o + 28), .ref (o + 29), .ref (o + 30), .ref (o + 31), .ref (o + 32), .int alen, .int anow, .int add, .int adr, .int acc, .int aon, .int acold, .int awind])) := by rw [ze113]; rw [va_up_ne _ _ (show o + 27 ≠ o + 61 by omega)]; exact K8
      have zK126 : zh112 (o + 28) = arI κ 40 af1 := by rw [ze113]; rw [va_up_ne _ _ (show o + 28 ≠ o + 61 by omega)]; exact K9
      have zK127 : zh112 (o + 29) = arI κ 40 af2 := by rw [ze113]; rw [va_up_ne _ _ (show o + 29 ≠ o + 61 by omega)]; exact K10
      have zK128 : zh112 (o + 30) = arI κ 6 af3 := by rw [ze113]; rw [va_up_ne _ _ (show o + 30 ≠ o + 61 by omega)]; exact K11
      have zK129 : zh112 (o + 31) = arR κ 1 6 ac1 := by rw [ze113]; rw [va_up_ne _ _ (show o + 31 ≠ o + 61 by omega)]; exact K12
      have zK130 : zh112 (o + 32) = arR κ 2 2 at1 := by rw [ze113]; rw [va_up_ne _ _ (show o + 32 ≠ o + 61 by omega)]; exact K13
      have zK131 : zh112 (o + 57) = some (.inr (6, [.ref (o + 57 + 1), .int rs2, .int bt2])) := by rw [ze113]; rw [va_up_ne _ _ (show o + 57 ≠ o + 61 by omega)]; exact K14
      have zK132 : zh112 (o + 58) = arI κ 40 g2 := by rw [ze113]; rw [va_up_ne _ _ (show o + 58 ≠ o + 61 by omega)]; exact K15
      have zK133 : zh112 (o + 61) = arI κ 6 (bmp fo 1) := by rw [ze113]; exact va_up_self _ _ _
      have zl134 : ∀ zq : Nat, zq < (o + 76) → zq ≠ (o + 61) → zh112 zq = h zq := by intro zq hzq zn0; rw [ze113, va_up_ne _ _ (show zq ≠ o + 61 by omega)]; try rfl
      have zr135 : Zr κ (o + 76) h zh112 := (Zr.refl).trans (Zr.same (fun zq h1 => by rw [ze113, va_up_ne _ _ (show zq ≠ o + 61 by omega)]))
      refine z_iret X E dX11_then_22 (by omega) (by omega) ⟨alen, anow, add, adr, acc, aon, acold, awind, af1, af2, af3, ac1, at1, rs2, g2, ?_, ?_, ?_, ?_, ?_, ?_, ?_, ?_, ?_, ?_, ?_, ?_, ?_⟩
      · rw [opThen_e (T := Tx d) (tx := tx) (d := d) (by omega)]; first | exact congrArg (fun z => some (Value.int z)) (ansOf_0 _).symm | rfl
      · rfl
      · exact fun zq hzq zn0 zn1 zn2 zn3 zn4 zn5 zn6 zn7 zn8 => zl134 zq hzq zn8
      · exact zr135
      · exact zK125
      · exact zK126
      · exact zK127
      · exact zK128
      · exact zK129
      · exact zK130
      · exact zK131
      · exact zK132
      · rw [opThen_e (T := Tx d) (tx := tx) (d := d) (by omega)]; first | (rw [bump_0]; exact zK133) | exact zK133
theorem opWide_e {T : Nat → Nat → Int32} {tx : Nat → Nat} {d : Nat → Int32} {v c : Int32} (h : ¬ (0 ≤ v.toInt ∧ v.toInt ≤ 60 ∧ 0 ≤ c.toInt ∧ c.toInt ≤ 39)) : opWide T tx d v c = (1, 0) := if_pos h
theorem opWide_0 {T : Nat → Nat → Int32} {tx : Nat → Nat} {d : Nat → Int32} {vn cn : Nat} (hv : vn ≤ 60) (hc : cn ≤ 39) (h : cn < lnO (gbyN T tx vn d)) : opWide T tx d (nI vn) (nI cn) = (0, gbyN T tx vn d (100 + cn)) := by
  have e1 := i_nI (n := vn) (by omega)
  have e2 := i_nI (n := cn) (by omega)
  unfold opWide
  rw [ahd_n _ _ _ (by omega), if_neg (by omega), if_pos (by omega), nI_clamp (by omega)]
theorem opWide_2 {T : Nat → Nat → Int32} {tx : Nat → Nat} {d : Nat → Int32} {vn cn : Nat} (hv : vn ≤ 60) (hc : cn ≤ 39) (h : ¬ cn < lnO (gbyN T tx vn d)) : opWide T tx d (nI vn) (nI cn) = (2, 0) := by
  have e1 := i_nI (n := vn) (by omega)
  have e2 := i_nI (n := cn) (by omega)
  unfold opWide
  rw [ahd_n _ _ _ (by omega), if_neg (by omega), if_neg (by omega)]
set_option maxHeartbeats 4000000 in
set_option maxRecDepth 100000 in
theorem p_wide {κ : Wc} {l : Launch} {h : Mm} {n : Nat} {o : Nat} {im : Int32} {d : Nat → Int32} {len : Nat} {nc : Nat} {cold : Int32} {wind : Int32} {cs : Nat → Option Nat} {ts : Nat → Option Nat} {alen : Int32} {anow : Int32} {add : Int32} {adr : Int32} {acc : Int32} {aon : Int32} {acold : Int32} {awind : Int32} {af1 : Nat → Int32} {af2 : Nat → Int32} {af3 : Nat → Int32} {ac1 : Nat → Option Nat} {at1 : Nat → Option Nat} {fo : Nat → Int32} {v : Int32} {c : Int32} {tx : Nat → Nat} (K0 : h o = some (.inr (11, [.ref (o + 1), .ref (o + 14), .ref (o + 27), .ref (o + 33), .ref (o + 42), .ref (o + 55), .ref (o + 57), .ref (o + 59), .ref (o + 61), .int im]))) (K1 : h (o + 1) = some (.inr (3, [.ref (o + 1 + 1), .ref (o + 1 + 7), .ref (o + 1 + 9), .ref (o + 1 + 11), .int (d 13)]))) (K2 : h (o + 2) = some (.inr (2, [.ref (o + 3), .ref (o + 4), .ref (o + 5), .ref (o + 6), .ref (o + 7), .int (nI len), .int (d 0), .int (d 2), .int (d 3), .int (nI nc), .int (d 10), .int cold, .int wind]))) (K3 : h (o + 3) = arI κ 40 (win 100 40 d)) (K4 : h (o + 4) = arI κ 40 (win 140 40 d)) (K5 : h (o + 5) = arI κ 6 (win 4 6 d)) (K6 : h (o + 6) = arR κ 1 6 cs) (K7 : h (o + 7) = arR κ 2 2 ts) (K8 : h (o + 27) = some (.inr (2, [.ref (o + 28), .ref (o + 29), .ref (o + 30), .ref (o + 31), .ref (o + 32), .int alen, .int anow, .int add, .int adr, .int acc, .int aon, .int acold, .int awind]))) (K9 : h (o + 28) = arI κ 40 af1) (K10 : h (o + 29) = arI κ 40 af2) (K11 : h (o + 30) = arI κ 6 af3) (K12 : h (o + 31) = arR κ 1 6 ac1) (K13 : h (o + 32) = arR κ 2 2 at1) (K14 : h (o + 61) = arI κ 6 fo) (q1 : d 1 = nI len) (q2 : 1 ≤ len) (q3 : len ≤ 40) (q4 : d 11 = nI nc) (q5 : nc ≤ 6) (hTs : TsO κ (o + 76) h ts (Tx d) tx) (hCs : CsO (o + 76) h cs d nc) (hCA : CsA (o + 76) h cs) (hS : wfS d) (hC : wfC d) : Con κ l yX11_wide cX11_wide 3 (some .int) 14 0 0 [.ref o, .int v, .int c] h n (fun q h' n' => ∃ x1' : Int32, ∃ x2' : Int32, ∃ x3' : Int32, ∃ x4' : Int32, ∃ x5' : Int32, ∃ x6' : Int32, ∃ x7' : Int32, ∃ x8' : Int32, ∃ af1' : Nat → Int32, ∃ af2' : Nat → Int32, ∃ af3' : Nat → Int32, ∃ ac1' : Nat → Option Nat, ∃ at1' : Nat → Option Nat, q = some (.int (ansOf (opWide (Tx d) tx d v c))) ∧ n' = n ∧ (∀ zq : Nat, zq < (o + 76) → zq ≠ (o + 27) → zq ≠ (o + 28) → zq ≠ (o + 29) → zq ≠ (o + 30) → zq ≠ (o + 31) → zq ≠ (o + 32) → zq ≠ (o + 61) → h' zq = h zq) ∧ Zr κ (o + 76) h h' ∧ h' (o + 27) = some (.inr (2, [.ref (o + 28), .ref (o + 29), .ref (o + 30), .ref (o + 31), .ref (o + 32), .int x1', .int x2', .int x3', .int x4', .int x5', .int x6', .int x7', .int x8'])) ∧ h' (o + 28) = arI κ 40 af1' ∧ h' (o + 29) = arI κ 40 af2' ∧ h' (o + 30) = arI κ 6 af3' ∧ h' (o + 31) = arR κ 1 6 ac1' ∧ h' (o + 32) = arR κ 2 2 at1' ∧ h' (o + 61) = arI κ 6 (bump (opWide (Tx d) tx d v c) fo)) := by
  refine Con.of mk_X11_wide (Nat.le_of_ble_eq_true rfl) (fun G hG X E => ?_)
  subst hG
  refine z_ls (ls' := [(0, .ref o), (1, .int v), (2, .int c)]) rfl ?_
  have hOk : lnOk d := lnOk_of q1 q2 q3
  refine z_iload_n X 1 dX11_wide_0 rfl ?_
  refine z_callS X (c_isAhead (κ := κ) (n := n) (v := (v))  ) mk_X11_isAhead dX11_wide_1 wd_658 wd_659 rfl rfl (Nat.le_of_ble_eq_true rfl) (Nat.le_of_ble_eq_true rfl) (Nat.le_of_ble_eq_true rfl) (by omega) (by omega) (fun q zh1 zm3 zp4 => ?_)
  obtain ⟨rfl, ze2, zn5⟩ := zp4
  subst zm3
  subst zh1
  refine z_st (st' := [.int (b2i (0 ≤ (v : Int32).toInt ∧ (v : Int32).toInt ≤ 60))]) rfl ?_
  refine z_if_eq X 17 dX11_wide_4 (by decide) (fun zc6 => ?_) (fun zc6 => ?_)
  · replace zc6 := b2i_f zc6
    refine z_aload_n X 0 dX11_wide_17 rfl ?_
    refine z_iconst (v := 1) X dX11_wide_18 (by decide) ?_
    refine z_callV X (c_fail (κ := κ) (n := n) (o := (o)) (im := (im)) (fo := (fo)) (k := (1)) K0 K14 (by first | assumption | omega) (by first | assumption | omega)) mk_X11_fail dX11_wide_19 wd_260 wd_262 wd_0 rfl K0 rfl rfl rfl (Nat.le_of_ble_eq_true rfl) (Nat.le_of_ble_eq_true rfl) (Nat.le_of_ble_eq_true rfl) (by omega) (by omega) (fun q zh7 zm9 zp10 => ?_)
    obtain ⟨rfl, ze8, zn11⟩ := zp10
    subst zm9
    refine z_st (st' := [.int (lowE 1)]) rfl ?_
    have zK12 : zh7 o = some (.inr (11, [.ref (o + 1), .ref (o + 14), .ref (o + 27), .ref (o + 33), .ref (o + 42), .ref (o + 55), .ref (o + 57), .ref (o + 59), .ref (o + 61), .int im])) := by rw [ze8]; rw [va_up_ne _ _ (show o ≠ o + 61 by omega)]; exact K0
    have zK13 : zh7 (o + 1) = some (.inr (3, [.ref (o + 1 + 1), .ref (o + 1 + 7), .ref (o + 1 + 9), .ref (o + 1 + 11), .int (d 13)])) := by rw [ze8]; rw [va_up_ne _ _ (show o + 1 ≠ o + 61 by omega)]; exact K1
    have zK14 : zh7 (o + 2) = some (.inr (2, [.ref (o + 3), .ref (o + 4), .ref (o + 5), .ref (o + 6), .ref (o + 7), .int (nI len), .int (d 0), .int (d 2), .int (d 3), .int (nI nc), .int (d 10), .int cold, .int wind])) := by rw [ze8]; rw [va_up_ne _ _ (show o + 2 ≠ o + 61 by omega)]; exact K2
    have zK15 : zh7 (o + 3) = arI κ 40 (win 100 40 d) := by rw [ze8]; rw [va_up_ne _ _ (show o + 3 ≠ o + 61 by omega)]; exact K3
    have zK16 : zh7 (o + 4) = arI κ 40 (win 140 40 d) := by rw [ze8]; rw [va_up_ne _ _ (show o + 4 ≠ o + 61 by omega)]; exact K4
    have zK17 : zh7 (o + 5) = arI κ 6 (win 4 6 d) := by rw [ze8]; rw [va_up_ne _ _ (show o + 5 ≠ o + 61 by omega)]; exact K5
    have zK18 : zh7 (o + 6) = arR κ 1 6 cs := by rw [ze8]; rw [va_up_ne _ _ (show o + 6 ≠ o + 61 by omega)]; exact K6
    have zK19 : zh7 (o + 7) = arR κ 2 2 ts := by rw [ze8]; rw [va_up_ne _ _ (show o + 7 ≠ o + 61 by omega)]; exact K7
    have zK20 : zh7 (o + 27) = some (.inr (2, [.ref (o + 28), .ref (o + 29), .ref (o + 30), .ref (o + 31), .ref (o + 32), .int alen, .int anow, .int add, .int adr, .int acc, .int aon, .int acold, .int awind])) := by rw [ze8]; rw [va_up_ne _ _ (show o + 27 ≠ o + 61 by omega)]; exact K8
    have zK21 : zh7 (o + 28) = arI κ 40 af1 := by rw [ze8]; rw [va_up_ne _ _ (show o + 28 ≠ o + 61 by omega)]; exact K9
    have zK22 : zh7 (o + 29) = arI κ 40 af2 := by rw [ze8]; rw [va_up_ne _ _ (show o + 29 ≠ o + 61 by omega)]; exact K10
    have zK23 : zh7 (o + 30) = arI κ 6 af3 := by rw [ze8]; rw [va_up_ne _ _ (show o + 30 ≠ o + 61 by omega)]; exact K11
    have zK24 : zh7 (o + 31) = arR κ 1 6 ac1 := by rw [ze8]; rw [va_up_ne _ _ (show o + 31 ≠ o + 61 by omega)]; exact K12
    have zK25 : zh7 (o + 32) = arR κ 2 2 at1 := by rw [ze8]; rw [va_up_ne _ _ (show o + 32 ≠ o + 61 by omega)]; exact K13
    have zK26 : zh7 (o + 61) = arI κ 6 (bmp fo 1) := by rw [ze8]; exact va_up_self _ _ _
    have zl27 : ∀ zq : Nat, zq < (o + 76) → zq ≠ (o + 61) → zh7 zq = h zq := by intro zq hzq zn0; rw [ze8, va_up_ne _ _ (show zq ≠ o + 61 by omega)]; try rfl
    have zr28 : Zr κ (o + 76) h zh7 := (Zr.refl).trans (Zr.same (fun zq h1 => by rw [ze8, va_up_ne _ _ (show zq ≠ o + 61 by omega)]))
    refine z_iret X E dX11_wide_22 (by omega) (by omega) ⟨alen, anow, add, adr, acc, aon, acold, awind, af1, af2, af3, ac1, at1, ?_, ?_, ?_, ?_, ?_, ?_, ?_, ?_, ?_, ?_, ?_⟩
    · rw [opWide_e (T := Tx d) (tx := tx) (d := d) (by omega)]; first | exact congrArg (fun z => some (Value.int z)) (ansOf_0 _).symm | rfl
    · rfl
    · exact fun zq hzq zn0 zn1 zn2 zn3 zn4 zn5 zn6 => zl27 zq hzq zn6
    · exact zr28
    · exact zK20
    · exact zK21
    · exact zK22
    · exact zK23
    · exact zK24
    · exact zK25
    · rw [opWide_e (T := Tx d) (tx := tx) (d := d) (by omega)]; first | (rw [bump_0]; exact zK26) | exact zK26
  · replace zc6 := b2i_t zc6
    refine z_iload_n X 2 dX11_wide_7 rfl ?_
    refine z_iconst (v := 0) X dX11_wide_8 (by decide) ?_
    refine z_bipush (v := 39) X dX11_wide_9 (by decide) ?_
    refine z_callS X (c_within (κ := κ) (n := n) (v := (c)) (lo := (0)) (hi := (39))  ) mk_X11_within dX11_wide_11 wd_259 wd_257 rfl rfl (Nat.le_of_ble_eq_true rfl) (Nat.le_of_ble_eq_true rfl) (Nat.le_of_ble_eq_true rfl) (by omega) (by omega) (fun q zh29 zm31 zp32 => ?_)
    obtain ⟨rfl, ze30, zn33⟩ := zp32
    subst zm31
    subst zh29
    refine z_st (st' := [.int (b2i ((0 : Int32).toInt ≤ (c : Int32).toInt ∧ (c : Int32).toInt ≤ (39 : Int32).toInt))]) rfl ?_
    refine z_toe (y := b2i (0 ≤ c.toInt ∧ c.toInt ≤ 39)) (by simp only [show (0 : Int32).toInt = 0 by decide, show (39 : Int32).toInt = 39 by decide]) ?_
    refine z_if_ne X 23 dX11_wide_14 (by decide) (fun zc34 => ?_) (fun zc34 => ?_)
    · replace zc34 := b2i_t zc34
      obtain ⟨vk, hvk, rfl⟩ := ix_of (c := v) (len := 61) (by omega) (by omega)
      obtain ⟨ck, hck, rfl⟩ := ix_of (c := c) (len := 40) (by omega) (by omega)
      refine z_aload_n X 0 dX11_wide_23 rfl ?_
      refine z_iload_n X 1 dX11_wide_24 rfl ?_
      refine z_callV X (c_goAhead (κ := κ) (n := n) (o := (o)) (im := (im)) (d := (d)) (len := (len)) (nc := (nc)) (cold := (cold)) (wind := (wind)) (cs := (cs)) (ts := (ts)) (alen := (alen)) (anow := (anow)) (add := (add)) (adr := (adr)) (acc := (acc)) (aon := (aon)) (acold := (acold)) (awind := (awind)) (af1 := (af1)) (af2 := (af2)) (af3 := (af3)) (ac1 := (ac1)) (at1 := (at1)) (tx := (tx)) (v := (vk)) K0 K1 K2 K3 K4 K5 K6 K7 K8 K9 K10 K11 K12 K13 (by first | assumption | omega) (by first | assumption | omega) (by first | assumption | omega) (by first | assumption | omega) (by first | assumption | omega) (hTs) (hCs) (hCA) (hS) (hC) (by first | assumption | omega)) mk_X11_goAhead dX11_wide_25 wd_661 wd_663 wd_19 rfl K0 rfl rfl rfl (Nat.le_of_ble_eq_true rfl) (Nat.le_of_ble_eq_true rfl) (Nat.le_of_ble_eq_true rfl) (by omega) (by omega) (fun q zh37 zm39 zp40 => ?_)
      obtain ⟨cold'35, wind'36, rfl, zn41, zf42, zr43, zK44, zK45, zK46, zK47, zK48, zK49⟩ := zp40
      subst zm39
      refine z_st (st' := []) rfl ?_
      have zK50 : zh37 o = some (.inr (11, [.ref (o + 1), .ref (o + 14), .ref (o + 27), .ref (o + 33), .ref (o + 42), .ref (o + 55), .ref (o + 57), .ref (o + 59), .ref (o + 61), .int im])) := (zf42 o (by omega) (by omega) (by omega) (by omega) (by omega) (by omega) (by omega)).trans K0
      have zK51 : zh37 (o + 1) = some (.inr (3, [.ref (o + 1 + 1), .ref (o + 1 + 7), .ref (o + 1 + 9), .ref (o + 1 + 11), .int (d 13)])) := (zf42 (o + 1) (by omega) (by omega) (by omega) (by omega) (by omega) (by omega) (by omega)).trans K1
      have zK52 : zh37 (o + 2) = some (.inr (2, [.ref (o + 3), .ref (o + 4), .ref (o + 5), .ref (o + 6), .ref (o + 7), .int (nI len), .int (d 0), .int (d 2), .int (d 3), .int (nI nc), .int (d 10), .int cold, .int wind])) := (zf42 (o + 2) (by omega) (by omega) (by omega) (by omega) (by omega) (by omega) (by omega)).trans K2
      have zK53 : zh37 (o + 3) = arI κ 40 (win 100 40 d) := (zf42 (o + 3) (by omega) (by omega) (by omega) (by omega) (by omega) (by omega) (by omega)).trans K3
      have zK54 : zh37 (o + 4) = arI κ 40 (win 140 40 d) := (zf42 (o + 4) (by omega) (by omega) (by omega) (by omega) (by omega) (by omega) (by omega)).trans K4
      have zK55 : zh37 (o + 5) = arI κ 6 (win 4 6 d) := (zf42 (o + 5) (by omega) (by omega) (by omega) (by omega) (by omega) (by omega) (by omega)).trans K5
      have zK56 : zh37 (o + 6) = arR κ 1 6 cs := (zf42 (o + 6) (by omega) (by omega) (by omega) (by omega) (by omega) (by omega) (by omega)).trans K6
      have zK57 : zh37 (o + 7) = arR κ 2 2 ts := (zf42 (o + 7) (by omega) (by omega) (by omega) (by omega) (by omega) (by omega) (by omega)).trans K7
      have zK58 : zh37 (o + 61) = arI κ 6 fo := (zf42 (o + 61) (by omega) (by omega) (by omega) (by omega) (by omega) (by omega) (by omega)).trans K14
      have zl59 : ∀ zq : Nat, zq < (o + 76) → zq ≠ (o + 27) → zq ≠ (o + 28) → zq ≠ (o + 29) → zq ≠ (o + 30) → zq ≠ (o + 31) → zq ≠ (o + 32) → zh37 zq = h zq := by intro zq hzq zn0 zn1 zn2 zn3 zn4 zn5; rw [zf42 zq (by omega) (by omega) (by omega) (by omega) (by omega) (by omega) (by omega)]; try rfl
      have zr60 : Zr κ (o + 76) h zh37 := (Zr.refl).trans zr43
      have hEl : lnO (gbyN (Tx d) tx vk d) ≤ 40 := (gbyN_ok (T := Tx d) (tx := tx) hOk vk).2.2
      have hEl1 : 1 ≤ lnO (gbyN (Tx d) tx vk d) := (gbyN_ok (T := Tx d) (tx := tx) hOk vk).2.1
      refine z_aload_n X 0 dX11_wide_28 rfl ?_
      refine z_get X fl_X11_22_11 dX11_wide_29 zK50 rfl ?_
      refine z_iload_n X 2 dX11_wide_32 rfl ?_
      refine z_callV X (c_has (κ := κ) (n := n) (i := (o + 27)) (len := (lnO (gbyN (Tx d) tx vk d))) (now := ((gbyN (Tx d) tx vk d) 0)) (dd := ((gbyN (Tx d) tx vk d) 2)) (dr := ((gbyN (Tx d) tx vk d) 3)) (cc := (nI nc)) (on := (d 10)) (cold := (cold'35)) (wind := (wind'36)) (c := (nI ck)) zK44 ((gbyN_ok (T := Tx d) (tx := tx) hOk vk).2.2)) mk_X2_has dX11_wide_33 wd_252 wd_253 wd_254 rfl zK44 rfl rfl rfl (Nat.le_of_ble_eq_true rfl) (Nat.le_of_ble_eq_true rfl) (Nat.le_of_ble_eq_true rfl) (by omega) (by omega) (fun q zh61 zm63 zp64 => ?_)
      obtain ⟨rfl, ze62, zn65⟩ := zp64
      subst zm63
      subst zh61
      refine z_st (st' := [.int (b2i (0 ≤ (nI ck : Int32).toInt ∧ (nI ck : Int32).toInt ≤ (((lnO (gbyN (Tx d) tx vk d)) : Nat) : Int) - 1))]) rfl ?_
      refine z_if_eq X 50 dX11_wide_36 (by decide) (fun zc66 => ?_) (fun zc66 => ?_)
      · replace zc66 := b2i_f zc66
        rw [i_nI (n := ck) (by omega)] at zc66
        refine z_aload_n X 0 dX11_wide_50 rfl ?_
        refine z_iconst (v := 2) X dX11_wide_51 (by decide) ?_
        refine z_callV X (c_fail (κ := κ) (n := n) (o := (o)) (im := (im)) (fo := (fo)) (k := (2)) zK50 zK58 (by first | assumption | omega) (by first | assumption | omega)) mk_X11_fail dX11_wide_52 wd_260 wd_262 wd_0 rfl zK50 rfl rfl rfl (Nat.le_of_ble_eq_true rfl) (Nat.le_of_ble_eq_true rfl) (Nat.le_of_ble_eq_true rfl) (by omega) (by omega) (fun q zh67 zm69 zp70 => ?_)
        obtain ⟨rfl, ze68, zn71⟩ := zp70
        subst zm69
        refine z_st (st' := [.int (lowE 2)]) rfl ?_
        have zK72 : zh67 o = some (.inr (11, [.ref (o + 1), .ref (o + 14), .ref (o + 27), .ref (o + 33), .ref (o + 42), .ref (o + 55), .ref (o + 57), .ref (o + 59), .ref (o + 61), .int im])) := by rw [ze68]; rw [va_up_ne _ _ (show o ≠ o + 61 by omega)]; exact zK50
        have zK73 : zh67 (o + 1) = some (.inr (3, [.ref (o + 1 + 1), .ref (o + 1 + 7), .ref (o + 1 + 9), .ref (o + 1 + 11), .int (d 13)])) := by rw [ze68]; rw [va_up_ne _ _ (show o + 1 ≠ o + 61 by omega)]; exact zK51
        have zK74 : zh67 (o + 2) = some (.inr (2, [.ref (o + 3), .ref (o + 4), .ref (o + 5), .ref (o + 6), .ref (o + 7), .int (nI len), .int (d 0), .int (d 2), .int (d 3), .int (nI nc), .int (d 10), .int cold, .int wind])) := by rw [ze68]; rw [va_up_ne _ _ (show o + 2 ≠ o + 61 by omega)]; exact zK52
        have zK75 : zh67 (o + 3) = arI κ 40 (win 100 40 d) := by rw [ze68]; rw [va_up_ne _ _ (show o + 3 ≠ o + 61 by omega)]; exact zK53
        have zK76 : zh67 (o + 4) = arI κ 40 (win 140 40 d) := by rw [ze68]; rw [va_up_ne _ _ (show o + 4 ≠ o + 61 by omega)]; exact zK54
        have zK77 : zh67 (o + 5) = arI κ 6 (win 4 6 d) := by rw [ze68]; rw [va_up_ne _ _ (show o + 5 ≠ o + 61 by omega)]; exact zK55
        have zK78 : zh67 (o + 6) = arR κ 1 6 cs := by rw [ze68]; rw [va_up_ne _ _ (show o + 6 ≠ o + 61 by omega)]; exact zK56
        have zK79 : zh67 (o + 7) = arR κ 2 2 ts := by rw [ze68]; rw [va_up_ne _ _ (show o + 7 ≠ o + 61 by omega)]; exact zK57
        have zK80 : zh67 (o + 61) = arI κ 6 (bmp fo 2) := by rw [ze68]; exact va_up_self _ _ _
        have zK81 : zh67 (o + 27) = some (.inr (2, [.ref (o + 28), .ref (o + 29), .ref (o + 30), .ref (o + 31), .ref (o + 32), .int (nI (lnO (gbyN (Tx d) tx vk d))), .int ((gbyN (Tx d) tx vk d) 0), .int ((gbyN (Tx d) tx vk d) 2), .int ((gbyN (Tx d) tx vk d) 3), .int (nI nc), .int (d 10), .int cold'35, .int wind'36])) := by rw [ze68]; rw [va_up_ne _ _ (show o + 27 ≠ o + 61 by omega)]; exact zK44
        have zK82 : zh67 (o + 28) = arI κ 40 (win 100 40 (gbyN (Tx d) tx vk d)) := by rw [ze68]; rw [va_up_ne _ _ (show o + 28 ≠ o + 61 by omega)]; exact zK45
        have zK83 : zh67 (o + 29) = arI κ 40 (win 140 40 (gbyN (Tx d) tx vk d)) := by rw [ze68]; rw [va_up_ne _ _ (show o + 29 ≠ o + 61 by omega)]; exact zK46
        have zK84 : zh67 (o + 30) = arI κ 6 (win 4 6 d) := by rw [ze68]; rw [va_up_ne _ _ (show o + 30 ≠ o + 61 by omega)]; exact zK47
        have zK85 : zh67 (o + 31) = arR κ 1 6 cs := by rw [ze68]; rw [va_up_ne _ _ (show o + 31 ≠ o + 61 by omega)]; exact zK48
        have zK86 : zh67 (o + 32) = arR κ 2 2 ts := by rw [ze68]; rw [va_up_ne _ _ (show o + 32 ≠ o + 61 by omega)]; exact zK49
        have zl87 : ∀ zq : Nat, zq < (o + 76) → zq ≠ (o + 27) → zq ≠ (o + 28) → zq ≠ (o + 29) → zq ≠ (o + 30) → zq ≠ (o + 31) → zq ≠ (o + 32) → zq ≠ (o + 61) → zh67 zq = h zq := by intro zq hzq zn0 zn1 zn2 zn3 zn4 zn5 zn6; rw [ze68, va_up_ne _ _ (show zq ≠ o + 61 by omega)]; exact zl59 zq hzq zn0 zn1 zn2 zn3 zn4 zn5
        have zr88 : Zr κ (o + 76) h zh67 := (zr60).trans (Zr.same (fun zq h1 => by rw [ze68, va_up_ne _ _ (show zq ≠ o + 61 by omega)]))
        refine z_iret X E dX11_wide_55 (by omega) (by omega) ⟨(nI (lnO (gbyN (Tx d) tx vk d))), ((gbyN (Tx d) tx vk d) 0), ((gbyN (Tx d) tx vk d) 2), ((gbyN (Tx d) tx vk d) 3), (nI nc), (d 10), cold'35, wind'36, (win 100 40 (gbyN (Tx d) tx vk d)), (win 140 40 (gbyN (Tx d) tx vk d)), (win 4 6 d), cs, ts, ?_, ?_, ?_, ?_, ?_, ?_, ?_, ?_, ?_, ?_, ?_⟩
        · rw [opWide_2 (T := Tx d) (tx := tx) (d := d) (vn := vk) (cn := ck) (by omega) (by omega) (by omega)]; first | exact congrArg (fun z => some (Value.int z)) (ansOf_0 _).symm | rfl
        · rfl
        · exact fun zq hzq zn0 zn1 zn2 zn3 zn4 zn5 zn6 => zl87 zq hzq zn0 zn1 zn2 zn3 zn4 zn5 zn6
        · exact zr88
        · exact zK81
        · exact zK82
        · exact zK83
        · exact zK84
        · exact zK85
        · exact zK86
        · rw [opWide_2 (T := Tx d) (tx := tx) (d := d) (vn := vk) (cn := ck) (by omega) (by omega) (by omega)]; first | (rw [bump_0]; exact zK80) | exact zK80
      · replace zc66 := b2i_t zc66
        rw [i_nI (n := ck) (by omega)] at zc66
        refine z_aload_n X 0 dX11_wide_39 rfl ?_
        refine z_get X fl_X11_22_11 dX11_wide_40 zK50 rfl ?_
        refine z_iload_n X 2 dX11_wide_43 rfl ?_
        refine z_callV X (c_wideAt (κ := κ) (n := n) (i := (o + 27)) (len := (lnO (gbyN (Tx d) tx vk d))) (m := (gbyN (Tx d) tx vk d)) (now := ((gbyN (Tx d) tx vk d) 0)) (dd := ((gbyN (Tx d) tx vk d) 2)) (dr := ((gbyN (Tx d) tx vk d) 3)) (cc := (nI nc)) (on := (d 10)) (cold := (cold'35)) (wind := (wind'36)) (k := (ck)) zK44 zK45 ((gbyN_ok (T := Tx d) (tx := tx) hOk vk).2.2) (by first | assumption | omega)) mk_X2_wideAt dX11_wide_44 wd_265 wd_266 wd_267 rfl zK44 rfl rfl rfl (Nat.le_of_ble_eq_true rfl) (Nat.le_of_ble_eq_true rfl) (Nat.le_of_ble_eq_true rfl) (by omega) (by omega) (fun q zh89 zm91 zp92 => ?_)
        obtain ⟨rfl, ze90, zn93⟩ := zp92
        subst zm91
        subst zh89
        refine z_st (st' := [.int (wAt (gbyN (Tx d) tx vk d) 100 (lnO (gbyN (Tx d) tx vk d)) ck)]) rfl ?_
        refine z_toe (y := (gbyN (Tx d) tx vk d) (100 + ck)) (wAt_t (by omega)) ?_
        refine z_goto X 55 dX11_wide_47 (by decide) ?_
        refine z_iret X E dX11_wide_55 (by omega) (by omega) ⟨(nI (lnO (gbyN (Tx d) tx vk d))), ((gbyN (Tx d) tx vk d) 0), ((gbyN (Tx d) tx vk d) 2), ((gbyN (Tx d) tx vk d) 3), (nI nc), (d 10), cold'35, wind'36, (win 100 40 (gbyN (Tx d) tx vk d)), (win 140 40 (gbyN (Tx d) tx vk d)), (win 4 6 d), cs, ts, ?_, ?_, ?_, ?_, ?_, ?_, ?_, ?_, ?_, ?_, ?_⟩
        · rw [opWide_0 (T := Tx d) (tx := tx) (d := d) (vn := vk) (cn := ck) (by omega) (by omega) (by omega)]; first | exact congrArg (fun z => some (Value.int z)) (ansOf_0 _).symm | rfl
        · rfl
        · exact fun zq hzq zn0 zn1 zn2 zn3 zn4 zn5 zn6 => zl59 zq hzq zn0 zn1 zn2 zn3 zn4 zn5
        · exact zr60
        · exact zK44
        · exact zK45
        · exact zK46
        · exact zK47
        · exact zK48
        · exact zK49
        · rw [opWide_0 (T := Tx d) (tx := tx) (d := d) (vn := vk) (cn := ck) (by omega) (by omega) (by omega)]; first | (rw [bump_0]; exact zK58) | exact zK58
    · replace zc34 := b2i_f zc34
      refine z_aload_n X 0 dX11_wide_17 rfl ?_
      refine z_iconst (v := 1) X dX11_wide_18 (by decide) ?_
      refine z_callV X (c_fail (κ := κ) (n := n) (o := (o)) (im := (im)) (fo := (fo)) (k := (1)) K0 K14 (by first | assumption | omega) (by first | assumption | omega)) mk_X11_fail dX11_wide_19 wd_260 wd_262 wd_0 rfl K0 rfl rfl rfl (Nat.le_of_ble_eq_true rfl) (Nat.le_of_ble_eq_true rfl) (Nat.le_of_ble_eq_true rfl) (by omega) (by omega) (fun q zh94 zm96 zp97 => ?_)
      obtain ⟨rfl, ze95, zn98⟩ := zp97
      subst zm96
      refine z_st (st' := [.int (lowE 1)]) rfl ?_
      have zK99 : zh94 o = some (.inr (11, [.ref (o + 1), .ref (o + 14), .ref (o + 27), .ref (o + 33), .ref (o + 42), .ref (o + 55), .ref (o + 57), .ref (o + 59), .ref (o + 61), .int im])) := by rw [ze95]; rw [va_up_ne _ _ (show o ≠ o + 61 by omega)]; exact K0
      have zK100 : zh94 (o + 1) = some (.inr (3, [.ref (o + 1 + 1), .ref (o + 1 + 7), .ref (o + 1 + 9), .ref (o + 1 + 11), .int (d 13)])) := by rw [ze95]; rw [va_up_ne _ _ (show o + 1 ≠ o + 61 by omega)]; exact K1
      have zK101 : zh94 (o + 2) = some (.inr (2, [.ref (o + 3), .ref (o + 4), .ref (o + 5), .ref (o + 6), .ref (o + 7), .int (nI len), .int (d 0), .int (d 2), .int (d 3), .int (nI nc), .int (d 10), .int cold, .int wind])) := by rw [ze95]; rw [va_up_ne _ _ (show o + 2 ≠ o + 61 by omega)]; exact K2
      have zK102 : zh94 (o + 3) = arI κ 40 (win 100 40 d) := by rw [ze95]; rw [va_up_ne _ _ (show o + 3 ≠ o + 61 by omega)]; exact K3
      have zK103 : zh94 (o + 4) = arI κ 40 (win 140 40 d) := by rw [ze95]; rw [va_up_ne _ _ (show o + 4 ≠ o + 61 by omega)]; exact K4
      have zK104 : zh94 (o + 5) = arI κ 6 (win 4 6 d) := by rw [ze95]; rw [va_up_ne _ _ (show o + 5 ≠ o + 61 by omega)]; exact K5
      have zK105 : zh94 (o + 6) = arR κ 1 6 cs := by rw [ze95]; rw [va_up_ne _ _ (show o + 6 ≠ o + 61 by omega)]; exact K6
      have zK106 : zh94 (o + 7) = arR κ 2 2 ts := by rw [ze95]; rw [va_up_ne _ _ (show o + 7 ≠ o + 61 by omega)]; exact K7
      have zK107 : zh94 (o + 27) = some (.inr (2, [.ref (o + 28), .ref (o + 29), .ref (o + 30), .ref (o + 31), .ref (o + 32), .int alen, .int anow, .int add, .int adr, .int acc, .int aon, .int acold, .int awind])) := by rw [ze95]; rw [va_up_ne _ _ (show o + 27 ≠ o + 61 by omega)]; exact K8
      have zK108 : zh94 (o + 28) = arI κ 40 af1 := by rw [ze95]; rw [va_up_ne _ _ (show o + 28 ≠ o + 61 by omega)]; exact K9
      have zK109 : zh94 (o + 29) = arI κ 40 af2 := by rw [ze95]; rw [va_up_ne _ _ (show o + 29 ≠ o + 61 by omega)]; exact K10
      have zK110 : zh94 (o + 30) = arI κ 6 af3 := by rw [ze95]; rw [va_up_ne _ _ (show o + 30 ≠ o + 61 by omega)]; exact K11
      have zK111 : zh94 (o + 31) = arR κ 1 6 ac1 := by rw [ze95]; rw [va_up_ne _ _ (show o + 31 ≠ o + 61 by omega)]; exact K12
      have zK112 : zh94 (o + 32) = arR κ 2 2 at1 := by rw [ze95]; rw [va_up_ne _ _ (show o + 32 ≠ o + 61 by omega)]; exact K13
      have zK113 : zh94 (o + 61) = arI κ 6 (bmp fo 1) := by rw [ze95]; exact va_up_self _ _ _
      have zl114 : ∀ zq : Nat, zq < (o + 76) → zq ≠ (o + 61) → zh94 zq = h zq := by intro zq hzq zn0; rw [ze95, va_up_ne _ _ (show zq ≠ o + 61 by omega)]; try rfl
      have zr115 : Zr κ (o + 76) h zh94 := (Zr.refl).trans (Zr.same (fun zq h1 => by rw [ze95, va_up_ne _ _ (show zq ≠ o + 61 by omega)]))
      refine z_iret X E dX11_wide_22 (by omega) (by omega) ⟨alen, anow, add, adr, acc, aon, acold, awind, af1, af2, af3, ac1, at1, ?_, ?_, ?_, ?_, ?_, ?_, ?_, ?_, ?_, ?_, ?_⟩
      · rw [opWide_e (T := Tx d) (tx := tx) (d := d) (by omega)]; first | exact congrArg (fun z => some (Value.int z)) (ansOf_0 _).symm | rfl
      · rfl
      · exact fun zq hzq zn0 zn1 zn2 zn3 zn4 zn5 zn6 => zl114 zq hzq zn6
      · exact zr115
      · exact zK107
      · exact zK108
      · exact zK109
      · exact zK110
      · exact zK111
      · exact zK112
      · rw [opWide_e (T := Tx d) (tx := tx) (d := d) (by omega)]; first | (rw [bump_0]; exact zK113) | exact zK113
set_option maxHeartbeats 4000000 in
set_option maxRecDepth 100000 in
theorem p_pace {κ : Wc} {l : Launch} {h : Mm} {n : Nat} {o : Nat} {im : Int32} {d : Nat → Int32} {len : Nat} {nc : Nat} {cold : Int32} {wind : Int32} {cs : Nat → Option Nat} {ts : Nat → Option Nat} {alen : Int32} {anow : Int32} {add : Int32} {adr : Int32} {acc : Int32} {aon : Int32} {acold : Int32} {awind : Int32} {af1 : Nat → Int32} {af2 : Nat → Int32} {af3 : Nat → Int32} {ac1 : Nat → Option Nat} {at1 : Nat → Option Nat} {rs1 : Int32} {bt1 : Int32} {g1 : Nat → Int32} {rs2 : Int32} {bt2 : Int32} {g2 : Nat → Int32} {fo : Nat → Int32} {v : Int32} {tx : Nat → Nat} (K0 : h o = some (.inr (11, [.ref (o + 1), .ref (o + 14), .ref (o + 27), .ref (o + 33), .ref (o + 42), .ref (o + 55), .ref (o + 57), .ref (o + 59), .ref (o + 61), .int im]))) (K1 : h (o + 1) = some (.inr (3, [.ref (o + 1 + 1), .ref (o + 1 + 7), .ref (o + 1 + 9), .ref (o + 1 + 11), .int (d 13)]))) (K2 : h (o + 2) = some (.inr (2, [.ref (o + 3), .ref (o + 4), .ref (o + 5), .ref (o + 6), .ref (o + 7), .int (nI len), .int (d 0), .int (d 2), .int (d 3), .int (nI nc), .int (d 10), .int cold, .int wind]))) (K3 : h (o + 3) = arI κ 40 (win 100 40 d)) (K4 : h (o + 4) = arI κ 40 (win 140 40 d)) (K5 : h (o + 5) = arI κ 6 (win 4 6 d)) (K6 : h (o + 6) = arR κ 1 6 cs) (K7 : h (o + 7) = arR κ 2 2 ts) (K8 : h (o + 27) = some (.inr (2, [.ref (o + 28), .ref (o + 29), .ref (o + 30), .ref (o + 31), .ref (o + 32), .int alen, .int anow, .int add, .int adr, .int acc, .int aon, .int acold, .int awind]))) (K9 : h (o + 28) = arI κ 40 af1) (K10 : h (o + 29) = arI κ 40 af2) (K11 : h (o + 30) = arI κ 6 af3) (K12 : h (o + 31) = arR κ 1 6 ac1) (K13 : h (o + 32) = arR κ 2 2 at1) (K14 : h (o + 55) = some (.inr (6, [.ref (o + 55 + 1), .int rs1, .int bt1]))) (K15 : h (o + 56) = arI κ 40 g1) (K16 : h (o + 57) = some (.inr (6, [.ref (o + 57 + 1), .int rs2, .int bt2]))) (K17 : h (o + 58) = arI κ 40 g2) (K18 : h (o + 61) = arI κ 6 fo) (q1 : d 1 = nI len) (q2 : 1 ≤ len) (q3 : len ≤ 40) (q4 : d 11 = nI nc) (q5 : nc ≤ 6) (hTs : TsO κ (o + 76) h ts (Tx d) tx) (hCs : CsO (o + 76) h cs d nc) (hCA : CsA (o + 76) h cs) (hS : wfS d) (hC : wfC d) : Con κ l yX11_pace cX11_pace 3 (some .int) 14 0 0 [.ref o, .int v] h n (fun q h' n' => ∃ x1' : Int32, ∃ x2' : Int32, ∃ x3' : Int32, ∃ x4' : Int32, ∃ x5' : Int32, ∃ x6' : Int32, ∃ x7' : Int32, ∃ x8' : Int32, ∃ af1' : Nat → Int32, ∃ af2' : Nat → Int32, ∃ af3' : Nat → Int32, ∃ ac1' : Nat → Option Nat, ∃ at1' : Nat → Option Nat, ∃ rs1' : Int32, ∃ g1' : Nat → Int32, ∃ rs2' : Int32, ∃ g2' : Nat → Int32, q = some (.int (ansOf (opPace (Tx d) tx d v))) ∧ n' = n ∧ (∀ zq : Nat, zq < (o + 76) → zq ≠ (o + 27) → zq ≠ (o + 28) → zq ≠ (o + 29) → zq ≠ (o + 30) → zq ≠ (o + 31) → zq ≠ (o + 32) → zq ≠ (o + 55) → zq ≠ (o + 56) → zq ≠ (o + 57) → zq ≠ (o + 58) → zq ≠ (o + 61) → h' zq = h zq) ∧ Zr κ (o + 76) h h' ∧ h' (o + 27) = some (.inr (2, [.ref (o + 28), .ref (o + 29), .ref (o + 30), .ref (o + 31), .ref (o + 32), .int x1', .int x2', .int x3', .int x4', .int x5', .int x6', .int x7', .int x8'])) ∧ h' (o + 28) = arI κ 40 af1' ∧ h' (o + 29) = arI κ 40 af2' ∧ h' (o + 30) = arI κ 6 af3' ∧ h' (o + 31) = arR κ 1 6 ac1' ∧ h' (o + 32) = arR κ 2 2 at1' ∧ h' (o + 55) = some (.inr (6, [.ref (o + 55 + 1), .int rs1', .int bt1])) ∧ h' (o + 56) = arI κ 40 g1' ∧ h' (o + 57) = some (.inr (6, [.ref (o + 57 + 1), .int rs2', .int bt2])) ∧ h' (o + 58) = arI κ 40 g2' ∧ h' (o + 61) = arI κ 6 (bump (opPace (Tx d) tx d v) fo)) := by
  refine Con.of mk_X11_pace (Nat.le_of_ble_eq_true rfl) (fun G hG X E => ?_)
  subst hG
  refine z_ls (ls' := [(0, .ref o), (1, .int v)]) rfl ?_
  have hOk : lnOk d := lnOk_of q1 q2 q3
  refine z_iload_n X 1 dX11_pace_0 rfl ?_
  refine z_callS X (c_isAhead (κ := κ) (n := n) (v := (v))  ) mk_X11_isAhead dX11_pace_1 wd_658 wd_659 rfl rfl (Nat.le_of_ble_eq_true rfl) (Nat.le_of_ble_eq_true rfl) (Nat.le_of_ble_eq_true rfl) (by omega) (by omega) (fun q zh1 zm3 zp4 => ?_)
  obtain ⟨rfl, ze2, zn5⟩ := zp4
  subst zm3
  subst zh1
  refine z_st (st' := [.int (b2i (0 ≤ (v : Int32).toInt ∧ (v : Int32).toInt ≤ 60))]) rfl ?_
  refine z_if_ne X 13 dX11_pace_4 (by decide) (fun zc6 => ?_) (fun zc6 => ?_)
  · replace zc6 := b2i_t zc6
    obtain ⟨vk, hvk, rfl⟩ := ix_of (c := v) (len := 61) (by omega) (by omega)
    refine z_aload_n X 0 dX11_pace_13 rfl ?_
    refine z_get X fl_X11_10_11 dX11_pace_14 K0 rfl ?_
    refine z_get X fl_X11_56_3 dX11_pace_17 K1 rfl ?_
    refine z_aload_n X 0 dX11_pace_20 rfl ?_
    refine z_get X fl_X11_38_11 dX11_pace_21 K0 rfl ?_
    refine z_callV X (c_ringsInto (κ := κ) (n := n) (i := (o + 1 + 1)) (len := (len)) (m := (d)) (now := (d 0)) (dd := (d 2)) (dr := (d 3)) (cc := (nI nc)) (on := (d 10)) (cold := (cold)) (wind := (wind)) (r := (o + 55)) (rs := (rs1)) (bt := (bt1)) (g := (g1)) K2 K3 K14 K15 (q3) (by omega)) mk_X2_ringsInto dX11_pace_24 wd_643 wd_644 wd_645 rfl K2 rfl rfl rfl (Nat.le_of_ble_eq_true rfl) (Nat.le_of_ble_eq_true rfl) (Nat.le_of_ble_eq_true rfl) (by omega) (by omega) (fun q zh8 zm10 zp11 => ?_)
    obtain ⟨g'7, rfl, ze9, zn13, zf12⟩ := zp11
    subst zm10
    refine z_st (st' := [.int (nI (rn d len len))]) rfl ?_
    have zK14 : zh8 o = some (.inr (11, [.ref (o + 1), .ref (o + 14), .ref (o + 27), .ref (o + 33), .ref (o + 42), .ref (o + 55), .ref (o + 57), .ref (o + 59), .ref (o + 61), .int im])) := by rw [ze9]; rw [va_up_ne _ _ (show o ≠ o + 56 by omega)]; rw [va_up_ne _ _ (show o ≠ o + 55 by omega)]; exact K0
    have zK15 : zh8 (o + 1) = some (.inr (3, [.ref (o + 1 + 1), .ref (o + 1 + 7), .ref (o + 1 + 9), .ref (o + 1 + 11), .int (d 13)])) := by rw [ze9]; rw [va_up_ne _ _ (show o + 1 ≠ o + 56 by omega)]; rw [va_up_ne _ _ (show o + 1 ≠ o + 55 by omega)]; exact K1
    have zK16 : zh8 (o + 2) = some (.inr (2, [.ref (o + 3), .ref (o + 4), .ref (o + 5), .ref (o + 6), .ref (o + 7), .int (nI len), .int (d 0), .int (d 2), .int (d 3), .int (nI nc), .int (d 10), .int cold, .int wind])) := by rw [ze9]; rw [va_up_ne _ _ (show o + 2 ≠ o + 56 by omega)]; rw [va_up_ne _ _ (show o + 2 ≠ o + 55 by omega)]; exact K2
    have zK17 : zh8 (o + 3) = arI κ 40 (win 100 40 d) := by rw [ze9]; rw [va_up_ne _ _ (show o + 3 ≠ o + 56 by omega)]; rw [va_up_ne _ _ (show o + 3 ≠ o + 55 by omega)]; exact K3
    have zK18 : zh8 (o + 4) = arI κ 40 (win 140 40 d) := by rw [ze9]; rw [va_up_ne _ _ (show o + 4 ≠ o + 56 by omega)]; rw [va_up_ne _ _ (show o + 4 ≠ o + 55 by omega)]; exact K4
    have zK19 : zh8 (o + 5) = arI κ 6 (win 4 6 d) := by rw [ze9]; rw [va_up_ne _ _ (show o + 5 ≠ o + 56 by omega)]; rw [va_up_ne _ _ (show o + 5 ≠ o + 55 by omega)]; exact K5
    have zK20 : zh8 (o + 6) = arR κ 1 6 cs := by rw [ze9]; rw [va_up_ne _ _ (show o + 6 ≠ o + 56 by omega)]; rw [va_up_ne _ _ (show o + 6 ≠ o + 55 by omega)]; exact K6
    have zK21 : zh8 (o + 7) = arR κ 2 2 ts := by rw [ze9]; rw [va_up_ne _ _ (show o + 7 ≠ o + 56 by omega)]; rw [va_up_ne _ _ (show o + 7 ≠ o + 55 by omega)]; exact K7
    have zK22 : zh8 (o + 27) = some (.inr (2, [.ref (o + 28), .ref (o + 29), .ref (o + 30), .ref (o + 31), .ref (o + 32), .int alen, .int anow, .int add, .int adr, .int acc, .int aon, .int acold, .int awind])) := by rw [ze9]; rw [va_up_ne _ _ (show o + 27 ≠ o + 56 by omega)]; rw [va_up_ne _ _ (show o + 27 ≠ o + 55 by omega)]; exact K8
    have zK23 : zh8 (o + 28) = arI κ 40 af1 := by rw [ze9]; rw [va_up_ne _ _ (show o + 28 ≠ o + 56 by omega)]; rw [va_up_ne _ _ (show o + 28 ≠ o + 55 by omega)]; exact K9
    have zK24 : zh8 (o + 29) = arI κ 40 af2 := by rw [ze9]; rw [va_up_ne _ _ (show o + 29 ≠ o + 56 by omega)]; rw [va_up_ne _ _ (show o + 29 ≠ o + 55 by omega)]; exact K10
    have zK25 : zh8 (o + 30) = arI κ 6 af3 := by rw [ze9]; rw [va_up_ne _ _ (show o + 30 ≠ o + 56 by omega)]; rw [va_up_ne _ _ (show o + 30 ≠ o + 55 by omega)]; exact K11
    have zK26 : zh8 (o + 31) = arR κ 1 6 ac1 := by rw [ze9]; rw [va_up_ne _ _ (show o + 31 ≠ o + 56 by omega)]; rw [va_up_ne _ _ (show o + 31 ≠ o + 55 by omega)]; exact K12
    have zK27 : zh8 (o + 32) = arR κ 2 2 at1 := by rw [ze9]; rw [va_up_ne _ _ (show o + 32 ≠ o + 56 by omega)]; rw [va_up_ne _ _ (show o + 32 ≠ o + 55 by omega)]; exact K13
    have zK28 : zh8 (o + 55) = some (.inr (6, [.ref ((o + 55) + 1), .int (nI (rn d len len)), .int bt1])) := by rw [ze9]; rw [va_up_ne _ _ (show o + 55 ≠ o + 56 by omega)]; exact va_up_self _ _ _
    have zK29 : zh8 (o + 56) = arI κ 40 g'7 := by rw [ze9]; exact va_up_self _ _ _
    have zK30 : zh8 (o + 57) = some (.inr (6, [.ref (o + 57 + 1), .int rs2, .int bt2])) := by rw [ze9]; rw [va_up_ne _ _ (show o + 57 ≠ o + 56 by omega)]; rw [va_up_ne _ _ (show o + 57 ≠ o + 55 by omega)]; exact K16
    have zK31 : zh8 (o + 58) = arI κ 40 g2 := by rw [ze9]; rw [va_up_ne _ _ (show o + 58 ≠ o + 56 by omega)]; rw [va_up_ne _ _ (show o + 58 ≠ o + 55 by omega)]; exact K17
    have zK32 : zh8 (o + 61) = arI κ 6 fo := by rw [ze9]; rw [va_up_ne _ _ (show o + 61 ≠ o + 56 by omega)]; rw [va_up_ne _ _ (show o + 61 ≠ o + 55 by omega)]; exact K18
    have zl33 : ∀ zq : Nat, zq < (o + 76) → zq ≠ (o + 55) → zq ≠ (o + 56) → zh8 zq = h zq := by intro zq hzq zn0 zn1; rw [ze9, va_up_ne _ _ (show zq ≠ o + 56 by omega), va_up_ne _ _ (show zq ≠ o + 55 by omega)]; try rfl
    have zr34 : Zr κ (o + 76) h zh8 := (Zr.refl).trans (Zr.same (fun zq h1 => by rw [ze9, va_up_ne _ _ (show zq ≠ o + 56 by omega), va_up_ne _ _ (show zq ≠ o + 55 by omega)]))
    have hrgd : rgOk g'7 (rl d (lnO d) (lnO d)) := by rw [lnO_of q1 q3]; exact zf12
    have hrd := rn_le d len len
    refine z_istore_n (ls' := [(2, .int (nI (rn d len len))), (0, .ref o), (1, .int (nI vk))]) X dX11_pace_27 (by decide) rfl ?_
    refine z_aload_n X 1 dX11_pace_28 rfl ?_
    refine z_iload_n X 2 dX11_pace_29 rfl ?_
    refine z_callV X (c_goAhead (κ := κ) (n := n) (o := (o)) (im := (im)) (d := (d)) (len := (len)) (nc := (nc)) (cold := (cold)) (wind := (wind)) (cs := (cs)) (ts := (ts)) (alen := (alen)) (anow := (anow)) (add := (add)) (adr := (adr)) (acc := (acc)) (aon := (aon)) (acold := (acold)) (awind := (awind)) (af1 := (af1)) (af2 := (af2)) (af3 := (af3)) (ac1 := (ac1)) (at1 := (at1)) (tx := (tx)) (v := (vk)) zK14 zK15 zK16 zK17 zK18 zK19 zK20 zK21 zK22 zK23 zK24 zK25 zK26 zK27 (by first | assumption | omega) (by first | assumption | omega) (by first | assumption | omega) (by first | assumption | omega) (by first | assumption | omega) (TsO.mono zr34 hTs) (CsO.mono zr34 hCs) (CsA.mono zr34 hCA) (hS) (hC) (by first | assumption | omega)) mk_X11_goAhead dX11_pace_30 wd_661 wd_663 wd_19 rfl zK14 rfl rfl rfl (Nat.le_of_ble_eq_true rfl) (Nat.le_of_ble_eq_true rfl) (Nat.le_of_ble_eq_true rfl) (by omega) (by omega) (fun q zh37 zm39 zp40 => ?_)
    obtain ⟨cold'35, wind'36, rfl, zn41, zf42, zr43, zK44, zK45, zK46, zK47, zK48, zK49⟩ := zp40
    subst zm39
    refine z_st (st' := []) rfl ?_
    have zK50 : zh37 o = some (.inr (11, [.ref (o + 1), .ref (o + 14), .ref (o + 27), .ref (o + 33), .ref (o + 42), .ref (o + 55), .ref (o + 57), .ref (o + 59), .ref (o + 61), .int im])) := (zf42 o (by omega) (by omega) (by omega) (by omega) (by omega) (by omega) (by omega)).trans zK14
    have zK51 : zh37 (o + 1) = some (.inr (3, [.ref (o + 1 + 1), .ref (o + 1 + 7), .ref (o + 1 + 9), .ref (o + 1 + 11), .int (d 13)])) := (zf42 (o + 1) (by omega) (by omega) (by omega) (by omega) (by omega) (by omega) (by omega)).trans zK15
    have zK52 : zh37 (o + 2) = some (.inr (2, [.ref (o + 3), .ref (o + 4), .ref (o + 5), .ref (o + 6), .ref (o + 7), .int (nI len), .int (d 0), .int (d 2), .int (d 3), .int (nI nc), .int (d 10), .int cold, .int wind])) := (zf42 (o + 2) (by omega) (by omega) (by omega) (by omega) (by omega) (by omega) (by omega)).trans zK16
    have zK53 : zh37 (o + 3) = arI κ 40 (win 100 40 d) := (zf42 (o + 3) (by omega) (by omega) (by omega) (by omega) (by omega) (by omega) (by omega)).trans zK17
    have zK54 : zh37 (o + 4) = arI κ 40 (win 140 40 d) := (zf42 (o + 4) (by omega) (by omega) (by omega) (by omega) (by omega) (by omega) (by omega)).trans zK18
    have zK55 : zh37 (o + 5) = arI κ 6 (win 4 6 d) := (zf42 (o + 5) (by omega) (by omega) (by omega) (by omega) (by omega) (by omega) (by omega)).trans zK19
    have zK56 : zh37 (o + 6) = arR κ 1 6 cs := (zf42 (o + 6) (by omega) (by omega) (by omega) (by omega) (by omega) (by omega) (by omega)).trans zK20
    have zK57 : zh37 (o + 7) = arR κ 2 2 ts := (zf42 (o + 7) (by omega) (by omega) (by omega) (by omega) (by omega) (by omega) (by omega)).trans zK21
    have zK58 : zh37 (o + 55) = some (.inr (6, [.ref ((o + 55) + 1), .int (nI (rn d len len)), .int bt1])) := (zf42 (o + 55) (by omega) (by omega) (by omega) (by omega) (by omega) (by omega) (by omega)).trans zK28
    have zK59 : zh37 (o + 56) = arI κ 40 g'7 := (zf42 (o + 56) (by omega) (by omega) (by omega) (by omega) (by omega) (by omega) (by omega)).trans zK29
    have zK60 : zh37 (o + 57) = some (.inr (6, [.ref (o + 57 + 1), .int rs2, .int bt2])) := (zf42 (o + 57) (by omega) (by omega) (by omega) (by omega) (by omega) (by omega) (by omega)).trans zK30
    have zK61 : zh37 (o + 58) = arI κ 40 g2 := (zf42 (o + 58) (by omega) (by omega) (by omega) (by omega) (by omega) (by omega) (by omega)).trans zK31
    have zK62 : zh37 (o + 61) = arI κ 6 fo := (zf42 (o + 61) (by omega) (by omega) (by omega) (by omega) (by omega) (by omega) (by omega)).trans zK32
    have zl63 : ∀ zq : Nat, zq < (o + 76) → zq ≠ (o + 55) → zq ≠ (o + 56) → zq ≠ (o + 27) → zq ≠ (o + 28) → zq ≠ (o + 29) → zq ≠ (o + 30) → zq ≠ (o + 31) → zq ≠ (o + 32) → zh37 zq = h zq := by intro zq hzq zn0 zn1 zn2 zn3 zn4 zn5 zn6 zn7; rw [zf42 zq (by omega) (by omega) (by omega) (by omega) (by omega) (by omega) (by omega)]; exact zl33 zq hzq zn0 zn1
    have zr64 : Zr κ (o + 76) h zh37 := (zr34).trans zr43
    have hEl : lnO (gbyN (Tx d) tx vk d) ≤ 40 := (gbyN_ok (T := Tx d) (tx := tx) hOk vk).2.2
    have hEl1 : 1 ≤ lnO (gbyN (Tx d) tx vk d) := (gbyN_ok (T := Tx d) (tx := tx) hOk vk).2.1
    refine z_iload_n X 0 dX11_pace_33 rfl ?_
    refine z_if_eq X 52 dX11_pace_34 (by decide) (fun zc65 => ?_) (fun zc65 => ?_)
    · try replace zc65 := (nI_eq (a := rn d len len) (b := 0) (by omega) (by omega)).mp zc65
      refine z_aload_n X 1 dX11_pace_52 rfl ?_
      refine z_iconst (v := 2) X dX11_pace_53 (by decide) ?_
      refine z_callV X (c_fail (κ := κ) (n := n) (o := (o)) (im := (im)) (fo := (fo)) (k := (2)) zK50 zK62 (by first | assumption | omega) (by first | assumption | omega)) mk_X11_fail dX11_pace_54 wd_260 wd_262 wd_0 rfl zK50 rfl rfl rfl (Nat.le_of_ble_eq_true rfl) (Nat.le_of_ble_eq_true rfl) (Nat.le_of_ble_eq_true rfl) (by omega) (by omega) (fun q zh66 zm68 zp69 => ?_)
      obtain ⟨rfl, ze67, zn70⟩ := zp69
      subst zm68
      refine z_st (st' := [.int (lowE 2)]) rfl ?_
      have zK71 : zh66 o = some (.inr (11, [.ref (o + 1), .ref (o + 14), .ref (o + 27), .ref (o + 33), .ref (o + 42), .ref (o + 55), .ref (o + 57), .ref (o + 59), .ref (o + 61), .int im])) := by rw [ze67]; rw [va_up_ne _ _ (show o ≠ o + 61 by omega)]; exact zK50
      have zK72 : zh66 (o + 1) = some (.inr (3, [.ref (o + 1 + 1), .ref (o + 1 + 7), .ref (o + 1 + 9), .ref (o + 1 + 11), .int (d 13)])) := by rw [ze67]; rw [va_up_ne _ _ (show o + 1 ≠ o + 61 by omega)]; exact zK51
      have zK73 : zh66 (o + 2) = some (.inr (2, [.ref (o + 3), .ref (o + 4), .ref (o + 5), .ref (o + 6), .ref (o + 7), .int (nI len), .int (d 0), .int (d 2), .int (d 3), .int (nI nc), .int (d 10), .int cold, .int wind])) := by rw [ze67]; rw [va_up_ne _ _ (show o + 2 ≠ o + 61 by omega)]; exact zK52
      have zK74 : zh66 (o + 3) = arI κ 40 (win 100 40 d) := by rw [ze67]; rw [va_up_ne _ _ (show o + 3 ≠ o + 61 by omega)]; exact zK53
      have zK75 : zh66 (o + 4) = arI κ 40 (win 140 40 d) := by rw [ze67]; rw [va_up_ne _ _ (show o + 4 ≠ o + 61 by omega)]; exact zK54
      have zK76 : zh66 (o + 5) = arI κ 6 (win 4 6 d) := by rw [ze67]; rw [va_up_ne _ _ (show o + 5 ≠ o + 61 by omega)]; exact zK55
      have zK77 : zh66 (o + 6) = arR κ 1 6 cs := by rw [ze67]; rw [va_up_ne _ _ (show o + 6 ≠ o + 61 by omega)]; exact zK56
      have zK78 : zh66 (o + 7) = arR κ 2 2 ts := by rw [ze67]; rw [va_up_ne _ _ (show o + 7 ≠ o + 61 by omega)]; exact zK57
      have zK79 : zh66 (o + 55) = some (.inr (6, [.ref ((o + 55) + 1), .int (nI (rn d len len)), .int bt1])) := by rw [ze67]; rw [va_up_ne _ _ (show o + 55 ≠ o + 61 by omega)]; exact zK58
      have zK80 : zh66 (o + 56) = arI κ 40 g'7 := by rw [ze67]; rw [va_up_ne _ _ (show o + 56 ≠ o + 61 by omega)]; exact zK59
      have zK81 : zh66 (o + 57) = some (.inr (6, [.ref (o + 57 + 1), .int rs2, .int bt2])) := by rw [ze67]; rw [va_up_ne _ _ (show o + 57 ≠ o + 61 by omega)]; exact zK60
      have zK82 : zh66 (o + 58) = arI κ 40 g2 := by rw [ze67]; rw [va_up_ne _ _ (show o + 58 ≠ o + 61 by omega)]; exact zK61
      have zK83 : zh66 (o + 61) = arI κ 6 (bmp fo 2) := by rw [ze67]; exact va_up_self _ _ _
      have zK84 : zh66 (o + 27) = some (.inr (2, [.ref (o + 28), .ref (o + 29), .ref (o + 30), .ref (o + 31), .ref (o + 32), .int (nI (lnO (gbyN (Tx d) tx vk d))), .int ((gbyN (Tx d) tx vk d) 0), .int ((gbyN (Tx d) tx vk d) 2), .int ((gbyN (Tx d) tx vk d) 3), .int (nI nc), .int (d 10), .int cold'35, .int wind'36])) := by rw [ze67]; rw [va_up_ne _ _ (show o + 27 ≠ o + 61 by omega)]; exact zK44
      have zK85 : zh66 (o + 28) = arI κ 40 (win 100 40 (gbyN (Tx d) tx vk d)) := by rw [ze67]; rw [va_up_ne _ _ (show o + 28 ≠ o + 61 by omega)]; exact zK45
      have zK86 : zh66 (o + 29) = arI κ 40 (win 140 40 (gbyN (Tx d) tx vk d)) := by rw [ze67]; rw [va_up_ne _ _ (show o + 29 ≠ o + 61 by omega)]; exact zK46
      have zK87 : zh66 (o + 30) = arI κ 6 (win 4 6 d) := by rw [ze67]; rw [va_up_ne _ _ (show o + 30 ≠ o + 61 by omega)]; exact zK47
      have zK88 : zh66 (o + 31) = arR κ 1 6 cs := by rw [ze67]; rw [va_up_ne _ _ (show o + 31 ≠ o + 61 by omega)]; exact zK48
      have zK89 : zh66 (o + 32) = arR κ 2 2 ts := by rw [ze67]; rw [va_up_ne _ _ (show o + 32 ≠ o + 61 by omega)]; exact zK49
      have zl90 : ∀ zq : Nat, zq < (o + 76) → zq ≠ (o + 55) → zq ≠ (o + 56) → zq ≠ (o + 27) → zq ≠ (o + 28) → zq ≠ (o + 29) → zq ≠ (o + 30) → zq ≠ (o + 31) → zq ≠ (o + 32) → zq ≠ (o + 61) → zh66 zq = h zq := by intro zq hzq zn0 zn1 zn2 zn3 zn4 zn5 zn6 zn7 zn8; rw [ze67, va_up_ne _ _ (show zq ≠ o + 61 by omega)]; exact zl63 zq hzq zn0 zn1 zn2 zn3 zn4 zn5 zn6 zn7
      have zr91 : Zr κ (o + 76) h zh66 := (zr64).trans (Zr.same (fun zq h1 => by rw [ze67, va_up_ne _ _ (show zq ≠ o + 61 by omega)]))
      have hrE : rnE d = rn d len len := by (unfold rnE; rw [lnO_of q1 q3])
      refine z_iret X E dX11_pace_57 (by omega) (by omega) ⟨(nI (lnO (gbyN (Tx d) tx vk d))), ((gbyN (Tx d) tx vk d) 0), ((gbyN (Tx d) tx vk d) 2), ((gbyN (Tx d) tx vk d) 3), (nI nc), (d 10), cold'35, wind'36, (win 100 40 (gbyN (Tx d) tx vk d)), (win 140 40 (gbyN (Tx d) tx vk d)), (win 4 6 d), cs, ts, (nI (rn d len len)), g'7, rs2, g2, ?_, ?_, ?_, ?_, ?_, ?_, ?_, ?_, ?_, ?_, ?_, ?_, ?_, ?_, ?_⟩
      · rw [(show opPace (Tx d) tx d (nI vk) = (2, 0) from opPace_2 (by omega) (by (rw [hrE]; first | exact Or.inl (by omega) | exact Or.inr (by unfold rnE; omega))))]; first | exact congrArg (fun z => some (Value.int z)) (ansOf_0 _).symm | rfl
      · rfl
      · exact fun zq hzq zn0 zn1 zn2 zn3 zn4 zn5 zn6 zn7 zn8 zn9 zn10 => zl90 zq hzq zn6 zn7 zn0 zn1 zn2 zn3 zn4 zn5 zn10
      · exact zr91
      · exact zK84
      · exact zK85
      · exact zK86
      · exact zK87
      · exact zK88
      · exact zK89
      · exact zK79
      · exact zK80
      · exact zK81
      · exact zK82
      · rw [(show opPace (Tx d) tx d (nI vk) = (2, 0) from opPace_2 (by omega) (by (rw [hrE]; first | exact Or.inl (by omega) | exact Or.inr (by unfold rnE; omega))))]; first | (rw [bump_0]; exact zK83) | exact zK83
    · try replace zc65 := mt (nI_eq (a := rn d len len) (b := 0) (by omega) (by omega)).mpr zc65
      refine z_aload_n X 1 dX11_pace_37 rfl ?_
      refine z_get X fl_X11_22_11 dX11_pace_38 zK50 rfl ?_
      refine z_aload_n X 1 dX11_pace_41 rfl ?_
      refine z_get X fl_X11_42_11 dX11_pace_42 zK50 rfl ?_
      refine z_callV X (c_ringsInto (κ := κ) (n := n) (i := (o + 27)) (len := (lnO (gbyN (Tx d) tx vk d))) (m := (gbyN (Tx d) tx vk d)) (now := ((gbyN (Tx d) tx vk d) 0)) (dd := ((gbyN (Tx d) tx vk d) 2)) (dr := ((gbyN (Tx d) tx vk d) 3)) (cc := (nI nc)) (on := (d 10)) (cold := (cold'35)) (wind := (wind'36)) (r := (o + 57)) (rs := (rs2)) (bt := (bt2)) (g := (g2)) zK44 zK45 zK60 zK61 ((gbyN_ok (T := Tx d) (tx := tx) hOk vk).2.2) (by omega)) mk_X2_ringsInto dX11_pace_45 wd_643 wd_644 wd_645 rfl zK44 rfl rfl rfl (Nat.le_of_ble_eq_true rfl) (Nat.le_of_ble_eq_true rfl) (Nat.le_of_ble_eq_true rfl) (by omega) (by omega) (fun q zh93 zm95 zp96 => ?_)
      obtain ⟨g'92, rfl, ze94, zn98, zf97⟩ := zp96
      subst zm95
      refine z_st (st' := [.int (nI (rn (gbyN (Tx d) tx vk d) (lnO (gbyN (Tx d) tx vk d)) (lnO (gbyN (Tx d) tx vk d))))]) rfl ?_
      have zK99 : zh93 o = some (.inr (11, [.ref (o + 1), .ref (o + 14), .ref (o + 27), .ref (o + 33), .ref (o + 42), .ref (o + 55), .ref (o + 57), .ref (o + 59), .ref (o + 61), .int im])) := by rw [ze94]; rw [va_up_ne _ _ (show o ≠ o + 58 by omega)]; rw [va_up_ne _ _ (show o ≠ o + 57 by omega)]; exact zK50
      have zK100 : zh93 (o + 1) = some (.inr (3, [.ref (o + 1 + 1), .ref (o + 1 + 7), .ref (o + 1 + 9), .ref (o + 1 + 11), .int (d 13)])) := by rw [ze94]; rw [va_up_ne _ _ (show o + 1 ≠ o + 58 by omega)]; rw [va_up_ne _ _ (show o + 1 ≠ o + 57 by omega)]; exact zK51
      have zK101 : zh93 (o + 2) = some (.inr (2, [.ref (o + 3), .ref (o + 4), .ref (o + 5), .ref (o + 6), .ref (o + 7), .int (nI len), .int (d 0), .int (d 2), .int (d 3), .int (nI nc), .int (d 10), .int cold, .int wind])) := by rw [ze94]; rw [va_up_ne _ _ (show o + 2 ≠ o + 58 by omega)]; rw [va_up_ne _ _ (show o + 2 ≠ o + 57 by omega)]; exact zK52
      have zK102 : zh93 (o + 3) = arI κ 40 (win 100 40 d) := by rw [ze94]; rw [va_up_ne _ _ (show o + 3 ≠ o + 58 by omega)]; rw [va_up_ne _ _ (show o + 3 ≠ o + 57 by omega)]; exact zK53
      have zK103 : zh93 (o + 4) = arI κ 40 (win 140 40 d) := by rw [ze94]; rw [va_up_ne _ _ (show o + 4 ≠ o + 58 by omega)]; rw [va_up_ne _ _ (show o + 4 ≠ o + 57 by omega)]; exact zK54
      have zK104 : zh93 (o + 5) = arI κ 6 (win 4 6 d) := by rw [ze94]; rw [va_up_ne _ _ (show o + 5 ≠ o + 58 by omega)]; rw [va_up_ne _ _ (show o + 5 ≠ o + 57 by omega)]; exact zK55
      have zK105 : zh93 (o + 6) = arR κ 1 6 cs := by rw [ze94]; rw [va_up_ne _ _ (show o + 6 ≠ o + 58 by omega)]; rw [va_up_ne _ _ (show o + 6 ≠ o + 57 by omega)]; exact zK56
      have zK106 : zh93 (o + 7) = arR κ 2 2 ts := by rw [ze94]; rw [va_up_ne _ _ (show o + 7 ≠ o + 58 by omega)]; rw [va_up_ne _ _ (show o + 7 ≠ o + 57 by omega)]; exact zK57
      have zK107 : zh93 (o + 55) = some (.inr (6, [.ref ((o + 55) + 1), .int (nI (rn d len len)), .int bt1])) := by rw [ze94]; rw [va_up_ne _ _ (show o + 55 ≠ o + 58 by omega)]; rw [va_up_ne _ _ (show o + 55 ≠ o + 57 by omega)]; exact zK58
      have zK108 : zh93 (o + 56) = arI κ 40 g'7 := by rw [ze94]; rw [va_up_ne _ _ (show o + 56 ≠ o + 58 by omega)]; rw [va_up_ne _ _ (show o + 56 ≠ o + 57 by omega)]; exact zK59
      have zK109 : zh93 (o + 57) = some (.inr (6, [.ref ((o + 57) + 1), .int (nI (rn (gbyN (Tx d) tx vk d) (lnO (gbyN (Tx d) tx vk d)) (lnO (gbyN (Tx d) tx vk d)))), .int bt2])) := by rw [ze94]; rw [va_up_ne _ _ (show o + 57 ≠ o + 58 by omega)]; exact va_up_self _ _ _
      have zK110 : zh93 (o + 58) = arI κ 40 g'92 := by rw [ze94]; exact va_up_self _ _ _
      have zK111 : zh93 (o + 61) = arI κ 6 fo := by rw [ze94]; rw [va_up_ne _ _ (show o + 61 ≠ o + 58 by omega)]; rw [va_up_ne _ _ (show o + 61 ≠ o + 57 by omega)]; exact zK62
      have zK112 : zh93 (o + 27) = some (.inr (2, [.ref (o + 28), .ref (o + 29), .ref (o + 30), .ref (o + 31), .ref (o + 32), .int (nI (lnO (gbyN (Tx d) tx vk d))), .int ((gbyN (Tx d) tx vk d) 0), .int ((gbyN (Tx d) tx vk d) 2), .int ((gbyN (Tx d) tx vk d) 3), .int (nI nc), .int (d 10), .int cold'35, .int wind'36])) := by rw [ze94]; rw [va_up_ne _ _ (show o + 27 ≠ o + 58 by omega)]; rw [va_up_ne _ _ (show o + 27 ≠ o + 57 by omega)]; exact zK44
      have zK113 : zh93 (o + 28) = arI κ 40 (win 100 40 (gbyN (Tx d) tx vk d)) := by rw [ze94]; rw [va_up_ne _ _ (show o + 28 ≠ o + 58 by omega)]; rw [va_up_ne _ _ (show o + 28 ≠ o + 57 by omega)]; exact zK45
      have zK114 : zh93 (o + 29) = arI κ 40 (win 140 40 (gbyN (Tx d) tx vk d)) := by rw [ze94]; rw [va_up_ne _ _ (show o + 29 ≠ o + 58 by omega)]; rw [va_up_ne _ _ (show o + 29 ≠ o + 57 by omega)]; exact zK46
      have zK115 : zh93 (o + 30) = arI κ 6 (win 4 6 d) := by rw [ze94]; rw [va_up_ne _ _ (show o + 30 ≠ o + 58 by omega)]; rw [va_up_ne _ _ (show o + 30 ≠ o + 57 by omega)]; exact zK47
      have zK116 : zh93 (o + 31) = arR κ 1 6 cs := by rw [ze94]; rw [va_up_ne _ _ (show o + 31 ≠ o + 58 by omega)]; rw [va_up_ne _ _ (show o + 31 ≠ o + 57 by omega)]; exact zK48
      have zK117 : zh93 (o + 32) = arR κ 2 2 ts := by rw [ze94]; rw [va_up_ne _ _ (show o + 32 ≠ o + 58 by omega)]; rw [va_up_ne _ _ (show o + 32 ≠ o + 57 by omega)]; exact zK49
      have zl118 : ∀ zq : Nat, zq < (o + 76) → zq ≠ (o + 55) → zq ≠ (o + 56) → zq ≠ (o + 27) → zq ≠ (o + 28) → zq ≠ (o + 29) → zq ≠ (o + 30) → zq ≠ (o + 31) → zq ≠ (o + 32) → zq ≠ (o + 57) → zq ≠ (o + 58) → zh93 zq = h zq := by intro zq hzq zn0 zn1 zn2 zn3 zn4 zn5 zn6 zn7 zn8 zn9; rw [ze94, va_up_ne _ _ (show zq ≠ o + 58 by omega), va_up_ne _ _ (show zq ≠ o + 57 by omega)]; exact zl63 zq hzq zn0 zn1 zn2 zn3 zn4 zn5 zn6 zn7
      have zr119 : Zr κ (o + 76) h zh93 := (zr64).trans (Zr.same (fun zq h1 => by rw [ze94, va_up_ne _ _ (show zq ≠ o + 58 by omega), va_up_ne _ _ (show zq ≠ o + 57 by omega)]))
      have hrg := zf97
      have hrn := rn_le (gbyN (Tx d) tx vk d) (lnO (gbyN (Tx d) tx vk d)) (lnO (gbyN (Tx d) tx vk d))
      have hrnq : lnO (gbyN (Tx d) tx vk d) ≤ 40 := (gbyN_ok (T := Tx d) (tx := tx) hOk vk).2.2
      refine z_iload_n X 0 dX11_pace_48 rfl ?_
      refine z_icmp_eq X 58 dX11_pace_49 (by decide) (fun zc120 => ?_) (fun zc120 => ?_)
      · try replace zc120 := (nI_eq (a := rn (gbyN (Tx d) tx vk d) (lnO (gbyN (Tx d) tx vk d)) (lnO (gbyN (Tx d) tx vk d))) (b := rn d len len) (by omega) (by omega)).mp zc120
        refine z_aload_n X 1 dX11_pace_58 rfl ?_
        refine z_get X fl_X11_42_11 dX11_pace_59 zK99 rfl ?_
        refine z_callV X (c_Row_sum (κ := κ) (n := n) (r := (o + 57)) (k := (rn (gbyN (Tx d) tx vk d) (lnO (gbyN (Tx d) tx vk d)) (lnO (gbyN (Tx d) tx vk d)))) (bt := (bt2)) (N := (40)) (f := (g'92)) zK109 zK110 (by omega) (by first | assumption | omega)) mk_X6_sum dX11_pace_62 wd_678 wd_679 wd_680 rfl zK109 rfl rfl rfl (Nat.le_of_ble_eq_true rfl) (Nat.le_of_ble_eq_true rfl) (Nat.le_of_ble_eq_true rfl) (by omega) (by omega) (fun q zh121 zm123 zp124 => ?_)
        obtain ⟨rfl, ze122, zn125⟩ := zp124
        subst zm123
        subst zh121
        refine z_st (st' := [.int (sumN g'92 (rn (gbyN (Tx d) tx vk d) (lnO (gbyN (Tx d) tx vk d)) (lnO (gbyN (Tx d) tx vk d))))]) rfl ?_
        refine z_toe (y := ringSum (gbyN (Tx d) tx vk d)) (rings_sum hrg) ?_
        refine z_aload_n X 1 dX11_pace_65 rfl ?_
        refine z_get X fl_X11_38_11 dX11_pace_66 zK99 rfl ?_
        refine z_callV X (c_Row_sum (κ := κ) (n := n) (r := (o + 55)) (k := (rn d len len)) (bt := (bt1)) (N := (40)) (f := (g'7)) zK107 zK108 (by omega) (by first | assumption | omega)) mk_X6_sum dX11_pace_69 wd_678 wd_679 wd_680 rfl zK107 rfl rfl rfl (Nat.le_of_ble_eq_true rfl) (Nat.le_of_ble_eq_true rfl) (Nat.le_of_ble_eq_true rfl) (by omega) (by omega) (fun q zh126 zm128 zp129 => ?_)
        obtain ⟨rfl, ze127, zn130⟩ := zp129
        subst zm128
        subst zh126
        refine z_st (st' := [.int (sumN g'7 (rn d len len)), .int (ringSum (gbyN (Tx d) tx vk d))]) rfl ?_
        refine z_toe (y := ringSum d) (by rw [show rn d len len = rn d (lnO d) (lnO d) by rw [lnO_of q1 q3]]; exact rings_sum hrgd) ?_
        refine z_isub X dX11_pace_72 ?_
        have hrE : rnE d = rn d len len := by (unfold rnE; rw [lnO_of q1 q3])
        refine z_iret X E dX11_pace_73 (by omega) (by omega) ⟨(nI (lnO (gbyN (Tx d) tx vk d))), ((gbyN (Tx d) tx vk d) 0), ((gbyN (Tx d) tx vk d) 2), ((gbyN (Tx d) tx vk d) 3), (nI nc), (d 10), cold'35, wind'36, (win 100 40 (gbyN (Tx d) tx vk d)), (win 140 40 (gbyN (Tx d) tx vk d)), (win 4 6 d), cs, ts, (nI (rn d len len)), g'7, (nI (rn (gbyN (Tx d) tx vk d) (lnO (gbyN (Tx d) tx vk d)) (lnO (gbyN (Tx d) tx vk d)))), g'92, ?_, ?_, ?_, ?_, ?_, ?_, ?_, ?_, ?_, ?_, ?_, ?_, ?_, ?_, ?_⟩
        · rw [(show opPace (Tx d) tx d (nI vk) = (0, ringSum (gbyN (Tx d) tx vk d) - ringSum d) from opPace_0 (by omega) (by rw [hrE]; omega) (by (rw [hrE]; unfold rnE; omega)))]; first | exact congrArg (fun z => some (Value.int z)) (ansOf_0 _).symm | rfl
        · rfl
        · exact fun zq hzq zn0 zn1 zn2 zn3 zn4 zn5 zn6 zn7 zn8 zn9 zn10 => zl118 zq hzq zn6 zn7 zn0 zn1 zn2 zn3 zn4 zn5 zn8 zn9
        · exact zr119
        · exact zK112
        · exact zK113
        · exact zK114
        · exact zK115
        · exact zK116
        · exact zK117
        · exact zK107
        · exact zK108
        · exact zK109
        · exact zK110
        · rw [(show opPace (Tx d) tx d (nI vk) = (0, ringSum (gbyN (Tx d) tx vk d) - ringSum d) from opPace_0 (by omega) (by rw [hrE]; omega) (by (rw [hrE]; unfold rnE; omega)))]; first | (rw [bump_0]; exact zK111) | exact zK111
      · try replace zc120 := mt (nI_eq (a := rn (gbyN (Tx d) tx vk d) (lnO (gbyN (Tx d) tx vk d)) (lnO (gbyN (Tx d) tx vk d))) (b := rn d len len) (by omega) (by omega)).mpr zc120
        refine z_aload_n X 1 dX11_pace_52 rfl ?_
        refine z_iconst (v := 2) X dX11_pace_53 (by decide) ?_
        refine z_callV X (c_fail (κ := κ) (n := n) (o := (o)) (im := (im)) (fo := (fo)) (k := (2)) zK99 zK111 (by first | assumption | omega) (by first | assumption | omega)) mk_X11_fail dX11_pace_54 wd_260 wd_262 wd_0 rfl zK99 rfl rfl rfl (Nat.le_of_ble_eq_true rfl) (Nat.le_of_ble_eq_true rfl) (Nat.le_of_ble_eq_true rfl) (by omega) (by omega) (fun q zh131 zm133 zp134 => ?_)
        obtain ⟨rfl, ze132, zn135⟩ := zp134
        subst zm133
        refine z_st (st' := [.int (lowE 2)]) rfl ?_
        have zK136 : zh131 o = some (.inr (11, [.ref (o + 1), .ref (o + 14), .ref (o + 27), .ref (o + 33), .ref (o + 42), .ref (o + 55), .ref (o + 57), .ref (o + 59), .ref (o + 61), .int im])) := by rw [ze132]; rw [va_up_ne _ _ (show o ≠ o + 61 by omega)]; exact zK99
        have zK137 : zh131 (o + 1) = some (.inr (3, [.ref (o + 1 + 1), .ref (o + 1 + 7), .ref (o + 1 + 9), .ref (o + 1 + 11), .int (d 13)])) := by rw [ze132]; rw [va_up_ne _ _ (show o + 1 ≠ o + 61 by omega)]; exact zK100
        have zK138 : zh131 (o + 2) = some (.inr (2, [.ref (o + 3), .ref (o + 4), .ref (o + 5), .ref (o + 6), .ref (o + 7), .int (nI len), .int (d 0), .int (d 2), .int (d 3), .int (nI nc), .int (d 10), .int cold, .int wind])) := by rw [ze132]; rw [va_up_ne _ _ (show o + 2 ≠ o + 61 by omega)]; exact zK101
        have zK139 : zh131 (o + 3) = arI κ 40 (win 100 40 d) := by rw [ze132]; rw [va_up_ne _ _ (show o + 3 ≠ o + 61 by omega)]; exact zK102
        have zK140 : zh131 (o + 4) = arI κ 40 (win 140 40 d) := by rw [ze132]; rw [va_up_ne _ _ (show o + 4 ≠ o + 61 by omega)]; exact zK103
        have zK141 : zh131 (o + 5) = arI κ 6 (win 4 6 d) := by rw [ze132]; rw [va_up_ne _ _ (show o + 5 ≠ o + 61 by omega)]; exact zK104
        have zK142 : zh131 (o + 6) = arR κ 1 6 cs := by rw [ze132]; rw [va_up_ne _ _ (show o + 6 ≠ o + 61 by omega)]; exact zK105
        have zK143 : zh131 (o + 7) = arR κ 2 2 ts := by rw [ze132]; rw [va_up_ne _ _ (show o + 7 ≠ o + 61 by omega)]; exact zK106
        have zK144 : zh131 (o + 55) = some (.inr (6, [.ref ((o + 55) + 1), .int (nI (rn d len len)), .int bt1])) := by rw [ze132]; rw [va_up_ne _ _ (show o + 55 ≠ o + 61 by omega)]; exact zK107
        have zK145 : zh131 (o + 56) = arI κ 40 g'7 := by rw [ze132]; rw [va_up_ne _ _ (show o + 56 ≠ o + 61 by omega)]; exact zK108
        have zK146 : zh131 (o + 57) = some (.inr (6, [.ref ((o + 57) + 1), .int (nI (rn (gbyN (Tx d) tx vk d) (lnO (gbyN (Tx d) tx vk d)) (lnO (gbyN (Tx d) tx vk d)))), .int bt2])) := by rw [ze132]; rw [va_up_ne _ _ (show o + 57 ≠ o + 61 by omega)]; exact zK109
        have zK147 : zh131 (o + 58) = arI κ 40 g'92 := by rw [ze132]; rw [va_up_ne _ _ (show o + 58 ≠ o + 61 by omega)]; exact zK110
        have zK148 : zh131 (o + 61) = arI κ 6 (bmp fo 2) := by rw [ze132]; exact va_up_self _ _ _
        have zK149 : zh131 (o + 27) = some (.inr (2, [.ref (o + 28), .ref (o + 29), .ref (o + 30), .ref (o + 31), .ref (o + 32), .int (nI (lnO (gbyN (Tx d) tx vk d))), .int ((gbyN (Tx d) tx vk d) 0), .int ((gbyN (Tx d) tx vk d) 2), .int ((gbyN (Tx d) tx vk d) 3), .int (nI nc), .int (d 10), .int cold'35, .int wind'36])) := by rw [ze132]; rw [va_up_ne _ _ (show o + 27 ≠ o + 61 by omega)]; exact zK112
        have zK150 : zh131 (o + 28) = arI κ 40 (win 100 40 (gbyN (Tx d) tx vk d)) := by rw [ze132]; rw [va_up_ne _ _ (show o + 28 ≠ o + 61 by omega)]; exact zK113
        have zK151 : zh131 (o + 29) = arI κ 40 (win 140 40 (gbyN (Tx d) tx vk d)) := by rw [ze132]; rw [va_up_ne _ _ (show o + 29 ≠ o + 61 by omega)]; exact zK114
        have zK152 : zh131 (o + 30) = arI κ 6 (win 4 6 d) := by rw [ze132]; rw [va_up_ne _ _ (show o + 30 ≠ o + 61 by omega)]; exact zK115
        have zK153 : zh131 (o + 31) = arR κ 1 6 cs := by rw [ze132]; rw [va_up_ne _ _ (show o + 31 ≠ o + 61 by omega)]; exact zK116
        have zK154 : zh131 (o + 32) = arR κ 2 2 ts := by rw [ze132]; rw [va_up_ne _ _ (show o + 32 ≠ o + 61 by omega)]; exact zK117
        have zl155 : ∀ zq : Nat, zq < (o + 76) → zq ≠ (o + 55) → zq ≠ (o + 56) → zq ≠ (o + 27) → zq ≠ (o + 28) → zq ≠ (o + 29) → zq ≠ (o + 30) → zq ≠ (o + 31) → zq ≠ (o + 32) → zq ≠ (o + 57) → zq ≠ (o + 58) → zq ≠ (o + 61) → zh131 zq = h zq := by intro zq hzq zn0 zn1 zn2 zn3 zn4 zn5 zn6 zn7 zn8 zn9 zn10; rw [ze132, va_up_ne _ _ (show zq ≠ o + 61 by omega)]; exact zl118 zq hzq zn0 zn1 zn2 zn3 zn4 zn5 zn6 zn7 zn8 zn9
        have zr156 : Zr κ (o + 76) h zh131 := (zr119).trans (Zr.same (fun zq h1 => by rw [ze132, va_up_ne _ _ (show zq ≠ o + 61 by omega)]))
        have hrE : rnE d = rn d len len := by (unfold rnE; rw [lnO_of q1 q3])
        refine z_iret X E dX11_pace_57 (by omega) (by omega) ⟨(nI (lnO (gbyN (Tx d) tx vk d))), ((gbyN (Tx d) tx vk d) 0), ((gbyN (Tx d) tx vk d) 2), ((gbyN (Tx d) tx vk d) 3), (nI nc), (d 10), cold'35, wind'36, (win 100 40 (gbyN (Tx d) tx vk d)), (win 140 40 (gbyN (Tx d) tx vk d)), (win 4 6 d), cs, ts, (nI (rn d len len)), g'7, (nI (rn (gbyN (Tx d) tx vk d) (lnO (gbyN (Tx d) tx vk d)) (lnO (gbyN (Tx d) tx vk d)))), g'92, ?_, ?_, ?_, ?_, ?_, ?_, ?_, ?_, ?_, ?_, ?_, ?_, ?_, ?_, ?_⟩
        · rw [(show opPace (Tx d) tx d (nI vk) = (2, 0) from opPace_2 (by omega) (by (rw [hrE]; first | exact Or.inl (by omega) | exact Or.inr (by unfold rnE; omega))))]; first | exact congrArg (fun z => some (Value.int z)) (ansOf_0 _).symm | rfl
        · rfl
        · exact fun zq hzq zn0 zn1 zn2 zn3 zn4 zn5 zn6 zn7 zn8 zn9 zn10 => zl155 zq hzq zn6 zn7 zn0 zn1 zn2 zn3 zn4 zn5 zn8 zn9 zn10
        · exact zr156
        · exact zK149
        · exact zK150
        · exact zK151
        · exact zK152
        · exact zK153
        · exact zK154
        · exact zK144
        · exact zK145
        · exact zK146
        · exact zK147
        · rw [(show opPace (Tx d) tx d (nI vk) = (2, 0) from opPace_2 (by omega) (by (rw [hrE]; first | exact Or.inl (by omega) | exact Or.inr (by unfold rnE; omega))))]; first | (rw [bump_0]; exact zK148) | exact zK148
  · replace zc6 := b2i_f zc6
    refine z_aload_n X 0 dX11_pace_7 rfl ?_
    refine z_iconst (v := 1) X dX11_pace_8 (by decide) ?_
    refine z_callV X (c_fail (κ := κ) (n := n) (o := (o)) (im := (im)) (fo := (fo)) (k := (1)) K0 K18 (by first | assumption | omega) (by first | assumption | omega)) mk_X11_fail dX11_pace_9 wd_260 wd_262 wd_0 rfl K0 rfl rfl rfl (Nat.le_of_ble_eq_true rfl) (Nat.le_of_ble_eq_true rfl) (Nat.le_of_ble_eq_true rfl) (by omega) (by omega) (fun q zh157 zm159 zp160 => ?_)
    obtain ⟨rfl, ze158, zn161⟩ := zp160
    subst zm159
    refine z_st (st' := [.int (lowE 1)]) rfl ?_
    have zK162 : zh157 o = some (.inr (11, [.ref (o + 1), .ref (o + 14), .ref (o + 27), .ref (o + 33), .ref (o + 42), .ref (o + 55), .ref (o + 57), .ref (o + 59), .ref (o + 61), .int im])) := by rw [ze158]; rw [va_up_ne _ _ (show o ≠ o + 61 by omega)]; exact K0
    have zK163 : zh157 (o + 1) = some (.inr (3, [.ref (o + 1 + 1), .ref (o + 1 + 7), .ref (o + 1 + 9), .ref (o + 1 + 11), .int (d 13)])) := by rw [ze158]; rw [va_up_ne _ _ (show o + 1 ≠ o + 61 by omega)]; exact K1
    have zK164 : zh157 (o + 2) = some (.inr (2, [.ref (o + 3), .ref (o + 4), .ref (o + 5), .ref (o + 6), .ref (o + 7), .int (nI len), .int (d 0), .int (d 2), .int (d 3), .int (nI nc), .int (d 10), .int cold, .int wind])) := by rw [ze158]; rw [va_up_ne _ _ (show o + 2 ≠ o + 61 by omega)]; exact K2
    have zK165 : zh157 (o + 3) = arI κ 40 (win 100 40 d) := by rw [ze158]; rw [va_up_ne _ _ (show o + 3 ≠ o + 61 by omega)]; exact K3
    have zK166 : zh157 (o + 4) = arI κ 40 (win 140 40 d) := by rw [ze158]; rw [va_up_ne _ _ (show o + 4 ≠ o + 61 by omega)]; exact K4
    have zK167 : zh157 (o + 5) = arI κ 6 (win 4 6 d) := by rw [ze158]; rw [va_up_ne _ _ (show o + 5 ≠ o + 61 by omega)]; exact K5
    have zK168 : zh157 (o + 6) = arR κ 1 6 cs := by rw [ze158]; rw [va_up_ne _ _ (show o + 6 ≠ o + 61 by omega)]; exact K6
    have zK169 : zh157 (o + 7) = arR κ 2 2 ts := by rw [ze158]; rw [va_up_ne _ _ (show o + 7 ≠ o + 61 by omega)]; exact K7
    have zK170 : zh157 (o + 27) = some (.inr (2, [.ref (o + 28), .ref (o + 29), .ref (o + 30), .ref (o + 31), .ref (o + 32), .int alen, .int anow, .int add, .int adr, .int acc, .int aon, .int acold, .int awind])) := by rw [ze158]; rw [va_up_ne _ _ (show o + 27 ≠ o + 61 by omega)]; exact K8
    have zK171 : zh157 (o + 28) = arI κ 40 af1 := by rw [ze158]; rw [va_up_ne _ _ (show o + 28 ≠ o + 61 by omega)]; exact K9
    have zK172 : zh157 (o + 29) = arI κ 40 af2 := by rw [ze158]; rw [va_up_ne _ _ (show o + 29 ≠ o + 61 by omega)]; exact K10
    have zK173 : zh157 (o + 30) = arI κ 6 af3 := by rw [ze158]; rw [va_up_ne _ _ (show o + 30 ≠ o + 61 by omega)]; exact K11
    have zK174 : zh157 (o + 31) = arR κ 1 6 ac1 := by rw [ze158]; rw [va_up_ne _ _ (show o + 31 ≠ o + 61 by omega)]; exact K12
    have zK175 : zh157 (o + 32) = arR κ 2 2 at1 := by rw [ze158]; rw [va_up_ne _ _ (show o + 32 ≠ o + 61 by omega)]; exact K13
    have zK176 : zh157 (o + 55) = some (.inr (6, [.ref (o + 55 + 1), .int rs1, .int bt1])) := by rw [ze158]; rw [va_up_ne _ _ (show o + 55 ≠ o + 61 by omega)]; exact K14
    have zK177 : zh157 (o + 56) = arI κ 40 g1 := by rw [ze158]; rw [va_up_ne _ _ (show o + 56 ≠ o + 61 by omega)]; exact K15
    have zK178 : zh157 (o + 57) = some (.inr (6, [.ref (o + 57 + 1), .int rs2, .int bt2])) := by rw [ze158]; rw [va_up_ne _ _ (show o + 57 ≠ o + 61 by omega)]; exact K16
    have zK179 : zh157 (o + 58) = arI κ 40 g2 := by rw [ze158]; rw [va_up_ne _ _ (show o + 58 ≠ o + 61 by omega)]; exact K17
    have zK180 : zh157 (o + 61) = arI κ 6 (bmp fo 1) := by rw [ze158]; exact va_up_self _ _ _
    have zl181 : ∀ zq : Nat, zq < (o + 76) → zq ≠ (o + 61) → zh157 zq = h zq := by intro zq hzq zn0; rw [ze158, va_up_ne _ _ (show zq ≠ o + 61 by omega)]; try rfl
    have zr182 : Zr κ (o + 76) h zh157 := (Zr.refl).trans (Zr.same (fun zq h1 => by rw [ze158, va_up_ne _ _ (show zq ≠ o + 61 by omega)]))
    refine z_iret X E dX11_pace_12 (by omega) (by omega) ⟨alen, anow, add, adr, acc, aon, acold, awind, af1, af2, af3, ac1, at1, rs1, g1, rs2, g2, ?_, ?_, ?_, ?_, ?_, ?_, ?_, ?_, ?_, ?_, ?_, ?_, ?_, ?_, ?_⟩
    · rw [(show opPace (Tx d) tx d v = (1, 0) from if_pos (by assumption))]; first | exact congrArg (fun z => some (Value.int z)) (ansOf_0 _).symm | rfl
    · rfl
    · exact fun zq hzq zn0 zn1 zn2 zn3 zn4 zn5 zn6 zn7 zn8 zn9 zn10 => zl181 zq hzq zn10
    · exact zr182
    · exact zK170
    · exact zK171
    · exact zK172
    · exact zK173
    · exact zK174
    · exact zK175
    · exact zK176
    · exact zK177
    · exact zK178
    · exact zK179
    · rw [(show opPace (Tx d) tx d v = (1, 0) from if_pos (by assumption))]; first | (rw [bump_0]; exact zK180) | exact zK180
