def ringSum (m : Nat → Int32) : Int32 := sumN (fun j => nI (rAtE m j)) (rnE m)
theorem sumN_ext {f g : Nat → Int32} : ∀ n, (∀ k, k < n → f k = g k) → sumN f n = sumN g n := by
  intro n
  induction n with
  | zero => intro _; rfl
  | succ n ih =>
    intro h
    show sumN f n + f n = sumN g n + g n
    rw [ih (fun k hk => h k (by omega)), h n (by omega)]
theorem rings_sum {g m : Nat → Int32} (h : rgOk g (rl m (lnO m) (lnO m))) : sumN g (rn m (lnO m) (lnO m)) = ringSum m := sumN_ext _ (fun k hk => rgOk_at h hk)
def opPace (T : Nat → Nat → Int32) (tx : Nat → Nat) (d : Nat → Int32) (v : Int32) : Nat × Int32 := if ¬ (0 ≤ v.toInt ∧ v.toInt ≤ 60) then (1, 0) else if rnE d = 0 ∨ rnE (ahd T tx d v) ≠ rnE d then (2, 0) else (0, ringSum (ahd T tx d v) - ringSum d)
theorem opPace_2 {T : Nat → Nat → Int32} {tx : Nat → Nat} {d : Nat → Int32} {v : Nat} (h : v ≤ 60) (hb : rnE d = 0 ∨ ¬ rnE d = rnE (gbyN T tx v d)) : opPace T tx d (nI v) = (2, 0) := by
  unfold opPace
  rw [i_nI (by omega), if_neg (by omega), ahd_n _ _ _ (by omega), if_pos (hb.imp id (fun q z => q z.symm))]
theorem opPace_0 {T : Nat → Nat → Int32} {tx : Nat → Nat} {d : Nat → Int32} {v : Nat} (h : v ≤ 60) (h1 : ¬ rnE d = 0) (h2 : rnE d = rnE (gbyN T tx v d)) : opPace T tx d (nI v) = (0, ringSum (gbyN T tx v d) - ringSum d) := by
  unfold opPace
  rw [i_nI (by omega), if_neg (by omega), ahd_n _ _ _ (by omega), if_neg (fun q => q.elim h1 (fun z => z h2.symm))]
set_option maxHeartbeats 4000000 in
set_option maxRecDepth 100000 in
theorem r_pace {κ : Wc} {l : Launch} {h : Mm} {n : Nat} {o : Nat} {fo : Nat → Int32} {d : Nat → Int32} {e : Nat → Int32} {g : Nat → Int32} {nm : Nat → Int32} {nc : Nat} {tx : Nat → Nat} {im : Int32} {ba : Int32} {at_ : Int32} {sz : Int32} {fa : Int32} {op : Int32} {rm : Int32} {ti : Int32} {tm : Int32} {wh : Int32} {v : Int32} (K0 : h o = some (.inr (12, [.ref (o + 1), .ref (o + 2), .ref (o + 3), .int im, .ref (o + 4), .int ba, .int at_, .int sz, .int fa, .int op, .ref (o + 5), .ref (o + 6), .int rm, .ref (o + 7), .ref (o + 8), .int ti, .ref (o + 9), .int tm, .int wh, .ref (o + 10), .ref (o + 11), .ref (o + 12), .ref (o + 13)]))) (K1 : h (o + 4) = arI κ 6 fo) (K2 : h (o + 1) = arI κ 340 d) (K3 : h (o + 2) = arI κ 340 e) (K4 : h (o + 5) = arI κ 3 nm) (K5 : h (o + 6) = arI κ 40 g) (q8 : ∀ u, u < 2 → d (60 + u) = nI (tx u) ∧ tx u ≤ 50) (hOk : lnOk d) (q4 : d 11 = nI nc) (q5 : nc ≤ 6) : Con κ l yX12_pace cX12_pace 4 (some .int) 45 0 0 [.ref o, .int v] h n (fun q h' n' => ∃ ba' : Int32, ∃ at' : Int32, ∃ sz' : Int32, ∃ fa' : Int32, ∃ op' : Int32, ∃ nm' : Nat → Int32, ∃ rm' : Int32, ∃ e' : Nat → Int32, ∃ g' : Nat → Int32, q = some (.int (ansOf (opPace (Tx d) tx d v))) ∧ h' = va_up (va_up (va_up (va_up (va_up h o (some (.inr (12, [.ref (o + 1), .ref (o + 2), .ref (o + 3), .int im, .ref (o + 4), .int ba', .int at', .int sz', .int fa', .int op', .ref (o + 5), .ref (o + 6), .int rm', .ref (o + 7), .ref (o + 8), .int ti, .ref (o + 9), .int tm, .int wh, .ref (o + 10), .ref (o + 11), .ref (o + 12), .ref (o + 13)])))) (o + 5) (arI κ 3 nm')) (o + 2) (arI κ 340 e')) (o + 6) (arI κ 40 g')) (o + 4) (arI κ 6 (bump (opPace (Tx d) tx d v) fo)) ∧ n' = n) := by
  refine Con.of mk_X12_pace (Nat.le_of_ble_eq_true rfl) (fun G hG X E => ?_)
  subst hG
  refine z_ls (ls' := [(0, .ref o), (1, .int v)]) rfl ?_
  refine z_iload_n X 1 dX12_pace_0 rfl ?_
  refine z_callS X (r_isAhead (κ := κ) (n := n) (v := (v))  ) mk_X12_isAhead dX12_pace_1 wd_1200 wd_1201 rfl rfl (Nat.le_of_ble_eq_true rfl) (Nat.le_of_ble_eq_true rfl) (Nat.le_of_ble_eq_true rfl) (by omega) (by omega) (fun q zh1 zm3 zp4 => ?_)
  obtain ⟨rfl, ze2, zn5⟩ := zp4
  subst zm3
  subst zh1
  refine z_st (st' := [.int (b2i (0 ≤ (v : Int32).toInt ∧ (v : Int32).toInt ≤ 60))]) rfl ?_
  refine z_if_ne X 13 dX12_pace_4 (by decide) (fun zc6 => ?_) (fun zc6 => ?_)
  · replace zc6 := b2i_t zc6
    obtain ⟨vk, hvk, rfl⟩ := ix_of (c := v) (len := 61) (by omega) (by omega)
    refine z_aload_n X 0 dX12_pace_13 rfl ?_
    refine z_aload_n X 0 dX12_pace_14 rfl ?_
    refine z_get X fl_X12_7_12 dX12_pace_15 K0 rfl ?_
    refine z_callV X (r_findRings (κ := κ) (n := n) (o := (o)) (a := (o + 1)) (m := (d)) (len := (lnO (d))) (g := (g)) (im := (im)) (ba := (ba)) (at_ := (at_)) (sz := (sz)) (fa := (fa)) (op := (op)) (rm := (rm)) (ti := (ti)) (tm := (tm)) (wh := (wh)) K0 K2 K5 ((hOk).1) ((hOk).2.1) ((hOk).2.2) (Or.inl rfl)) mk_X12_findRings dX12_pace_18 wd_1188 wd_1190 wd_41 rfl K0 rfl rfl rfl (Nat.le_of_ble_eq_true rfl) (Nat.le_of_ble_eq_true rfl) (Nat.le_of_ble_eq_true rfl) (by omega) (by omega) (fun q zh8 zm10 zp11 => ?_)
    obtain ⟨g'7, rfl, ze9, zn13, zf12⟩ := zp11
    subst zm10
    refine z_st (st' := []) rfl ?_
    have zK14 : zh8 o = some (.inr (12, [.ref (o + 1), .ref (o + 2), .ref (o + 3), .int im, .ref (o + 4), .int ba, .int at_, .int sz, .int fa, .int op, .ref (o + 5), .ref (o + 6), .int (nI (rn d (lnO (d)) (lnO (d)))), .ref (o + 7), .ref (o + 8), .int ti, .ref (o + 9), .int tm, .int wh, .ref (o + 10), .ref (o + 11), .ref (o + 12), .ref (o + 13)])) := by rw [ze9]; rw [va_up_ne _ _ (show o ≠ o + 6 by omega)]; exact va_up_self _ _ _
    have zK15 : zh8 (o + 4) = arI κ 6 fo := by rw [ze9]; rw [va_up_ne _ _ (show o + 4 ≠ o + 6 by omega)]; rw [va_up_ne _ _ (show o + 4 ≠ o by omega)]; exact K1
    have zK16 : zh8 (o + 1) = arI κ 340 d := by rw [ze9]; rw [va_up_ne _ _ (show o + 1 ≠ o + 6 by omega)]; rw [va_up_ne _ _ (show o + 1 ≠ o by omega)]; exact K2
    have zK17 : zh8 (o + 2) = arI κ 340 e := by rw [ze9]; rw [va_up_ne _ _ (show o + 2 ≠ o + 6 by omega)]; rw [va_up_ne _ _ (show o + 2 ≠ o by omega)]; exact K3
    have zK18 : zh8 (o + 5) = arI κ 3 nm := by rw [ze9]; rw [va_up_ne _ _ (show o + 5 ≠ o + 6 by omega)]; rw [va_up_ne _ _ (show o + 5 ≠ o by omega)]; exact K4
    have zK19 : zh8 (o + 6) = arI κ 40 g'7 := by rw [ze9]; exact va_up_self _ _ _
    have hrd := rn_le d (lnO d) (lnO d)
    have hrdq := hOk.2.2
    refine z_aload_n X 0 dX12_pace_21 rfl ?_
    refine z_get X fl_X12_191_12 dX12_pace_22 zK14 rfl ?_
    refine z_istore_n (ls' := [(2, .int (nI (rn d (lnO (d)) (lnO (d))))), (0, .ref o), (1, .int (nI vk))]) X dX12_pace_25 (by decide) rfl ?_
    refine z_aload_n X 1 dX12_pace_26 rfl ?_
    refine z_callV X (r_placesOfRings (κ := κ) (n := n) (o := (o)) (k := (rn d (lnO (d)) (lnO (d)))) (g := (g'7)) (im := (im)) (ba := (ba)) (at_ := (at_)) (sz := (sz)) (fa := (fa)) (op := (op)) (ti := (ti)) (tm := (tm)) (wh := (wh)) zK14 zK19 (by first | assumption | omega)) mk_X12_placesOfRings dX12_pace_27 wd_1224 wd_1226 wd_44 rfl zK14 rfl rfl rfl (Nat.le_of_ble_eq_true rfl) (Nat.le_of_ble_eq_true rfl) (Nat.le_of_ble_eq_true rfl) (by omega) (by omega) (fun q zh20 zm22 zp23 => ?_)
    obtain ⟨rfl, ze21, zn24⟩ := zp23
    subst zm22
    subst zh20
    refine z_st (st' := [.int (sumN g'7 (rn d (lnO (d)) (lnO (d))))]) rfl ?_
    refine z_toe (y := ringSum d) (rings_sum zf12) ?_
    refine z_istore_n (ls' := [(3, .int (ringSum d)), (2, .int (nI (rn d (lnO (d)) (lnO (d))))), (0, .ref o), (1, .int (nI vk))]) X dX12_pace_30 (by decide) rfl ?_
    refine z_aload_n X 2 dX12_pace_31 rfl ?_
    refine z_iload_n X 3 dX12_pace_32 rfl ?_
    refine z_callV X (r_ahead (κ := κ) (n := n) (o := (o)) (v := (vk)) (d := (d)) (e := (e)) (nm := (nm)) (nc := (nc)) (im := (im)) (ba := (ba)) (at_ := (at_)) (sz := (sz)) (fa := (fa)) (op := (op)) (rm := (nI (rn d (lnO (d)) (lnO (d))))) (ti := (ti)) (tm := (tm)) (wh := (wh)) zK14 zK16 zK17 zK18 (q8) (by first | assumption | omega) (by first | assumption | omega) (by first | assumption | omega) (by first | assumption | omega)) mk_X12_ahead dX12_pace_33 wd_1204 wd_1206 wd_42 rfl zK14 rfl rfl rfl (Nat.le_of_ble_eq_true rfl) (Nat.le_of_ble_eq_true rfl) (Nat.le_of_ble_eq_true rfl) (by omega) (by omega) (fun q zh31 zm33 zp34 => ?_)
    obtain ⟨ba'25, at'26, sz'27, fa'28, op'29, nm'30, rfl, ze32, zn35⟩ := zp34
    subst zm33
    refine z_st (st' := []) rfl ?_
    have zK36 : zh31 o = some (.inr (12, [.ref (o + 1), .ref (o + 2), .ref (o + 3), .int im, .ref (o + 4), .int ba'25, .int at'26, .int sz'27, .int fa'28, .int op'29, .ref (o + 5), .ref (o + 6), .int ((nI (rn d (lnO (d)) (lnO (d))))), .ref (o + 7), .ref (o + 8), .int ti, .ref (o + 9), .int tm, .int wh, .ref (o + 10), .ref (o + 11), .ref (o + 12), .ref (o + 13)])) := by rw [ze32]; rw [va_up_ne _ _ (show o ≠ o + 2 by omega)]; rw [va_up_ne _ _ (show o ≠ o + 5 by omega)]; exact va_up_self _ _ _
    have zK37 : zh31 (o + 4) = arI κ 6 fo := by rw [ze32]; rw [va_up_ne _ _ (show o + 4 ≠ o + 2 by omega)]; rw [va_up_ne _ _ (show o + 4 ≠ o + 5 by omega)]; rw [va_up_ne _ _ (show o + 4 ≠ o by omega)]; exact zK15
    have zK38 : zh31 (o + 1) = arI κ 340 d := by rw [ze32]; rw [va_up_ne _ _ (show o + 1 ≠ o + 2 by omega)]; rw [va_up_ne _ _ (show o + 1 ≠ o + 5 by omega)]; rw [va_up_ne _ _ (show o + 1 ≠ o by omega)]; exact zK16
    have zK39 : zh31 (o + 2) = arI κ 340 (gbyN (Tx d) tx vk d) := by rw [ze32]; exact va_up_self _ _ _
    have zK40 : zh31 (o + 5) = arI κ 3 nm'30 := by rw [ze32]; rw [va_up_ne _ _ (show o + 5 ≠ o + 2 by omega)]; exact va_up_self _ _ _
    have zK41 : zh31 (o + 6) = arI κ 40 g'7 := by rw [ze32]; rw [va_up_ne _ _ (show o + 6 ≠ o + 2 by omega)]; rw [va_up_ne _ _ (show o + 6 ≠ o + 5 by omega)]; rw [va_up_ne _ _ (show o + 6 ≠ o by omega)]; exact zK19
    have hEl : lnO (gbyN (Tx d) tx vk d) ≤ 40 := (gbyN_ok hOk vk).2.2
    have hEl1 : 1 ≤ lnO (gbyN (Tx d) tx vk d) := (gbyN_ok hOk vk).2.1
    refine z_aload_n X 2 dX12_pace_36 rfl ?_
    refine z_aload_n X 2 dX12_pace_37 rfl ?_
    refine z_get X fl_X12_13_12 dX12_pace_38 zK36 rfl ?_
    refine z_callV X (r_findRings (κ := κ) (n := n) (o := (o)) (a := (o + 2)) (m := (gbyN (Tx d) tx vk d)) (len := (lnO (gbyN (Tx d) tx vk d))) (g := (g'7)) (im := (im)) (ba := (ba'25)) (at_ := (at'26)) (sz := (sz'27)) (fa := (fa'28)) (op := (op'29)) (rm := (nI (rn d (lnO (d)) (lnO (d))))) (ti := (ti)) (tm := (tm)) (wh := (wh)) zK36 zK39 zK41 ((gbyN_ok hOk vk).1) ((gbyN_ok hOk vk).2.1) ((gbyN_ok hOk vk).2.2) (Or.inr rfl)) mk_X12_findRings dX12_pace_41 wd_1188 wd_1190 wd_41 rfl zK36 rfl rfl rfl (Nat.le_of_ble_eq_true rfl) (Nat.le_of_ble_eq_true rfl) (Nat.le_of_ble_eq_true rfl) (by omega) (by omega) (fun q zh43 zm45 zp46 => ?_)
    obtain ⟨g'42, rfl, ze44, zn48, zf47⟩ := zp46
    subst zm45
    refine z_st (st' := []) rfl ?_
    have zK49 : zh43 o = some (.inr (12, [.ref (o + 1), .ref (o + 2), .ref (o + 3), .int im, .ref (o + 4), .int ba'25, .int at'26, .int sz'27, .int fa'28, .int op'29, .ref (o + 5), .ref (o + 6), .int (nI (rn (gbyN (Tx d) tx vk d) (lnO (gbyN (Tx d) tx vk d)) (lnO (gbyN (Tx d) tx vk d)))), .ref (o + 7), .ref (o + 8), .int ti, .ref (o + 9), .int tm, .int wh, .ref (o + 10), .ref (o + 11), .ref (o + 12), .ref (o + 13)])) := by rw [ze44]; rw [va_up_ne _ _ (show o ≠ o + 6 by omega)]; exact va_up_self _ _ _
    have zK50 : zh43 (o + 4) = arI κ 6 fo := by rw [ze44]; rw [va_up_ne _ _ (show o + 4 ≠ o + 6 by omega)]; rw [va_up_ne _ _ (show o + 4 ≠ o by omega)]; exact zK37
    have zK51 : zh43 (o + 1) = arI κ 340 d := by rw [ze44]; rw [va_up_ne _ _ (show o + 1 ≠ o + 6 by omega)]; rw [va_up_ne _ _ (show o + 1 ≠ o by omega)]; exact zK38
    have zK52 : zh43 (o + 2) = arI κ 340 (gbyN (Tx d) tx vk d) := by rw [ze44]; rw [va_up_ne _ _ (show o + 2 ≠ o + 6 by omega)]; rw [va_up_ne _ _ (show o + 2 ≠ o by omega)]; exact zK39
    have zK53 : zh43 (o + 5) = arI κ 3 nm'30 := by rw [ze44]; rw [va_up_ne _ _ (show o + 5 ≠ o + 6 by omega)]; rw [va_up_ne _ _ (show o + 5 ≠ o by omega)]; exact zK40
    have zK54 : zh43 (o + 6) = arI κ 40 g'42 := by rw [ze44]; exact va_up_self _ _ _
    have hrn := rn_le (gbyN (Tx d) tx vk d) (lnO (gbyN (Tx d) tx vk d)) (lnO (gbyN (Tx d) tx vk d))
    have hrnq : lnO (gbyN (Tx d) tx vk d) ≤ 40 := (gbyN_ok hOk vk).2.2
    refine z_iload_n X 1 dX12_pace_44 rfl ?_
    refine z_if_eq X 56 dX12_pace_45 (by decide) (fun zc55 => ?_) (fun zc55 => ?_)
    · try replace zc55 := (nI_eq (a := rn d (lnO (d)) (lnO (d))) (b := 0) (by omega) (by omega)).mp zc55
      refine z_aload_n X 2 dX12_pace_56 rfl ?_
      refine z_iconst (v := 2) X dX12_pace_57 (by decide) ?_
      refine z_callV X (r_finds (κ := κ) (n := n) (o := (o)) (k := (2)) (fo := (fo)) (im := (im)) (ba := (ba'25)) (at_ := (at'26)) (sz := (sz'27)) (fa := (fa'28)) (op := (op'29)) (rm := (nI (rn (gbyN (Tx d) tx vk d) (lnO (gbyN (Tx d) tx vk d)) (lnO (gbyN (Tx d) tx vk d))))) (ti := (ti)) (tm := (tm)) (wh := (wh)) zK49 zK50 (by first | assumption | omega) (by first | assumption | omega)) mk_X12_finds dX12_pace_58 wd_1018 wd_1020 wd_24 rfl zK49 rfl rfl rfl (Nat.le_of_ble_eq_true rfl) (Nat.le_of_ble_eq_true rfl) (Nat.le_of_ble_eq_true rfl) (by omega) (by omega) (fun q zh56 zm58 zp59 => ?_)
      obtain ⟨rfl, ze57, zn60⟩ := zp59
      subst zm58
      refine z_st (st' := [.int (lowE 2)]) rfl ?_
      have zK61 : zh56 o = some (.inr (12, [.ref (o + 1), .ref (o + 2), .ref (o + 3), .int im, .ref (o + 4), .int ba'25, .int at'26, .int sz'27, .int fa'28, .int op'29, .ref (o + 5), .ref (o + 6), .int (nI (rn (gbyN (Tx d) tx vk d) (lnO (gbyN (Tx d) tx vk d)) (lnO (gbyN (Tx d) tx vk d)))), .ref (o + 7), .ref (o + 8), .int ti, .ref (o + 9), .int tm, .int wh, .ref (o + 10), .ref (o + 11), .ref (o + 12), .ref (o + 13)])) := by rw [ze57]; rw [va_up_ne _ _ (show o ≠ o + 4 by omega)]; exact zK49
      have zK62 : zh56 (o + 4) = arI κ 6 (bmp fo 2) := by rw [ze57]; exact va_up_self _ _ _
      have zK63 : zh56 (o + 1) = arI κ 340 d := by rw [ze57]; rw [va_up_ne _ _ (show o + 1 ≠ o + 4 by omega)]; exact zK51
      have zK64 : zh56 (o + 2) = arI κ 340 (gbyN (Tx d) tx vk d) := by rw [ze57]; rw [va_up_ne _ _ (show o + 2 ≠ o + 4 by omega)]; exact zK52
      have zK65 : zh56 (o + 5) = arI κ 3 nm'30 := by rw [ze57]; rw [va_up_ne _ _ (show o + 5 ≠ o + 4 by omega)]; exact zK53
      have zK66 : zh56 (o + 6) = arI κ 40 g'42 := by rw [ze57]; rw [va_up_ne _ _ (show o + 6 ≠ o + 4 by omega)]; exact zK54
      refine z_goto X 70 dX12_pace_61 (by decide) ?_
      refine z_iret X E dX12_pace_70 (by omega) (by omega) ⟨ba'25, at'26, sz'27, fa'28, op'29, nm'30, (nI (rn (gbyN (Tx d) tx vk d) (lnO (gbyN (Tx d) tx vk d)) (lnO (gbyN (Tx d) tx vk d)))), (gbyN (Tx d) tx vk d), g'42, ?_, ?_, ?_⟩
      · rw [opPace_2 (by omega) (by first | exact Or.inl (by assumption) | exact Or.inr (by assumption))]; first | exact congrArg (fun z => some (Value.int z)) (ansOf_0 _).symm | rfl
      · rw [opPace_2 (by omega) (by first | exact Or.inl (by assumption) | exact Or.inr (by assumption))]; funext zz; by_cases zq4 : zz = o + 4; (rw [zq4, va_up_self]; exact zK62); by_cases zq3 : zz = o + 6; (rw [zq3, va_up_ne _ _ (show o + 6 ≠ o + 4 by omega), va_up_self]; exact zK66); by_cases zq2 : zz = o + 2; (rw [zq2, va_up_ne _ _ (show o + 2 ≠ o + 4 by omega), va_up_ne _ _ (show o + 2 ≠ o + 6 by omega), va_up_self]; exact zK64); by_cases zq1 : zz = o + 5; (rw [zq1, va_up_ne _ _ (show o + 5 ≠ o + 4 by omega), va_up_ne _ _ (show o + 5 ≠ o + 6 by omega), va_up_ne _ _ (show o + 5 ≠ o + 2 by omega), va_up_self]; exact zK65); by_cases zq0 : zz = o; (rw [zq0, va_up_ne _ _ (show o ≠ o + 4 by omega), va_up_ne _ _ (show o ≠ o + 6 by omega), va_up_ne _ _ (show o ≠ o + 2 by omega), va_up_ne _ _ (show o ≠ o + 5 by omega), va_up_self]; exact zK61); rw [va_up_ne _ _ zq4, va_up_ne _ _ zq3, va_up_ne _ _ zq2, va_up_ne _ _ zq1, va_up_ne _ _ zq0]; rw [ze57, ze44, ze32, ze9]; simp only [va_up, if_neg zq0, if_neg zq1, if_neg zq2, if_neg zq3, if_neg zq4]
      · rfl
    · try replace zc55 := mt (nI_eq (a := rn d (lnO (d)) (lnO (d))) (b := 0) (by omega) (by omega)).mpr zc55
      refine z_iload_n X 1 dX12_pace_48 rfl ?_
      refine z_aload_n X 2 dX12_pace_49 rfl ?_
      refine z_get X fl_X12_191_12 dX12_pace_50 zK49 rfl ?_
      refine z_icmp_eq X 64 dX12_pace_53 (by decide) (fun zc67 => ?_) (fun zc67 => ?_)
      · try replace zc67 := (nI_eq (a := rn d (lnO (d)) (lnO (d))) (b := rn (gbyN (Tx d) tx vk d) (lnO (gbyN (Tx d) tx vk d)) (lnO (gbyN (Tx d) tx vk d))) (by omega) (by omega)).mp zc67
        refine z_aload_n X 2 dX12_pace_64 rfl ?_
        refine z_callV X (r_placesOfRings (κ := κ) (n := n) (o := (o)) (k := (rn (gbyN (Tx d) tx vk d) (lnO (gbyN (Tx d) tx vk d)) (lnO (gbyN (Tx d) tx vk d)))) (g := (g'42)) (im := (im)) (ba := (ba'25)) (at_ := (at'26)) (sz := (sz'27)) (fa := (fa'28)) (op := (op'29)) (ti := (ti)) (tm := (tm)) (wh := (wh)) zK49 zK54 (by first | assumption | omega)) mk_X12_placesOfRings dX12_pace_65 wd_1224 wd_1226 wd_44 rfl zK49 rfl rfl rfl (Nat.le_of_ble_eq_true rfl) (Nat.le_of_ble_eq_true rfl) (Nat.le_of_ble_eq_true rfl) (by omega) (by omega) (fun q zh68 zm70 zp71 => ?_)
        obtain ⟨rfl, ze69, zn72⟩ := zp71
        subst zm70
        subst zh68
        refine z_st (st' := [.int (sumN g'42 (rn (gbyN (Tx d) tx vk d) (lnO (gbyN (Tx d) tx vk d)) (lnO (gbyN (Tx d) tx vk d))))]) rfl ?_
        refine z_toe (y := ringSum (gbyN (Tx d) tx vk d)) (rings_sum zf47) ?_
        refine z_iload_n X 0 dX12_pace_68 rfl ?_
        refine z_isub X dX12_pace_69 ?_
        refine z_iret X E dX12_pace_70 (by omega) (by omega) ⟨ba'25, at'26, sz'27, fa'28, op'29, nm'30, (nI (rn (gbyN (Tx d) tx vk d) (lnO (gbyN (Tx d) tx vk d)) (lnO (gbyN (Tx d) tx vk d)))), (gbyN (Tx d) tx vk d), g'42, ?_, ?_, ?_⟩
        · rw [opPace_0 (by omega) (by assumption) (by assumption)]; first | exact congrArg (fun z => some (Value.int z)) (ansOf_0 _).symm | rfl
        · rw [opPace_0 (by omega) (by assumption) (by assumption)]; funext zz; by_cases zq4 : zz = o + 4; (rw [zq4, va_up_self]; exact zK50); by_cases zq3 : zz = o + 6; (rw [zq3, va_up_ne _ _ (show o + 6 ≠ o + 4 by omega), va_up_self]; exact zK54); by_cases zq2 : zz = o + 2; (rw [zq2, va_up_ne _ _ (show o + 2 ≠ o + 4 by omega), va_up_ne _ _ (show o + 2 ≠ o + 6 by omega), va_up_self]; exact zK52); by_cases zq1 : zz = o + 5; (rw [zq1, va_up_ne _ _ (show o + 5 ≠ o + 4 by omega), va_up_ne _ _ (show o + 5 ≠ o + 6 by omega), va_up_ne _ _ (show o + 5 ≠ o + 2 by omega), va_up_self]; exact zK53); by_cases zq0 : zz = o; (rw [zq0, va_up_ne _ _ (show o ≠ o + 4 by omega), va_up_ne _ _ (show o ≠ o + 6 by omega), va_up_ne _ _ (show o ≠ o + 2 by omega), va_up_ne _ _ (show o ≠ o + 5 by omega), va_up_self]; exact zK49); rw [va_up_ne _ _ zq4, va_up_ne _ _ zq3, va_up_ne _ _ zq2, va_up_ne _ _ zq1, va_up_ne _ _ zq0]; rw [ze44, ze32, ze9]; simp only [va_up, if_neg zq0, if_neg zq1, if_neg zq2, if_neg zq3, if_neg zq4]
        · rfl
      · try replace zc67 := mt (nI_eq (a := rn d (lnO (d)) (lnO (d))) (b := rn (gbyN (Tx d) tx vk d) (lnO (gbyN (Tx d) tx vk d)) (lnO (gbyN (Tx d) tx vk d))) (by omega) (by omega)).mpr zc67
        refine z_aload_n X 2 dX12_pace_56 rfl ?_
        refine z_iconst (v := 2) X dX12_pace_57 (by decide) ?_
        refine z_callV X (r_finds (κ := κ) (n := n) (o := (o)) (k := (2)) (fo := (fo)) (im := (im)) (ba := (ba'25)) (at_ := (at'26)) (sz := (sz'27)) (fa := (fa'28)) (op := (op'29)) (rm := (nI (rn (gbyN (Tx d) tx vk d) (lnO (gbyN (Tx d) tx vk d)) (lnO (gbyN (Tx d) tx vk d))))) (ti := (ti)) (tm := (tm)) (wh := (wh)) zK49 zK50 (by first | assumption | omega) (by first | assumption | omega)) mk_X12_finds dX12_pace_58 wd_1018 wd_1020 wd_24 rfl zK49 rfl rfl rfl (Nat.le_of_ble_eq_true rfl) (Nat.le_of_ble_eq_true rfl) (Nat.le_of_ble_eq_true rfl) (by omega) (by omega) (fun q zh73 zm75 zp76 => ?_)
        obtain ⟨rfl, ze74, zn77⟩ := zp76
        subst zm75
        refine z_st (st' := [.int (lowE 2)]) rfl ?_
        have zK78 : zh73 o = some (.inr (12, [.ref (o + 1), .ref (o + 2), .ref (o + 3), .int im, .ref (o + 4), .int ba'25, .int at'26, .int sz'27, .int fa'28, .int op'29, .ref (o + 5), .ref (o + 6), .int (nI (rn (gbyN (Tx d) tx vk d) (lnO (gbyN (Tx d) tx vk d)) (lnO (gbyN (Tx d) tx vk d)))), .ref (o + 7), .ref (o + 8), .int ti, .ref (o + 9), .int tm, .int wh, .ref (o + 10), .ref (o + 11), .ref (o + 12), .ref (o + 13)])) := by rw [ze74]; rw [va_up_ne _ _ (show o ≠ o + 4 by omega)]; exact zK49
        have zK79 : zh73 (o + 4) = arI κ 6 (bmp fo 2) := by rw [ze74]; exact va_up_self _ _ _
        have zK80 : zh73 (o + 1) = arI κ 340 d := by rw [ze74]; rw [va_up_ne _ _ (show o + 1 ≠ o + 4 by omega)]; exact zK51
        have zK81 : zh73 (o + 2) = arI κ 340 (gbyN (Tx d) tx vk d) := by rw [ze74]; rw [va_up_ne _ _ (show o + 2 ≠ o + 4 by omega)]; exact zK52
        have zK82 : zh73 (o + 5) = arI κ 3 nm'30 := by rw [ze74]; rw [va_up_ne _ _ (show o + 5 ≠ o + 4 by omega)]; exact zK53
        have zK83 : zh73 (o + 6) = arI κ 40 g'42 := by rw [ze74]; rw [va_up_ne _ _ (show o + 6 ≠ o + 4 by omega)]; exact zK54
        refine z_goto X 70 dX12_pace_61 (by decide) ?_
        refine z_iret X E dX12_pace_70 (by omega) (by omega) ⟨ba'25, at'26, sz'27, fa'28, op'29, nm'30, (nI (rn (gbyN (Tx d) tx vk d) (lnO (gbyN (Tx d) tx vk d)) (lnO (gbyN (Tx d) tx vk d)))), (gbyN (Tx d) tx vk d), g'42, ?_, ?_, ?_⟩
        · rw [opPace_2 (by omega) (by first | exact Or.inl (by assumption) | exact Or.inr (by assumption))]; first | exact congrArg (fun z => some (Value.int z)) (ansOf_0 _).symm | rfl
        · rw [opPace_2 (by omega) (by first | exact Or.inl (by assumption) | exact Or.inr (by assumption))]; funext zz; by_cases zq4 : zz = o + 4; (rw [zq4, va_up_self]; exact zK79); by_cases zq3 : zz = o + 6; (rw [zq3, va_up_ne _ _ (show o + 6 ≠ o + 4 by omega), va_up_self]; exact zK83); by_cases zq2 : zz = o + 2; (rw [zq2, va_up_ne _ _ (show o + 2 ≠ o + 4 by omega), va_up_ne _ _ (show o + 2 ≠ o + 6 by omega), va_up_self]; exact zK81); by_cases zq1 : zz = o + 5; (rw [zq1, va_up_ne _ _ (show o + 5 ≠ o + 4 by omega), va_up_ne _ _ (show o + 5 ≠ o + 6 by omega), va_up_ne _ _ (show o + 5 ≠ o + 2 by omega), va_up_self]; exact zK82); by_cases zq0 : zz = o; (rw [zq0, va_up_ne _ _ (show o ≠ o + 4 by omega), va_up_ne _ _ (show o ≠ o + 6 by omega), va_up_ne _ _ (show o ≠ o + 2 by omega), va_up_ne _ _ (show o ≠ o + 5 by omega), va_up_self]; exact zK78); rw [va_up_ne _ _ zq4, va_up_ne _ _ zq3, va_up_ne _ _ zq2, va_up_ne _ _ zq1, va_up_ne _ _ zq0]; rw [ze74, ze44, ze32, ze9]; simp only [va_up, if_neg zq0, if_neg zq1, if_neg zq2, if_neg zq3, if_neg zq4]
        · rfl
  · replace zc6 := b2i_f zc6
    refine z_aload_n X 0 dX12_pace_7 rfl ?_
    refine z_iconst (v := 1) X dX12_pace_8 (by decide) ?_
    refine z_callV X (r_finds (κ := κ) (n := n) (o := (o)) (k := (1)) (fo := (fo)) (im := (im)) (ba := (ba)) (at_ := (at_)) (sz := (sz)) (fa := (fa)) (op := (op)) (rm := (rm)) (ti := (ti)) (tm := (tm)) (wh := (wh)) K0 K1 (by first | assumption | omega) (by first | assumption | omega)) mk_X12_finds dX12_pace_9 wd_1018 wd_1020 wd_24 rfl K0 rfl rfl rfl (Nat.le_of_ble_eq_true rfl) (Nat.le_of_ble_eq_true rfl) (Nat.le_of_ble_eq_true rfl) (by omega) (by omega) (fun q zh84 zm86 zp87 => ?_)
    obtain ⟨rfl, ze85, zn88⟩ := zp87
    subst zm86
    refine z_st (st' := [.int (lowE 1)]) rfl ?_
    have zK89 : zh84 o = some (.inr (12, [.ref (o + 1), .ref (o + 2), .ref (o + 3), .int im, .ref (o + 4), .int ba, .int at_, .int sz, .int fa, .int op, .ref (o + 5), .ref (o + 6), .int rm, .ref (o + 7), .ref (o + 8), .int ti, .ref (o + 9), .int tm, .int wh, .ref (o + 10), .ref (o + 11), .ref (o + 12), .ref (o + 13)])) := by rw [ze85]; rw [va_up_ne _ _ (show o ≠ o + 4 by omega)]; exact K0
    have zK90 : zh84 (o + 4) = arI κ 6 (bmp fo 1) := by rw [ze85]; exact va_up_self _ _ _
    have zK91 : zh84 (o + 1) = arI κ 340 d := by rw [ze85]; rw [va_up_ne _ _ (show o + 1 ≠ o + 4 by omega)]; exact K2
    have zK92 : zh84 (o + 2) = arI κ 340 e := by rw [ze85]; rw [va_up_ne _ _ (show o + 2 ≠ o + 4 by omega)]; exact K3
    have zK93 : zh84 (o + 5) = arI κ 3 nm := by rw [ze85]; rw [va_up_ne _ _ (show o + 5 ≠ o + 4 by omega)]; exact K4
    have zK94 : zh84 (o + 6) = arI κ 40 g := by rw [ze85]; rw [va_up_ne _ _ (show o + 6 ≠ o + 4 by omega)]; exact K5
    refine z_iret X E dX12_pace_12 (by omega) (by omega) ⟨ba, at_, sz, fa, op, nm, rm, e, g, ?_, ?_, ?_⟩
    · generalize hz : opPace (Tx d) tx d v = z; unfold opPace at hz; (try simp only [ i_eq, i_lt, i_le, show (-1 : Int32).toInt = -1 by decide, show (0 : Int32).toInt = 0 by decide, show (1 : Int32).toInt = 1 by decide, show (2 : Int32).toInt = 2 by decide, show (3 : Int32).toInt = 3 by decide, show (4 : Int32).toInt = 4 by decide, show (5 : Int32).toInt = 5 by decide, show (6 : Int32).toInt = 6 by decide, show (7 : Int32).toInt = 7 by decide, show (8 : Int32).toInt = 8 by decide, show (9 : Int32).toInt = 9 by decide, show (10 : Int32).toInt = 10 by decide, show (11 : Int32).toInt = 11 by decide, show (12 : Int32).toInt = 12 by decide, show (13 : Int32).toInt = 13 by decide, show (14 : Int32).toInt = 14 by decide, show (15 : Int32).toInt = 15 by decide, show (16 : Int32).toInt = 16 by decide, show (20 : Int32).toInt = 20 by decide, show (39 : Int32).toInt = 39 by decide, show (40 : Int32).toInt = 40 by decide, show (50 : Int32).toInt = 50 by decide, show (60 : Int32).toInt = 60 by decide, show (99 : Int32).toInt = 99 by decide, show (100 : Int32).toInt = 100 by decide, show (999 : Int32).toInt = 999 by decide, show (9999 : Int32).toInt = 9999 by decide, show (99999 : Int32).toInt = 99999 by decide, show (999999 : Int32).toInt = 999999 by decide, show (9999999 : Int32).toInt = 9999999 by decide, show (-50 : Int32).toInt = -50 by decide, show (32 : Int32).toInt = 32 by decide] at *); (repeat first | rw [if_pos (by omega)] at hz | rw [if_neg (by omega)] at hz); subst hz; first | exact congrArg (fun z => some (Value.int z)) (ansOf_0 _).symm | rfl
    · generalize hz : opPace (Tx d) tx d v = z; unfold opPace at hz; (try simp only [ i_eq, i_lt, i_le, show (-1 : Int32).toInt = -1 by decide, show (0 : Int32).toInt = 0 by decide, show (1 : Int32).toInt = 1 by decide, show (2 : Int32).toInt = 2 by decide, show (3 : Int32).toInt = 3 by decide, show (4 : Int32).toInt = 4 by decide, show (5 : Int32).toInt = 5 by decide, show (6 : Int32).toInt = 6 by decide, show (7 : Int32).toInt = 7 by decide, show (8 : Int32).toInt = 8 by decide, show (9 : Int32).toInt = 9 by decide, show (10 : Int32).toInt = 10 by decide, show (11 : Int32).toInt = 11 by decide, show (12 : Int32).toInt = 12 by decide, show (13 : Int32).toInt = 13 by decide, show (14 : Int32).toInt = 14 by decide, show (15 : Int32).toInt = 15 by decide, show (16 : Int32).toInt = 16 by decide, show (20 : Int32).toInt = 20 by decide, show (39 : Int32).toInt = 39 by decide, show (40 : Int32).toInt = 40 by decide, show (50 : Int32).toInt = 50 by decide, show (60 : Int32).toInt = 60 by decide, show (99 : Int32).toInt = 99 by decide, show (100 : Int32).toInt = 100 by decide, show (999 : Int32).toInt = 999 by decide, show (9999 : Int32).toInt = 9999 by decide, show (99999 : Int32).toInt = 99999 by decide, show (999999 : Int32).toInt = 999999 by decide, show (9999999 : Int32).toInt = 9999999 by decide, show (-50 : Int32).toInt = -50 by decide, show (32 : Int32).toInt = 32 by decide] at *); (repeat first | rw [if_pos (by omega)] at hz | rw [if_neg (by omega)] at hz); subst hz; funext zz; by_cases zq4 : zz = o + 4; (rw [zq4, va_up_self]; exact zK90); by_cases zq3 : zz = o + 6; (rw [zq3, va_up_ne _ _ (show o + 6 ≠ o + 4 by omega), va_up_self]; exact zK94); by_cases zq2 : zz = o + 2; (rw [zq2, va_up_ne _ _ (show o + 2 ≠ o + 4 by omega), va_up_ne _ _ (show o + 2 ≠ o + 6 by omega), va_up_self]; exact zK92); by_cases zq1 : zz = o + 5; (rw [zq1, va_up_ne _ _ (show o + 5 ≠ o + 4 by omega), va_up_ne _ _ (show o + 5 ≠ o + 6 by omega), va_up_ne _ _ (show o + 5 ≠ o + 2 by omega), va_up_self]; exact zK93); by_cases zq0 : zz = o; (rw [zq0, va_up_ne _ _ (show o ≠ o + 4 by omega), va_up_ne _ _ (show o ≠ o + 6 by omega), va_up_ne _ _ (show o ≠ o + 2 by omega), va_up_ne _ _ (show o ≠ o + 5 by omega), va_up_self]; exact zK89); rw [va_up_ne _ _ zq4, va_up_ne _ _ zq3, va_up_ne _ _ zq2, va_up_ne _ _ zq1, va_up_ne _ _ zq0]; rw [ze85]; simp only [va_up, if_neg zq0, if_neg zq1, if_neg zq2, if_neg zq3, if_neg zq4]
    · rfl
/-- after how many ticks, f at most, it doesn't hang -/
def brkF (T : Nat → Nat → Int32) (tx : Nat → Nat) : Nat → Nat → (Nat → Int32) → Option Nat
  | 0, _, _ => none
  | f + 1, k, m => if m 9 < massR m (lnO m) then some k else brkF T tx f (k + 1) (gby T tx m)
theorem brkF_go {T : Nat → Nat → Int32} {tx : Nat → Nat} {v i : Nat} {m : Nat → Int32} (hi : i ≤ v) (h : ¬ m 9 < massR m (lnO m)) : brkF T tx (v + 1 - i) i m = brkF T tx (v + 1 - (i + 1)) (i + 1) (gby T tx m) := by
  rw [show v + 1 - i = (v + 1 - (i + 1)) + 1 by omega]
  exact if_neg h
theorem brkF_hit {T : Nat → Nat → Int32} {tx : Nat → Nat} {v i : Nat} {m : Nat → Int32} (hi : i ≤ v) (h : m 9 < massR m (lnO m)) : brkF T tx (v + 1 - i) i m = some i := by
  rw [show v + 1 - i = (v + 1 - (i + 1)) + 1 by omega]
  exact if_pos h
theorem brkF_le {T : Nat → Nat → Int32} {tx : Nat → Nat} : ∀ (f k : Nat) (m : Nat → Int32) (q : Nat), brkF T tx f k m = some q → q < k + f := by
  intro f
  induction f with
  | zero => intro k m q h; cases h
  | succ f ih =>
    intro k m q h
    unfold brkF at h
    split at h
    · cases h
      omega
    · have := ih _ _ _ h
      omega
theorem brkI_lt {f : Option Nat} (h : ∀ q, f = some q → q < 1000) : faI f < 0 ↔ f = none := by
  cases f with
  | none => exact ⟨fun _ => rfl, fun _ => (by decide : (-1 : Int32) < 0)⟩
  | some q => exact ⟨fun k => absurd k (nI_pos (by have := h q rfl; omega)), fun k => by cases k⟩
theorem brkI_ge {f : Option Nat} (h : ∀ q, f = some q → q < 1000) : 0 ≤ faI f ↔ ¬ f = none := by
  rw [← brkI_lt h, Int32.not_lt]
set_option maxHeartbeats 4000000 in
set_option maxRecDepth 100000 in
theorem r_breaksIn {κ : Wc} {l : Launch} {h : Mm} {n : Nat} {o : Nat} {v : Nat} {d : Nat → Int32} {m : Nat → Int32} {nm : Nat → Int32} {nc : Nat} {tx : Nat → Nat} {im : Int32} {ba : Int32} {at_ : Int32} {sz : Int32} {fa : Int32} {op : Int32} {rm : Int32} {ti : Int32} {tm : Int32} {wh : Int32} (K0 : h o = some (.inr (12, [.ref (o + 1), .ref (o + 2), .ref (o + 3), .int im, .ref (o + 4), .int ba, .int at_, .int sz, .int fa, .int op, .ref (o + 5), .ref (o + 6), .int rm, .ref (o + 7), .ref (o + 8), .int ti, .ref (o + 9), .int tm, .int wh, .ref (o + 10), .ref (o + 11), .ref (o + 12), .ref (o + 13)]))) (K1 : h (o + 1) = arI κ 340 d) (K2 : h (o + 2) = arI κ 340 m) (K3 : h (o + 5) = arI κ 3 nm) (q8 : ∀ u, u < 2 → d (60 + u) = nI (tx u) ∧ tx u ≤ 50) (hOk : lnOk m) (q4 : m 11 = nI nc) (q5 : nc ≤ 6) (q6 : v ≤ 100) : Con κ l yX12_breaksIn cX12_breaksIn 3 (some .int) 43 0 0 [.ref o, .int (nI v)] h n (fun q h' n' => ∃ ba' : Int32, ∃ at' : Int32, ∃ sz' : Int32, ∃ fa' : Int32, ∃ op' : Int32, ∃ nm' : Nat → Int32, ∃ e' : Nat → Int32, q = some (.int (faI (brkF (Tx d) tx (v + 1) 0 m))) ∧ h' = va_up (va_up (va_up h o (some (.inr (12, [.ref (o + 1), .ref (o + 2), .ref (o + 3), .int im, .ref (o + 4), .int ba', .int at', .int sz', .int fa', .int op', .ref (o + 5), .ref (o + 6), .int rm, .ref (o + 7), .ref (o + 8), .int ti, .ref (o + 9), .int tm, .int wh, .ref (o + 10), .ref (o + 11), .ref (o + 12), .ref (o + 13)])))) (o + 5) (arI κ 3 nm')) (o + 2) (arI κ 340 e') ∧ n' = n) := by
  refine Con.of mk_X12_breaksIn (Nat.le_of_ble_eq_true rfl) (fun G hG X E => ?_)
  subst hG
  refine z_ls (ls' := [(0, .ref o), (1, .int (nI v))]) rfl ?_
  refine z_iconst (v := 0) X dX12_breaksIn_0 (by decide) ?_
  refine z_istore_n (ls' := [(2, .int 0), (0, .ref o), (1, .int (nI v))]) X dX12_breaksIn_1 (by decide) rfl ?_
  have L2 : ∀ (jj : Nat) (hh2 : Mm)  (i : Nat) (ba2 : Int32) (at2 : Int32) (sz2 : Int32) (fa2 : Int32) (op2 : Int32) (nm2 : Nat → Int32) (mm : Nat → Int32), (v + 1 - i < jj) → (hh2 = va_up (va_up (va_up h o (some (.inr (12, [.ref (o + 1), .ref (o + 2), .ref (o + 3), .int im, .ref (o + 4), .int ba2, .int at2, .int sz2, .int fa2, .int op2, .ref (o + 5), .ref (o + 6), .int rm, .ref (o + 7), .ref (o + 8), .int ti, .ref (o + 9), .int tm, .int wh, .ref (o + 10), .ref (o + 11), .ref (o + 12), .ref (o + 13)])))) (o + 5) (arI κ 3 nm2)) (o + 2) (arI κ 340 mm)) → (hi : i ≤ v + 1) → (hmk : lnOk mm) → (hm11 : mm 11 = nI nc) → (hR : brkF (Tx d) tx (v + 1) 0 m = brkF (Tx d) tx (v + 1 - i) i mm) → Z κ G 3 2 [(0, .ref o), (1, .int (nI v)), (2, .int (nI i))] [] hh2 n 0 (0) := by
    intro jj
    induction jj with
    | zero => intro hh2 i ba2 at2 sz2 fa2 op2 nm2 mm hmu; exact absurd hmu (Nat.not_lt_zero _)
    | succ jj ih2 =>
      intro hh2 i ba2 at2 sz2 fa2 op2 nm2 mm hmu he2 hi hmk hm11 hR
      have zK1 : hh2 o = some (.inr (12, [.ref (o + 1), .ref (o + 2), .ref (o + 3), .int im, .ref (o + 4), .int ba2, .int at2, .int sz2, .int fa2, .int op2, .ref (o + 5), .ref (o + 6), .int rm, .ref (o + 7), .ref (o + 8), .int ti, .ref (o + 9), .int tm, .int wh, .ref (o + 10), .ref (o + 11), .ref (o + 12), .ref (o + 13)])) := by rw [he2]; rw [va_up_ne _ _ (show o ≠ o + 2 by omega)]; rw [va_up_ne _ _ (show o ≠ o + 5 by omega)]; exact va_up_self _ _ _
      have zK2 : hh2 (o + 1) = arI κ 340 d := by rw [he2]; rw [va_up_ne _ _ (show o + 1 ≠ o + 2 by omega)]; rw [va_up_ne _ _ (show o + 1 ≠ o + 5 by omega)]; rw [va_up_ne _ _ (show o + 1 ≠ o by omega)]; exact K1
      have zK3 : hh2 (o + 2) = arI κ 340 mm := by rw [he2]; exact va_up_self _ _ _
      have zK4 : hh2 (o + 5) = arI κ 3 nm2 := by rw [he2]; rw [va_up_ne _ _ (show o + 5 ≠ o + 2 by omega)]; exact va_up_self _ _ _
      refine z_iload_n X 2 dX12_breaksIn_2 rfl ?_
      refine z_iload_n X 1 dX12_breaksIn_3 rfl ?_
      refine z_icmp_gt X 40 dX12_breaksIn_4 (by decide) (fun zc5 => ?_) (fun zc5 => ?_)
      · try replace zc5 := (nI_ltI (a := v) (b := i) (by omega) (by omega)).mp zc5
        refine z_iconst (v := -1) X dX12_breaksIn_40 (by decide) ?_
        refine z_iret X E dX12_breaksIn_41 (by omega) (by omega) ⟨ba2, at2, sz2, fa2, op2, nm2, mm, ?_, ?_, ?_⟩
        · rw [hR, show v + 1 - i = 0 by omega]; first | done | rfl
        · funext zz; by_cases zq2 : zz = o + 2; (rw [zq2, va_up_self]; exact zK3); by_cases zq1 : zz = o + 5; (rw [zq1, va_up_ne _ _ (show o + 5 ≠ o + 2 by omega), va_up_self]; exact zK4); by_cases zq0 : zz = o; (rw [zq0, va_up_ne _ _ (show o ≠ o + 2 by omega), va_up_ne _ _ (show o ≠ o + 5 by omega), va_up_self]; exact zK1); rw [va_up_ne _ _ zq2, va_up_ne _ _ zq1, va_up_ne _ _ zq0]; rw [he2]; simp only [va_up, if_neg zq0, if_neg zq1, if_neg zq2]
        · rfl
      · try replace zc5 := mt (nI_ltI (a := v) (b := i) (by omega) (by omega)).mpr zc5
        refine z_aload_n X 0 dX12_breaksIn_7 rfl ?_
        refine z_get X fl_X12_13_12 dX12_breaksIn_8 zK1 rfl ?_
        refine z_callS X (r_massOf (κ := κ) (n := n) (a := (o + 2)) (m := (mm)) (len := (lnO (mm))) zK3 ((hmk).1) ((hmk).2.1) ((hmk).2.2)) mk_X12_massOf dX12_breaksIn_11 wd_1178 wd_1179 rfl rfl (Nat.le_of_ble_eq_true rfl) (Nat.le_of_ble_eq_true rfl) (Nat.le_of_ble_eq_true rfl) (by omega) (by omega) (fun q zh6 zm8 zp9 => ?_)
        obtain ⟨rfl, ze7, zn10⟩ := zp9
        subst zm8
        subst zh6
        refine z_st (st' := [.int (massR mm (lnO (mm)))]) rfl ?_
        refine z_aload_n X 0 dX12_breaksIn_14 rfl ?_
        refine z_get X fl_X12_13_12 dX12_breaksIn_15 zK1 rfl ?_
        refine z_bipush (v := 9) X dX12_breaksIn_18 (by decide) ?_
        refine z_iald2 (v := mm 9) X dX12_breaksIn_20 zK3 (vp_in_nI (n := 9) (by omega) (by omega)) (congrArg mm (nI_clamp (n := 9) (by omega))) ?_
        refine z_icmp_le X 26 dX12_breaksIn_21 (by decide) (fun zc11 => ?_) (fun zc11 => ?_)
        · refine z_aload_n X 0 dX12_breaksIn_26 rfl ?_
          refine z_aload_n X 0 dX12_breaksIn_27 rfl ?_
          refine z_get X fl_X12_13_12 dX12_breaksIn_28 zK1 rfl ?_
          refine z_callV X (r_goesBy_e (κ := κ) (n := n) (o := (o)) (d := (d)) (m := (mm)) (nm := (nm2)) (len := (lnO mm)) (nc := (nc)) (im := (im)) (ba := (ba2)) (at_ := (at2)) (sz := (sz2)) (fa := (fa2)) (op := (op2)) (rm := (rm)) (ti := (ti)) (tm := (tm)) (wh := (wh)) zK1 zK2 zK3 zK4 (q8) (hmk.1) (hmk.2.1) (hmk.2.2) (hm11) (by first | assumption | omega)) mk_X12_goesBy dX12_breaksIn_31 wd_1163 wd_1165 wd_40 rfl zK1 rfl rfl rfl (Nat.le_of_ble_eq_true rfl) (Nat.le_of_ble_eq_true rfl) (Nat.le_of_ble_eq_true rfl) (by omega) (by omega) (fun q zh18 zm20 zp21 => ?_)
          obtain ⟨ba'12, at'13, sz'14, fa'15, op'16, nm'17, rfl, ze19, zn22⟩ := zp21
          subst zm20
          refine z_st (st' := []) rfl ?_
          have zK23 : zh18 o = some (.inr (12, [.ref (o + 1), .ref (o + 2), .ref (o + 3), .int im, .ref (o + 4), .int ba'12, .int at'13, .int sz'14, .int fa'15, .int op'16, .ref (o + 5), .ref (o + 6), .int rm, .ref (o + 7), .ref (o + 8), .int ti, .ref (o + 9), .int tm, .int wh, .ref (o + 10), .ref (o + 11), .ref (o + 12), .ref (o + 13)])) := by rw [ze19]; rw [va_up_ne _ _ (show o ≠ o + 2 by omega)]; rw [va_up_ne _ _ (show o ≠ o + 5 by omega)]; exact va_up_self _ _ _
          have zK24 : zh18 (o + 1) = arI κ 340 d := by rw [ze19]; rw [va_up_ne _ _ (show o + 1 ≠ o + 2 by omega)]; rw [va_up_ne _ _ (show o + 1 ≠ o + 5 by omega)]; rw [va_up_ne _ _ (show o + 1 ≠ o by omega)]; exact zK2
          have zK25 : zh18 (o + 2) = arI κ 340 (gby (Tx d) tx mm) := by rw [ze19]; exact va_up_self _ _ _
          have zK26 : zh18 (o + 5) = arI κ 3 nm'17 := by rw [ze19]; rw [va_up_ne _ _ (show o + 5 ≠ o + 2 by omega)]; exact va_up_self _ _ _
          refine z_iinc (v := nI (i + 1)) (ls' := [(2, .int (nI (i + 1))), (0, .ref o), (1, .int (nI v))]) X 2 dX12_breaksIn_34 rfl (nI_1 (i)) (by decide) rfl ?_
          refine z_goto X 2 dX12_breaksIn_37 (by decide) ?_
          refine z_sub (ls' := [(0, .ref o), (1, .int (nI v)), (2, .int (nI (i + 1)))]) [1, 2, 0] rfl ?_
          exact ih2 _ (i + 1) ba'12 at'13 sz'14 fa'15 op'16 nm'17 (gby (Tx d) tx mm) (by omega) (by rw [ze19, he2]; funext zz; simp only [va_up]; (repeat' split) <;> first | rfl | (exfalso; omega)) (by first | assumption | rfl | omega) (by exact lnOk_gby hmk) (by exact (gby_off hmk.1 hmk.2.2 (by omega)).trans hm11) (by rw [hR]; exact brkF_go (by omega) (Int32.not_lt.mpr (by assumption)))
        · refine z_iload_n X 2 dX12_breaksIn_24 rfl ?_
          refine z_iret X E dX12_breaksIn_25 (by omega) (by omega) ⟨ba2, at2, sz2, fa2, op2, nm2, mm, ?_, ?_, ?_⟩
          · rw [hR, brkF_hit (by omega) (Int32.not_le.mp (by assumption))]; first | done | rfl
          · funext zz; by_cases zq2 : zz = o + 2; (rw [zq2, va_up_self]; exact zK3); by_cases zq1 : zz = o + 5; (rw [zq1, va_up_ne _ _ (show o + 5 ≠ o + 2 by omega), va_up_self]; exact zK4); by_cases zq0 : zz = o; (rw [zq0, va_up_ne _ _ (show o ≠ o + 2 by omega), va_up_ne _ _ (show o ≠ o + 5 by omega), va_up_self]; exact zK1); rw [va_up_ne _ _ zq2, va_up_ne _ _ zq1, va_up_ne _ _ zq0]; rw [he2]; simp only [va_up, if_neg zq0, if_neg zq1, if_neg zq2]
          · rfl
  refine z_sub (ls' := [(0, .ref o), (1, .int (nI v)), (2, .int 0)]) [1, 2, 0] rfl ?_
  exact L2 _ _ 0 ba at_ sz fa op nm m (Nat.lt_succ_self _) (by rw [up_same _ _ K0, up_same _ _ K3, up_same _ _ K2]) (by first | assumption | rfl | omega) (by exact hOk) (by exact q4) (by rfl)
def opBreaks (T : Nat → Nat → Int32) (tx : Nat → Nat) (d : Nat → Int32) (v : Int32) : Nat × Int32 := if ¬ (0 ≤ v.toInt ∧ v.toInt ≤ 60) then (1, 0) else if brkF T tx (v.toNatClampNeg + 1) 0 d = none then (2, 0) else (0, faI (brkF T tx (v.toNatClampNeg + 1) 0 d))
theorem opBreaks_0 {T : Nat → Nat → Int32} {tx : Nat → Nat} {d : Nat → Int32} {v : Nat} (h : v ≤ 60) (hb : ¬ brkF T tx (v + 1) 0 d = none) : opBreaks T tx d (nI v) = (0, faI (brkF T tx (v + 1) 0 d)) := by
  unfold opBreaks
  rw [i_nI (by omega), nI_clamp (by omega), if_neg (by omega), if_neg hb]
theorem opBreaks_2 {T : Nat → Nat → Int32} {tx : Nat → Nat} {d : Nat → Int32} {v : Nat} (h : v ≤ 60) (hb : brkF T tx (v + 1) 0 d = none) : opBreaks T tx d (nI v) = (2, 0) := by
  unfold opBreaks
  rw [i_nI (by omega), nI_clamp (by omega), if_neg (by omega), if_pos hb]
set_option maxHeartbeats 4000000 in
set_option maxRecDepth 100000 in
theorem r_breaks {κ : Wc} {l : Launch} {h : Mm} {n : Nat} {o : Nat} {fo : Nat → Int32} {d : Nat → Int32} {e : Nat → Int32} {g : Nat → Int32} {nm : Nat → Int32} {nc : Nat} {tx : Nat → Nat} {im : Int32} {ba : Int32} {at_ : Int32} {sz : Int32} {fa : Int32} {op : Int32} {rm : Int32} {ti : Int32} {tm : Int32} {wh : Int32} {v : Int32} (K0 : h o = some (.inr (12, [.ref (o + 1), .ref (o + 2), .ref (o + 3), .int im, .ref (o + 4), .int ba, .int at_, .int sz, .int fa, .int op, .ref (o + 5), .ref (o + 6), .int rm, .ref (o + 7), .ref (o + 8), .int ti, .ref (o + 9), .int tm, .int wh, .ref (o + 10), .ref (o + 11), .ref (o + 12), .ref (o + 13)]))) (K1 : h (o + 4) = arI κ 6 fo) (K2 : h (o + 1) = arI κ 340 d) (K3 : h (o + 2) = arI κ 340 e) (K4 : h (o + 5) = arI κ 3 nm) (K5 : h (o + 6) = arI κ 40 g) (q8 : ∀ u, u < 2 → d (60 + u) = nI (tx u) ∧ tx u ≤ 50) (hOk : lnOk d) (q4 : d 11 = nI nc) (q5 : nc ≤ 6) : Con κ l yX12_breaks cX12_breaks 3 (some .int) 45 0 0 [.ref o, .int v] h n (fun q h' n' => ∃ ba' : Int32, ∃ at' : Int32, ∃ sz' : Int32, ∃ fa' : Int32, ∃ op' : Int32, ∃ nm' : Nat → Int32, ∃ rm' : Int32, ∃ e' : Nat → Int32, ∃ g' : Nat → Int32, q = some (.int (ansOf (opBreaks (Tx d) tx d v))) ∧ h' = va_up (va_up (va_up (va_up (va_up h o (some (.inr (12, [.ref (o + 1), .ref (o + 2), .ref (o + 3), .int im, .ref (o + 4), .int ba', .int at', .int sz', .int fa', .int op', .ref (o + 5), .ref (o + 6), .int rm', .ref (o + 7), .ref (o + 8), .int ti, .ref (o + 9), .int tm, .int wh, .ref (o + 10), .ref (o + 11), .ref (o + 12), .ref (o + 13)])))) (o + 5) (arI κ 3 nm')) (o + 2) (arI κ 340 e')) (o + 6) (arI κ 40 g')) (o + 4) (arI κ 6 (bump (opBreaks (Tx d) tx d v) fo)) ∧ n' = n) := by
  refine Con.of mk_X12_breaks (Nat.le_of_ble_eq_true rfl) (fun G hG X E => ?_)
  subst hG
  refine z_ls (ls' := [(0, .ref o), (1, .int v)]) rfl ?_
  refine z_iload_n X 1 dX12_breaks_0 rfl ?_
  refine z_callS X (r_isAhead (κ := κ) (n := n) (v := (v))  ) mk_X12_isAhead dX12_breaks_1 wd_1200 wd_1201 rfl rfl (Nat.le_of_ble_eq_true rfl) (Nat.le_of_ble_eq_true rfl) (Nat.le_of_ble_eq_true rfl) (by omega) (by omega) (fun q zh1 zm3 zp4 => ?_)
  obtain ⟨rfl, ze2, zn5⟩ := zp4
  subst zm3
  subst zh1
  refine z_st (st' := [.int (b2i (0 ≤ (v : Int32).toInt ∧ (v : Int32).toInt ≤ 60))]) rfl ?_
  refine z_if_ne X 13 dX12_breaks_4 (by decide) (fun zc6 => ?_) (fun zc6 => ?_)
  · replace zc6 := b2i_t zc6
    obtain ⟨vk, hvk, rfl⟩ := ix_of (c := v) (len := 61) (by omega) (by omega)
    have hbl : ∀ q, brkF (Tx d) tx (vk + 1) 0 d = some q → q < 1000 := fun q hq => (by have := brkF_le _ _ _ _ hq; omega)
    refine z_aload_n X 0 dX12_breaks_13 rfl ?_
    refine z_get X fl_X12_7_12 dX12_breaks_14 K0 rfl ?_
    refine z_aload_n X 0 dX12_breaks_17 rfl ?_
    refine z_get X fl_X12_13_12 dX12_breaks_18 K0 rfl ?_
    refine z_callS X (r_copies (κ := κ) (n := n) (a := (o + 1)) (b := (o + 2)) (f := (d)) (g := (e)) K2 K3 (by first | assumption | omega)) mk_X12_copies dX12_breaks_21 wd_1208 wd_1209 rfl rfl (Nat.le_of_ble_eq_true rfl) (Nat.le_of_ble_eq_true rfl) (Nat.le_of_ble_eq_true rfl) (by omega) (by omega) (fun q zh7 zm9 zp10 => ?_)
    obtain ⟨rfl, ze8, zn11⟩ := zp10
    subst zm9
    refine z_st (st' := []) rfl ?_
    have zK12 : zh7 o = some (.inr (12, [.ref (o + 1), .ref (o + 2), .ref (o + 3), .int im, .ref (o + 4), .int ba, .int at_, .int sz, .int fa, .int op, .ref (o + 5), .ref (o + 6), .int rm, .ref (o + 7), .ref (o + 8), .int ti, .ref (o + 9), .int tm, .int wh, .ref (o + 10), .ref (o + 11), .ref (o + 12), .ref (o + 13)])) := by rw [ze8]; rw [va_up_ne _ _ (show o ≠ o + 2 by omega)]; exact K0
    have zK13 : zh7 (o + 4) = arI κ 6 fo := by rw [ze8]; rw [va_up_ne _ _ (show o + 4 ≠ o + 2 by omega)]; exact K1
    have zK14 : zh7 (o + 1) = arI κ 340 d := by rw [ze8]; rw [va_up_ne _ _ (show o + 1 ≠ o + 2 by omega)]; exact K2
    have zK15 : zh7 (o + 2) = arI κ 340 d := by rw [ze8]; exact va_up_self _ _ _
    have zK16 : zh7 (o + 5) = arI κ 3 nm := by rw [ze8]; rw [va_up_ne _ _ (show o + 5 ≠ o + 2 by omega)]; exact K4
    have zK17 : zh7 (o + 6) = arI κ 40 g := by rw [ze8]; rw [va_up_ne _ _ (show o + 6 ≠ o + 2 by omega)]; exact K5
    refine z_aload_n X 0 dX12_breaks_24 rfl ?_
    refine z_iload_n X 1 dX12_breaks_25 rfl ?_
    refine z_callV X (r_breaksIn (κ := κ) (n := n) (o := (o)) (v := (vk)) (d := (d)) (m := (d)) (nm := (nm)) (nc := (nc)) (im := (im)) (ba := (ba)) (at_ := (at_)) (sz := (sz)) (fa := (fa)) (op := (op)) (rm := (rm)) (ti := (ti)) (tm := (tm)) (wh := (wh)) zK12 zK14 zK15 zK16 (q8) (by first | assumption | omega) (by first | assumption | omega) (by first | assumption | omega) (by first | assumption | omega)) mk_X12_breaksIn dX12_breaks_26 wd_1241 wd_1243 wd_45 rfl zK12 rfl rfl rfl (Nat.le_of_ble_eq_true rfl) (Nat.le_of_ble_eq_true rfl) (Nat.le_of_ble_eq_true rfl) (by omega) (by omega) (fun q zh25 zm27 zp28 => ?_)
    obtain ⟨ba'18, at'19, sz'20, fa'21, op'22, nm'23, e'24, rfl, ze26, zn29⟩ := zp28
    subst zm27
    refine z_st (st' := [.int (faI (brkF (Tx d) tx (vk + 1) 0 d))]) rfl ?_
    have zK30 : zh25 o = some (.inr (12, [.ref (o + 1), .ref (o + 2), .ref (o + 3), .int im, .ref (o + 4), .int ba'18, .int at'19, .int sz'20, .int fa'21, .int op'22, .ref (o + 5), .ref (o + 6), .int rm, .ref (o + 7), .ref (o + 8), .int ti, .ref (o + 9), .int tm, .int wh, .ref (o + 10), .ref (o + 11), .ref (o + 12), .ref (o + 13)])) := by rw [ze26]; rw [va_up_ne _ _ (show o ≠ o + 2 by omega)]; rw [va_up_ne _ _ (show o ≠ o + 5 by omega)]; exact va_up_self _ _ _
    have zK31 : zh25 (o + 4) = arI κ 6 fo := by rw [ze26]; rw [va_up_ne _ _ (show o + 4 ≠ o + 2 by omega)]; rw [va_up_ne _ _ (show o + 4 ≠ o + 5 by omega)]; rw [va_up_ne _ _ (show o + 4 ≠ o by omega)]; exact zK13
    have zK32 : zh25 (o + 1) = arI κ 340 d := by rw [ze26]; rw [va_up_ne _ _ (show o + 1 ≠ o + 2 by omega)]; rw [va_up_ne _ _ (show o + 1 ≠ o + 5 by omega)]; rw [va_up_ne _ _ (show o + 1 ≠ o by omega)]; exact zK14
    have zK33 : zh25 (o + 2) = arI κ 340 e'24 := by rw [ze26]; exact va_up_self _ _ _
    have zK34 : zh25 (o + 5) = arI κ 3 nm'23 := by rw [ze26]; rw [va_up_ne _ _ (show o + 5 ≠ o + 2 by omega)]; exact va_up_self _ _ _
    have zK35 : zh25 (o + 6) = arI κ 40 g := by rw [ze26]; rw [va_up_ne _ _ (show o + 6 ≠ o + 2 by omega)]; rw [va_up_ne _ _ (show o + 6 ≠ o + 5 by omega)]; rw [va_up_ne _ _ (show o + 6 ≠ o by omega)]; exact zK17
    refine z_istore_n (ls' := [(2, .int (faI (brkF (Tx d) tx (vk + 1) 0 d))), (0, .ref o), (1, .int (nI vk))]) X dX12_breaks_29 (by decide) rfl ?_
    refine z_iload_n X 0 dX12_breaks_30 rfl ?_
    refine z_if_ge X 42 dX12_breaks_31 (by decide) (fun zc36 => ?_) (fun zc36 => ?_)
    · refine z_iload_n X 0 dX12_breaks_42 rfl ?_
      refine z_iret X E dX12_breaks_43 (by omega) (by omega) ⟨ba'18, at'19, sz'20, fa'21, op'22, nm'23, rm, e'24, g, ?_, ?_, ?_⟩
      · rw [opBreaks_0 (by omega) ((brkI_ge hbl).mp zc36)]; first | exact congrArg (fun z => some (Value.int z)) (ansOf_0 _).symm | rfl
      · rw [opBreaks_0 (by omega) ((brkI_ge hbl).mp zc36)]; funext zz; by_cases zq4 : zz = o + 4; (rw [zq4, va_up_self]; exact zK31); by_cases zq3 : zz = o + 6; (rw [zq3, va_up_ne _ _ (show o + 6 ≠ o + 4 by omega), va_up_self]; exact zK35); by_cases zq2 : zz = o + 2; (rw [zq2, va_up_ne _ _ (show o + 2 ≠ o + 4 by omega), va_up_ne _ _ (show o + 2 ≠ o + 6 by omega), va_up_self]; exact zK33); by_cases zq1 : zz = o + 5; (rw [zq1, va_up_ne _ _ (show o + 5 ≠ o + 4 by omega), va_up_ne _ _ (show o + 5 ≠ o + 6 by omega), va_up_ne _ _ (show o + 5 ≠ o + 2 by omega), va_up_self]; exact zK34); by_cases zq0 : zz = o; (rw [zq0, va_up_ne _ _ (show o ≠ o + 4 by omega), va_up_ne _ _ (show o ≠ o + 6 by omega), va_up_ne _ _ (show o ≠ o + 2 by omega), va_up_ne _ _ (show o ≠ o + 5 by omega), va_up_self]; exact zK30); rw [va_up_ne _ _ zq4, va_up_ne _ _ zq3, va_up_ne _ _ zq2, va_up_ne _ _ zq1, va_up_ne _ _ zq0]; rw [ze26, ze8]; simp only [va_up, if_neg zq0, if_neg zq1, if_neg zq2, if_neg zq3, if_neg zq4]
      · rfl
    · refine z_aload_n X 1 dX12_breaks_34 rfl ?_
      refine z_iconst (v := 2) X dX12_breaks_35 (by decide) ?_
      refine z_callV X (r_finds (κ := κ) (n := n) (o := (o)) (k := (2)) (fo := (fo)) (im := (im)) (ba := (ba'18)) (at_ := (at'19)) (sz := (sz'20)) (fa := (fa'21)) (op := (op'22)) (rm := (rm)) (ti := (ti)) (tm := (tm)) (wh := (wh)) zK30 zK31 (by first | assumption | omega) (by first | assumption | omega)) mk_X12_finds dX12_breaks_36 wd_1018 wd_1020 wd_24 rfl zK30 rfl rfl rfl (Nat.le_of_ble_eq_true rfl) (Nat.le_of_ble_eq_true rfl) (Nat.le_of_ble_eq_true rfl) (by omega) (by omega) (fun q zh37 zm39 zp40 => ?_)
      obtain ⟨rfl, ze38, zn41⟩ := zp40
      subst zm39
      refine z_st (st' := [.int (lowE 2)]) rfl ?_
      have zK42 : zh37 o = some (.inr (12, [.ref (o + 1), .ref (o + 2), .ref (o + 3), .int im, .ref (o + 4), .int ba'18, .int at'19, .int sz'20, .int fa'21, .int op'22, .ref (o + 5), .ref (o + 6), .int rm, .ref (o + 7), .ref (o + 8), .int ti, .ref (o + 9), .int tm, .int wh, .ref (o + 10), .ref (o + 11), .ref (o + 12), .ref (o + 13)])) := by rw [ze38]; rw [va_up_ne _ _ (show o ≠ o + 4 by omega)]; exact zK30
      have zK43 : zh37 (o + 4) = arI κ 6 (bmp fo 2) := by rw [ze38]; exact va_up_self _ _ _
      have zK44 : zh37 (o + 1) = arI κ 340 d := by rw [ze38]; rw [va_up_ne _ _ (show o + 1 ≠ o + 4 by omega)]; exact zK32
      have zK45 : zh37 (o + 2) = arI κ 340 e'24 := by rw [ze38]; rw [va_up_ne _ _ (show o + 2 ≠ o + 4 by omega)]; exact zK33
      have zK46 : zh37 (o + 5) = arI κ 3 nm'23 := by rw [ze38]; rw [va_up_ne _ _ (show o + 5 ≠ o + 4 by omega)]; exact zK34
      have zK47 : zh37 (o + 6) = arI κ 40 g := by rw [ze38]; rw [va_up_ne _ _ (show o + 6 ≠ o + 4 by omega)]; exact zK35
      refine z_goto X 43 dX12_breaks_39 (by decide) ?_
      refine z_iret X E dX12_breaks_43 (by omega) (by omega) ⟨ba'18, at'19, sz'20, fa'21, op'22, nm'23, rm, e'24, g, ?_, ?_, ?_⟩
      · rw [opBreaks_2 (by omega) ((brkI_lt hbl).mp (Int32.not_le.mp zc36))]; first | exact congrArg (fun z => some (Value.int z)) (ansOf_0 _).symm | rfl
      · rw [opBreaks_2 (by omega) ((brkI_lt hbl).mp (Int32.not_le.mp zc36))]; funext zz; by_cases zq4 : zz = o + 4; (rw [zq4, va_up_self]; exact zK43); by_cases zq3 : zz = o + 6; (rw [zq3, va_up_ne _ _ (show o + 6 ≠ o + 4 by omega), va_up_self]; exact zK47); by_cases zq2 : zz = o + 2; (rw [zq2, va_up_ne _ _ (show o + 2 ≠ o + 4 by omega), va_up_ne _ _ (show o + 2 ≠ o + 6 by omega), va_up_self]; exact zK45); by_cases zq1 : zz = o + 5; (rw [zq1, va_up_ne _ _ (show o + 5 ≠ o + 4 by omega), va_up_ne _ _ (show o + 5 ≠ o + 6 by omega), va_up_ne _ _ (show o + 5 ≠ o + 2 by omega), va_up_self]; exact zK46); by_cases zq0 : zz = o; (rw [zq0, va_up_ne _ _ (show o ≠ o + 4 by omega), va_up_ne _ _ (show o ≠ o + 6 by omega), va_up_ne _ _ (show o ≠ o + 2 by omega), va_up_ne _ _ (show o ≠ o + 5 by omega), va_up_self]; exact zK42); rw [va_up_ne _ _ zq4, va_up_ne _ _ zq3, va_up_ne _ _ zq2, va_up_ne _ _ zq1, va_up_ne _ _ zq0]; rw [ze38, ze26, ze8]; simp only [va_up, if_neg zq0, if_neg zq1, if_neg zq2, if_neg zq3, if_neg zq4]
      · rfl
  · replace zc6 := b2i_f zc6
    refine z_aload_n X 0 dX12_breaks_7 rfl ?_
    refine z_iconst (v := 1) X dX12_breaks_8 (by decide) ?_
    refine z_callV X (r_finds (κ := κ) (n := n) (o := (o)) (k := (1)) (fo := (fo)) (im := (im)) (ba := (ba)) (at_ := (at_)) (sz := (sz)) (fa := (fa)) (op := (op)) (rm := (rm)) (ti := (ti)) (tm := (tm)) (wh := (wh)) K0 K1 (by first | assumption | omega) (by first | assumption | omega)) mk_X12_finds dX12_breaks_9 wd_1018 wd_1020 wd_24 rfl K0 rfl rfl rfl (Nat.le_of_ble_eq_true rfl) (Nat.le_of_ble_eq_true rfl) (Nat.le_of_ble_eq_true rfl) (by omega) (by omega) (fun q zh48 zm50 zp51 => ?_)
    obtain ⟨rfl, ze49, zn52⟩ := zp51
    subst zm50
    refine z_st (st' := [.int (lowE 1)]) rfl ?_
    have zK53 : zh48 o = some (.inr (12, [.ref (o + 1), .ref (o + 2), .ref (o + 3), .int im, .ref (o + 4), .int ba, .int at_, .int sz, .int fa, .int op, .ref (o + 5), .ref (o + 6), .int rm, .ref (o + 7), .ref (o + 8), .int ti, .ref (o + 9), .int tm, .int wh, .ref (o + 10), .ref (o + 11), .ref (o + 12), .ref (o + 13)])) := by rw [ze49]; rw [va_up_ne _ _ (show o ≠ o + 4 by omega)]; exact K0
    have zK54 : zh48 (o + 4) = arI κ 6 (bmp fo 1) := by rw [ze49]; exact va_up_self _ _ _
    have zK55 : zh48 (o + 1) = arI κ 340 d := by rw [ze49]; rw [va_up_ne _ _ (show o + 1 ≠ o + 4 by omega)]; exact K2
    have zK56 : zh48 (o + 2) = arI κ 340 e := by rw [ze49]; rw [va_up_ne _ _ (show o + 2 ≠ o + 4 by omega)]; exact K3
    have zK57 : zh48 (o + 5) = arI κ 3 nm := by rw [ze49]; rw [va_up_ne _ _ (show o + 5 ≠ o + 4 by omega)]; exact K4
    have zK58 : zh48 (o + 6) = arI κ 40 g := by rw [ze49]; rw [va_up_ne _ _ (show o + 6 ≠ o + 4 by omega)]; exact K5
    refine z_iret X E dX12_breaks_12 (by omega) (by omega) ⟨ba, at_, sz, fa, op, nm, rm, e, g, ?_, ?_, ?_⟩
    · generalize hz : opBreaks (Tx d) tx d v = z; unfold opBreaks at hz; (try simp only [ i_eq, i_lt, i_le, show (-1 : Int32).toInt = -1 by decide, show (0 : Int32).toInt = 0 by decide, show (1 : Int32).toInt = 1 by decide, show (2 : Int32).toInt = 2 by decide, show (3 : Int32).toInt = 3 by decide, show (4 : Int32).toInt = 4 by decide, show (5 : Int32).toInt = 5 by decide, show (6 : Int32).toInt = 6 by decide, show (7 : Int32).toInt = 7 by decide, show (8 : Int32).toInt = 8 by decide, show (9 : Int32).toInt = 9 by decide, show (10 : Int32).toInt = 10 by decide, show (11 : Int32).toInt = 11 by decide, show (12 : Int32).toInt = 12 by decide, show (13 : Int32).toInt = 13 by decide, show (14 : Int32).toInt = 14 by decide, show (15 : Int32).toInt = 15 by decide, show (16 : Int32).toInt = 16 by decide, show (20 : Int32).toInt = 20 by decide, show (39 : Int32).toInt = 39 by decide, show (40 : Int32).toInt = 40 by decide, show (50 : Int32).toInt = 50 by decide, show (60 : Int32).toInt = 60 by decide, show (99 : Int32).toInt = 99 by decide, show (100 : Int32).toInt = 100 by decide, show (999 : Int32).toInt = 999 by decide, show (9999 : Int32).toInt = 9999 by decide, show (99999 : Int32).toInt = 99999 by decide, show (999999 : Int32).toInt = 999999 by decide, show (9999999 : Int32).toInt = 9999999 by decide, show (-50 : Int32).toInt = -50 by decide, show (32 : Int32).toInt = 32 by decide] at *); (repeat first | rw [if_pos (by omega)] at hz | rw [if_neg (by omega)] at hz); subst hz; first | exact congrArg (fun z => some (Value.int z)) (ansOf_0 _).symm | rfl
    · generalize hz : opBreaks (Tx d) tx d v = z; unfold opBreaks at hz; (try simp only [ i_eq, i_lt, i_le, show (-1 : Int32).toInt = -1 by decide, show (0 : Int32).toInt = 0 by decide, show (1 : Int32).toInt = 1 by decide, show (2 : Int32).toInt = 2 by decide, show (3 : Int32).toInt = 3 by decide, show (4 : Int32).toInt = 4 by decide, show (5 : Int32).toInt = 5 by decide, show (6 : Int32).toInt = 6 by decide, show (7 : Int32).toInt = 7 by decide, show (8 : Int32).toInt = 8 by decide, show (9 : Int32).toInt = 9 by decide, show (10 : Int32).toInt = 10 by decide, show (11 : Int32).toInt = 11 by decide, show (12 : Int32).toInt = 12 by decide, show (13 : Int32).toInt = 13 by decide, show (14 : Int32).toInt = 14 by decide, show (15 : Int32).toInt = 15 by decide, show (16 : Int32).toInt = 16 by decide, show (20 : Int32).toInt = 20 by decide, show (39 : Int32).toInt = 39 by decide, show (40 : Int32).toInt = 40 by decide, show (50 : Int32).toInt = 50 by decide, show (60 : Int32).toInt = 60 by decide, show (99 : Int32).toInt = 99 by decide, show (100 : Int32).toInt = 100 by decide, show (999 : Int32).toInt = 999 by decide, show (9999 : Int32).toInt = 9999 by decide, show (99999 : Int32).toInt = 99999 by decide, show (999999 : Int32).toInt = 999999 by decide, show (9999999 : Int32).toInt = 9999999 by decide, show (-50 : Int32).toInt = -50 by decide, show (32 : Int32).toInt = 32 by decide] at *); (repeat first | rw [if_pos (by omega)] at hz | rw [if_neg (by omega)] at hz); subst hz; funext zz; by_cases zq4 : zz = o + 4; (rw [zq4, va_up_self]; exact zK54); by_cases zq3 : zz = o + 6; (rw [zq3, va_up_ne _ _ (show o + 6 ≠ o + 4 by omega), va_up_self]; exact zK58); by_cases zq2 : zz = o + 2; (rw [zq2, va_up_ne _ _ (show o + 2 ≠ o + 4 by omega), va_up_ne _ _ (show o + 2 ≠ o + 6 by omega), va_up_self]; exact zK56); by_cases zq1 : zz = o + 5; (rw [zq1, va_up_ne _ _ (show o + 5 ≠ o + 4 by omega), va_up_ne _ _ (show o + 5 ≠ o + 6 by omega), va_up_ne _ _ (show o + 5 ≠ o + 2 by omega), va_up_self]; exact zK57); by_cases zq0 : zz = o; (rw [zq0, va_up_ne _ _ (show o ≠ o + 4 by omega), va_up_ne _ _ (show o ≠ o + 6 by omega), va_up_ne _ _ (show o ≠ o + 2 by omega), va_up_ne _ _ (show o ≠ o + 5 by omega), va_up_self]; exact zK53); rw [va_up_ne _ _ zq4, va_up_ne _ _ zq3, va_up_ne _ _ zq2, va_up_ne _ _ zq1, va_up_ne _ _ zq0]; rw [ze49]; simp only [va_up, if_neg zq0, if_neg zq1, if_neg zq2, if_neg zq3, if_neg zq4]
    · rfl
def falF (T : Nat → Nat → Int32) (tx : Nat → Nat) (d : Nat → Int32) (v : Nat) : Nat → Nat → Option Nat
  | 0, _ => none
  | f + 1, j => if brkF T tx (v + 1) 0 (upd d 6 (99 - nI j)) = none then some j else falF T tx d v f (j + 1)
theorem falF_go {T : Nat → Nat → Int32} {tx : Nat → Nat} {d : Nat → Int32} {v i : Nat} (hi : i < 150) (h : ¬ brkF T tx (v + 1) 0 (upd d 6 (99 - nI i)) = none) : falF T tx d v (150 - i) i = falF T tx d v (150 - (i + 1)) (i + 1) := by
  rw [show 150 - i = (150 - (i + 1)) + 1 by omega]
  exact if_neg h
theorem falF_hit {T : Nat → Nat → Int32} {tx : Nat → Nat} {d : Nat → Int32} {v i : Nat} (hi : i < 150) (h : brkF T tx (v + 1) 0 (upd d 6 (99 - nI i)) = none) : falF T tx d v (150 - i) i = some i := by
  rw [show 150 - i = (150 - (i + 1)) + 1 by omega]
  exact if_pos h
def opFalls (T : Nat → Nat → Int32) (tx : Nat → Nat) (d : Nat → Int32) (v : Int32) : Nat × Int32 := if ¬ (0 ≤ v.toInt ∧ v.toInt ≤ 60) then (1, 0) else match falF T tx d v.toNatClampNeg 150 0 with
  | none => (2, 0)
  | some j => (0, 99 - nI j)
theorem opFalls_0 {T : Nat → Nat → Int32} {tx : Nat → Nat} {d : Nat → Int32} {v j : Nat} (h : v ≤ 60) (hb : falF T tx d v 150 0 = some j) : opFalls T tx d (nI v) = (0, 99 - nI j) := by
  unfold opFalls
  rw [i_nI (by omega), nI_clamp (by omega), if_neg (by omega), hb]
theorem opFalls_2 {T : Nat → Nat → Int32} {tx : Nat → Nat} {d : Nat → Int32} {v : Nat} (h : v ≤ 60) (hb : falF T tx d v 150 0 = none) : opFalls T tx d (nI v) = (2, 0) := by
  unfold opFalls
  rw [i_nI (by omega), nI_clamp (by omega), if_neg (by omega), hb]
theorem fal_i {j : Nat} (h : j ≤ 150) : (99 - nI j).toInt = 99 - (j : Int) := by
  rw [i_sub] <;> rw [i_nI (by omega), show (99 : Int32).toInt = 99 by decide] <;> omega
theorem fal_s {j : Nat} (h : j < 150) : 99 - nI j + (-1) = 99 - nI (j + 1) := by
  rw [i_eq, fal_i (by omega), i_add] <;> rw [fal_i (by omega), show (-1 : Int32).toInt = -1 by decide] <;> omega
set_option maxHeartbeats 4000000 in
set_option maxRecDepth 100000 in
theorem r_falls {κ : Wc} {l : Launch} {h : Mm} {n : Nat} {o : Nat} {fo : Nat → Int32} {d : Nat → Int32} {e : Nat → Int32} {g : Nat → Int32} {nm : Nat → Int32} {nc : Nat} {tx : Nat → Nat} {im : Int32} {ba : Int32} {at_ : Int32} {sz : Int32} {fa : Int32} {op : Int32} {rm : Int32} {ti : Int32} {tm : Int32} {wh : Int32} {v : Int32} (K0 : h o = some (.inr (12, [.ref (o + 1), .ref (o + 2), .ref (o + 3), .int im, .ref (o + 4), .int ba, .int at_, .int sz, .int fa, .int op, .ref (o + 5), .ref (o + 6), .int rm, .ref (o + 7), .ref (o + 8), .int ti, .ref (o + 9), .int tm, .int wh, .ref (o + 10), .ref (o + 11), .ref (o + 12), .ref (o + 13)]))) (K1 : h (o + 4) = arI κ 6 fo) (K2 : h (o + 1) = arI κ 340 d) (K3 : h (o + 2) = arI κ 340 e) (K4 : h (o + 5) = arI κ 3 nm) (K5 : h (o + 6) = arI κ 40 g) (q8 : ∀ u, u < 2 → d (60 + u) = nI (tx u) ∧ tx u ≤ 50) (hOk : lnOk d) (q4 : d 11 = nI nc) (q5 : nc ≤ 6) : Con κ l yX12_falls cX12_falls 3 (some .int) 45 0 0 [.ref o, .int v] h n (fun q h' n' => ∃ ba' : Int32, ∃ at' : Int32, ∃ sz' : Int32, ∃ fa' : Int32, ∃ op' : Int32, ∃ nm' : Nat → Int32, ∃ rm' : Int32, ∃ e' : Nat → Int32, ∃ g' : Nat → Int32, q = some (.int (ansOf (opFalls (Tx d) tx d v))) ∧ h' = va_up (va_up (va_up (va_up (va_up h o (some (.inr (12, [.ref (o + 1), .ref (o + 2), .ref (o + 3), .int im, .ref (o + 4), .int ba', .int at', .int sz', .int fa', .int op', .ref (o + 5), .ref (o + 6), .int rm', .ref (o + 7), .ref (o + 8), .int ti, .ref (o + 9), .int tm, .int wh, .ref (o + 10), .ref (o + 11), .ref (o + 12), .ref (o + 13)])))) (o + 5) (arI κ 3 nm')) (o + 2) (arI κ 340 e')) (o + 6) (arI κ 40 g')) (o + 4) (arI κ 6 (bump (opFalls (Tx d) tx d v) fo)) ∧ n' = n) := by
  refine Con.of mk_X12_falls (Nat.le_of_ble_eq_true rfl) (fun G hG X E => ?_)
  subst hG
  refine z_ls (ls' := [(0, .ref o), (1, .int v)]) rfl ?_
  refine z_iload_n X 1 dX12_falls_0 rfl ?_
  refine z_callS X (r_isAhead (κ := κ) (n := n) (v := (v))  ) mk_X12_isAhead dX12_falls_1 wd_1200 wd_1201 rfl rfl (Nat.le_of_ble_eq_true rfl) (Nat.le_of_ble_eq_true rfl) (Nat.le_of_ble_eq_true rfl) (by omega) (by omega) (fun q zh1 zm3 zp4 => ?_)
  obtain ⟨rfl, ze2, zn5⟩ := zp4
  subst zm3
  subst zh1
  refine z_st (st' := [.int (b2i (0 ≤ (v : Int32).toInt ∧ (v : Int32).toInt ≤ 60))]) rfl ?_
  refine z_if_ne X 13 dX12_falls_4 (by decide) (fun zc6 => ?_) (fun zc6 => ?_)
  · replace zc6 := b2i_t zc6
    obtain ⟨vk, hvk, rfl⟩ := ix_of (c := v) (len := 61) (by omega) (by omega)
    refine z_bipush (v := 99) X dX12_falls_13 (by decide) ?_
    refine z_toe (y := 99 - nI 0) (by decide) ?_
    refine z_istore_n (ls' := [(2, .int (99 - nI 0)), (0, .ref o), (1, .int (nI vk))]) X dX12_falls_15 (by decide) rfl ?_
    have L16 : ∀ (jj : Nat) (hh16 : Mm)  (i : Nat) (ba2 : Int32) (at2 : Int32) (sz2 : Int32) (fa2 : Int32) (op2 : Int32) (nm2 : Nat → Int32) (e2 : Nat → Int32), (150 - i < jj) → (hh16 = va_up (va_up (va_up h o (some (.inr (12, [.ref (o + 1), .ref (o + 2), .ref (o + 3), .int im, .ref (o + 4), .int ba2, .int at2, .int sz2, .int fa2, .int op2, .ref (o + 5), .ref (o + 6), .int rm, .ref (o + 7), .ref (o + 8), .int ti, .ref (o + 9), .int tm, .int wh, .ref (o + 10), .ref (o + 11), .ref (o + 12), .ref (o + 13)])))) (o + 5) (arI κ 3 nm2)) (o + 2) (arI κ 340 e2)) → (hi : i ≤ 150) → (hR : falF (Tx d) tx d vk 150 0 = falF (Tx d) tx d vk (150 - i) i) → Z κ G 3 16 [(0, .ref o), (1, .int (nI vk)), (2, .int (99 - nI i))] [] hh16 n 0 (0) := by
      intro jj
      induction jj with
      | zero => intro hh16 i ba2 at2 sz2 fa2 op2 nm2 e2 hmu; exact absurd hmu (Nat.not_lt_zero _)
      | succ jj ih16 =>
        intro hh16 i ba2 at2 sz2 fa2 op2 nm2 e2 hmu he16 hi hR
        have zK7 : hh16 o = some (.inr (12, [.ref (o + 1), .ref (o + 2), .ref (o + 3), .int im, .ref (o + 4), .int ba2, .int at2, .int sz2, .int fa2, .int op2, .ref (o + 5), .ref (o + 6), .int rm, .ref (o + 7), .ref (o + 8), .int ti, .ref (o + 9), .int tm, .int wh, .ref (o + 10), .ref (o + 11), .ref (o + 12), .ref (o + 13)])) := by rw [he16]; rw [va_up_ne _ _ (show o ≠ o + 2 by omega)]; rw [va_up_ne _ _ (show o ≠ o + 5 by omega)]; exact va_up_self _ _ _
        have zK8 : hh16 (o + 4) = arI κ 6 fo := by rw [he16]; rw [va_up_ne _ _ (show o + 4 ≠ o + 2 by omega)]; rw [va_up_ne _ _ (show o + 4 ≠ o + 5 by omega)]; rw [va_up_ne _ _ (show o + 4 ≠ o by omega)]; exact K1
        have zK9 : hh16 (o + 1) = arI κ 340 d := by rw [he16]; rw [va_up_ne _ _ (show o + 1 ≠ o + 2 by omega)]; rw [va_up_ne _ _ (show o + 1 ≠ o + 5 by omega)]; rw [va_up_ne _ _ (show o + 1 ≠ o by omega)]; exact K2
        have zK10 : hh16 (o + 2) = arI κ 340 e2 := by rw [he16]; exact va_up_self _ _ _
        have zK11 : hh16 (o + 5) = arI κ 3 nm2 := by rw [he16]; rw [va_up_ne _ _ (show o + 5 ≠ o + 2 by omega)]; exact va_up_self _ _ _
        have zK12 : hh16 (o + 6) = arI κ 40 g := by rw [he16]; rw [va_up_ne _ _ (show o + 6 ≠ o + 2 by omega)]; rw [va_up_ne _ _ (show o + 6 ≠ o + 5 by omega)]; rw [va_up_ne _ _ (show o + 6 ≠ o by omega)]; exact K5
        have hfi := fal_i (j := i) (by omega)
        refine z_iload_n X 2 dX12_falls_16 rfl ?_
        refine z_bipush (v := -50) X dX12_falls_17 (by decide) ?_
        refine z_icmp_lt X 57 dX12_falls_19 (by decide) (fun zc13 => ?_) (fun zc13 => ?_)
        · simp only [i_lt, i_le, hfi, show (-50 : Int32).toInt = -50 by decide] at zc13
          refine z_aload_n X 0 dX12_falls_57 rfl ?_
          refine z_iconst (v := 2) X dX12_falls_58 (by decide) ?_
          refine z_callV X (r_finds (κ := κ) (n := n) (o := (o)) (k := (2)) (fo := (fo)) (im := (im)) (ba := (ba2)) (at_ := (at2)) (sz := (sz2)) (fa := (fa2)) (op := (op2)) (rm := (rm)) (ti := (ti)) (tm := (tm)) (wh := (wh)) zK7 zK8 (by first | assumption | omega) (by first | assumption | omega)) mk_X12_finds dX12_falls_59 wd_1018 wd_1020 wd_24 rfl zK7 rfl rfl rfl (Nat.le_of_ble_eq_true rfl) (Nat.le_of_ble_eq_true rfl) (Nat.le_of_ble_eq_true rfl) (by omega) (by omega) (fun q zh14 zm16 zp17 => ?_)
          obtain ⟨rfl, ze15, zn18⟩ := zp17
          subst zm16
          refine z_st (st' := [.int (lowE 2)]) rfl ?_
          have zK19 : zh14 o = some (.inr (12, [.ref (o + 1), .ref (o + 2), .ref (o + 3), .int im, .ref (o + 4), .int ba2, .int at2, .int sz2, .int fa2, .int op2, .ref (o + 5), .ref (o + 6), .int rm, .ref (o + 7), .ref (o + 8), .int ti, .ref (o + 9), .int tm, .int wh, .ref (o + 10), .ref (o + 11), .ref (o + 12), .ref (o + 13)])) := by rw [ze15]; rw [va_up_ne _ _ (show o ≠ o + 4 by omega)]; exact zK7
          have zK20 : zh14 (o + 4) = arI κ 6 (bmp fo 2) := by rw [ze15]; exact va_up_self _ _ _
          have zK21 : zh14 (o + 1) = arI κ 340 d := by rw [ze15]; rw [va_up_ne _ _ (show o + 1 ≠ o + 4 by omega)]; exact zK9
          have zK22 : zh14 (o + 2) = arI κ 340 e2 := by rw [ze15]; rw [va_up_ne _ _ (show o + 2 ≠ o + 4 by omega)]; exact zK10
          have zK23 : zh14 (o + 5) = arI κ 3 nm2 := by rw [ze15]; rw [va_up_ne _ _ (show o + 5 ≠ o + 4 by omega)]; exact zK11
          have zK24 : zh14 (o + 6) = arI κ 40 g := by rw [ze15]; rw [va_up_ne _ _ (show o + 6 ≠ o + 4 by omega)]; exact zK12
          refine z_iret X E dX12_falls_62 (by omega) (by omega) ⟨ba2, at2, sz2, fa2, op2, nm2, rm, e2, g, ?_, ?_, ?_⟩
          · rw [opFalls_2 (by omega) (hR.trans (by rw [show 150 - i = 0 by omega]; rfl))]; first | exact congrArg (fun z => some (Value.int z)) (ansOf_0 _).symm | rfl
          · rw [opFalls_2 (by omega) (hR.trans (by rw [show 150 - i = 0 by omega]; rfl))]; funext zz; by_cases zq4 : zz = o + 4; (rw [zq4, va_up_self]; exact zK20); by_cases zq3 : zz = o + 6; (rw [zq3, va_up_ne _ _ (show o + 6 ≠ o + 4 by omega), va_up_self]; exact zK24); by_cases zq2 : zz = o + 2; (rw [zq2, va_up_ne _ _ (show o + 2 ≠ o + 4 by omega), va_up_ne _ _ (show o + 2 ≠ o + 6 by omega), va_up_self]; exact zK22); by_cases zq1 : zz = o + 5; (rw [zq1, va_up_ne _ _ (show o + 5 ≠ o + 4 by omega), va_up_ne _ _ (show o + 5 ≠ o + 6 by omega), va_up_ne _ _ (show o + 5 ≠ o + 2 by omega), va_up_self]; exact zK23); by_cases zq0 : zz = o; (rw [zq0, va_up_ne _ _ (show o ≠ o + 4 by omega), va_up_ne _ _ (show o ≠ o + 6 by omega), va_up_ne _ _ (show o ≠ o + 2 by omega), va_up_ne _ _ (show o ≠ o + 5 by omega), va_up_self]; exact zK19); rw [va_up_ne _ _ zq4, va_up_ne _ _ zq3, va_up_ne _ _ zq2, va_up_ne _ _ zq1, va_up_ne _ _ zq0]; rw [ze15, he16]; simp only [va_up, if_neg zq0, if_neg zq1, if_neg zq2, if_neg zq3, if_neg zq4]
          · rfl
        · simp only [i_lt, i_le, hfi, show (-50 : Int32).toInt = -50 by decide] at zc13
          refine z_aload_n X 0 dX12_falls_22 rfl ?_
          refine z_get X fl_X12_7_12 dX12_falls_23 zK7 rfl ?_
          refine z_aload_n X 0 dX12_falls_26 rfl ?_
          refine z_get X fl_X12_13_12 dX12_falls_27 zK7 rfl ?_
          refine z_callS X (r_copies (κ := κ) (n := n) (a := (o + 1)) (b := (o + 2)) (f := (d)) (g := (e2)) zK9 zK10 (by first | assumption | omega)) mk_X12_copies dX12_falls_30 wd_1208 wd_1209 rfl rfl (Nat.le_of_ble_eq_true rfl) (Nat.le_of_ble_eq_true rfl) (Nat.le_of_ble_eq_true rfl) (by omega) (by omega) (fun q zh25 zm27 zp28 => ?_)
          obtain ⟨rfl, ze26, zn29⟩ := zp28
          subst zm27
          refine z_st (st' := []) rfl ?_
          have zK30 : zh25 o = some (.inr (12, [.ref (o + 1), .ref (o + 2), .ref (o + 3), .int im, .ref (o + 4), .int ba2, .int at2, .int sz2, .int fa2, .int op2, .ref (o + 5), .ref (o + 6), .int rm, .ref (o + 7), .ref (o + 8), .int ti, .ref (o + 9), .int tm, .int wh, .ref (o + 10), .ref (o + 11), .ref (o + 12), .ref (o + 13)])) := by rw [ze26]; rw [va_up_ne _ _ (show o ≠ o + 2 by omega)]; exact zK7
          have zK31 : zh25 (o + 4) = arI κ 6 fo := by rw [ze26]; rw [va_up_ne _ _ (show o + 4 ≠ o + 2 by omega)]; exact zK8
          have zK32 : zh25 (o + 1) = arI κ 340 d := by rw [ze26]; rw [va_up_ne _ _ (show o + 1 ≠ o + 2 by omega)]; exact zK9
          have zK33 : zh25 (o + 2) = arI κ 340 d := by rw [ze26]; exact va_up_self _ _ _
          have zK34 : zh25 (o + 5) = arI κ 3 nm2 := by rw [ze26]; rw [va_up_ne _ _ (show o + 5 ≠ o + 2 by omega)]; exact zK11
          have zK35 : zh25 (o + 6) = arI κ 40 g := by rw [ze26]; rw [va_up_ne _ _ (show o + 6 ≠ o + 2 by omega)]; exact zK12
          refine z_aload_n X 0 dX12_falls_33 rfl ?_
          refine z_get X fl_X12_13_12 dX12_falls_34 zK30 rfl ?_
          refine z_bipush (v := 6) X dX12_falls_37 (by decide) ?_
          refine z_iload_n X 2 dX12_falls_39 rfl ?_
          refine z_iast X dX12_falls_40 zK33 (vp_in_nI (n := 6) (by omega) (by omega)) (congrArg (fun z => va_up zh25 (o + 2) (arI κ 340 (upd d z (99 - nI i)))) (nI_clamp (n := 6) (by omega))) ?_
          obtain ⟨zh36, ze37⟩ : ∃ z : Mm, z = va_up zh25 (o + 2) (arI κ 340 (upd d 6 (99 - nI i))) := ⟨_, rfl⟩
          refine z_heap (h' := zh36) ze37.symm ?_
          have zK38 := up_off ze37 (show o ≠ o + 2 by omega) zK30
          have zK39 := up_off ze37 (show o + 4 ≠ o + 2 by omega) zK31
          have zK40 := up_off ze37 (show o + 1 ≠ o + 2 by omega) zK32
          have zK41 := up_at ze37
          have zK42 := up_off ze37 (show o + 5 ≠ o + 2 by omega) zK34
          have zK43 := up_off ze37 (show o + 6 ≠ o + 2 by omega) zK35
          refine z_aload_n X 0 dX12_falls_41 rfl ?_
          refine z_iload_n X 1 dX12_falls_42 rfl ?_
          refine z_callV X (r_breaksIn (κ := κ) (n := n) (o := (o)) (v := (vk)) (d := (d)) (m := (upd d 6 (99 - nI i))) (nm := (nm2)) (nc := (nc)) (im := (im)) (ba := (ba2)) (at_ := (at2)) (sz := (sz2)) (fa := (fa2)) (op := (op2)) (rm := (rm)) (ti := (ti)) (tm := (tm)) (wh := (wh)) zK38 zK40 zK41 zK42 (q8) (lnOk_upd hOk (by omega)) ((pk_un (by omega)).trans q4) (by first | assumption | omega) (by first | assumption | omega)) mk_X12_breaksIn dX12_falls_43 wd_1241 wd_1243 wd_45 rfl zK38 rfl rfl rfl (Nat.le_of_ble_eq_true rfl) (Nat.le_of_ble_eq_true rfl) (Nat.le_of_ble_eq_true rfl) (by omega) (by omega) (fun q zh51 zm53 zp54 => ?_)
          obtain ⟨ba'44, at'45, sz'46, fa'47, op'48, nm'49, e'50, rfl, ze52, zn55⟩ := zp54
          subst zm53
          refine z_st (st' := [.int (faI (brkF (Tx d) tx (vk + 1) 0 (upd d 6 (99 - nI i))))]) rfl ?_
          have zK56 : zh51 o = some (.inr (12, [.ref (o + 1), .ref (o + 2), .ref (o + 3), .int im, .ref (o + 4), .int ba'44, .int at'45, .int sz'46, .int fa'47, .int op'48, .ref (o + 5), .ref (o + 6), .int rm, .ref (o + 7), .ref (o + 8), .int ti, .ref (o + 9), .int tm, .int wh, .ref (o + 10), .ref (o + 11), .ref (o + 12), .ref (o + 13)])) := by rw [ze52]; rw [va_up_ne _ _ (show o ≠ o + 2 by omega)]; rw [va_up_ne _ _ (show o ≠ o + 5 by omega)]; exact va_up_self _ _ _
          have zK57 : zh51 (o + 4) = arI κ 6 fo := by rw [ze52]; rw [va_up_ne _ _ (show o + 4 ≠ o + 2 by omega)]; rw [va_up_ne _ _ (show o + 4 ≠ o + 5 by omega)]; rw [va_up_ne _ _ (show o + 4 ≠ o by omega)]; exact zK39
          have zK58 : zh51 (o + 1) = arI κ 340 d := by rw [ze52]; rw [va_up_ne _ _ (show o + 1 ≠ o + 2 by omega)]; rw [va_up_ne _ _ (show o + 1 ≠ o + 5 by omega)]; rw [va_up_ne _ _ (show o + 1 ≠ o by omega)]; exact zK40
          have zK59 : zh51 (o + 2) = arI κ 340 e'50 := by rw [ze52]; exact va_up_self _ _ _
          have zK60 : zh51 (o + 5) = arI κ 3 nm'49 := by rw [ze52]; rw [va_up_ne _ _ (show o + 5 ≠ o + 2 by omega)]; exact va_up_self _ _ _
          have zK61 : zh51 (o + 6) = arI κ 40 g := by rw [ze52]; rw [va_up_ne _ _ (show o + 6 ≠ o + 2 by omega)]; rw [va_up_ne _ _ (show o + 6 ≠ o + 5 by omega)]; rw [va_up_ne _ _ (show o + 6 ≠ o by omega)]; exact zK43
          have hbl : ∀ q, brkF (Tx d) tx (vk + 1) 0 (upd d 6 (99 - nI i)) = some q → q < 1000 := fun q hq => (by have := brkF_le _ _ _ _ hq; omega)
          refine z_if_ge X 51 dX12_falls_46 (by decide) (fun zc62 => ?_) (fun zc62 => ?_)
          · have hbn := (brkI_ge hbl).mp zc62
            refine z_iinc (v := 99 - nI (i + 1)) (ls' := [(2, .int (99 - nI (i + 1))), (0, .ref o), (1, .int (nI vk))]) X 2 dX12_falls_51 rfl (fal_s (by omega)) (by decide) rfl ?_
            refine z_goto X 16 dX12_falls_54 (by decide) ?_
            refine z_sub (ls' := [(0, .ref o), (1, .int (nI vk)), (2, .int (99 - nI (i + 1)))]) [1, 2, 0] rfl ?_
            exact ih16 _ (i + 1) ba'44 at'45 sz'46 fa'47 op'48 nm'49 e'50 (by omega) (by funext zz; by_cases zq2 : zz = o + 2; (rw [zq2, va_up_self]; exact zK59); by_cases zq1 : zz = o + 5; (rw [zq1, va_up_ne _ _ (show o + 5 ≠ o + 2 by omega), va_up_self]; exact zK60); by_cases zq0 : zz = o; (rw [zq0, va_up_ne _ _ (show o ≠ o + 2 by omega), va_up_ne _ _ (show o ≠ o + 5 by omega), va_up_self]; exact zK56); rw [va_up_ne _ _ zq2, va_up_ne _ _ zq1, va_up_ne _ _ zq0]; rw [ze52, ze37, ze26, he16]; simp only [va_up, if_neg zq0, if_neg zq1, if_neg zq2]) (by first | assumption | rfl | omega) (by rw [hR]; exact falF_go (by omega) hbn)
          · have hbn := (brkI_lt hbl).mp (Int32.not_le.mp zc62)
            refine z_iload_n X 2 dX12_falls_49 rfl ?_
            refine z_iret X E dX12_falls_50 (by omega) (by omega) ⟨ba'44, at'45, sz'46, fa'47, op'48, nm'49, rm, e'50, g, ?_, ?_, ?_⟩
            · rw [opFalls_0 (by omega) (hR.trans (falF_hit (by omega) hbn))]; first | exact congrArg (fun z => some (Value.int z)) (ansOf_0 _).symm | rfl
            · rw [opFalls_0 (by omega) (hR.trans (falF_hit (by omega) hbn))]; funext zz; by_cases zq4 : zz = o + 4; (rw [zq4, va_up_self]; exact zK57); by_cases zq3 : zz = o + 6; (rw [zq3, va_up_ne _ _ (show o + 6 ≠ o + 4 by omega), va_up_self]; exact zK61); by_cases zq2 : zz = o + 2; (rw [zq2, va_up_ne _ _ (show o + 2 ≠ o + 4 by omega), va_up_ne _ _ (show o + 2 ≠ o + 6 by omega), va_up_self]; exact zK59); by_cases zq1 : zz = o + 5; (rw [zq1, va_up_ne _ _ (show o + 5 ≠ o + 4 by omega), va_up_ne _ _ (show o + 5 ≠ o + 6 by omega), va_up_ne _ _ (show o + 5 ≠ o + 2 by omega), va_up_self]; exact zK60); by_cases zq0 : zz = o; (rw [zq0, va_up_ne _ _ (show o ≠ o + 4 by omega), va_up_ne _ _ (show o ≠ o + 6 by omega), va_up_ne _ _ (show o ≠ o + 2 by omega), va_up_ne _ _ (show o ≠ o + 5 by omega), va_up_self]; exact zK56); rw [va_up_ne _ _ zq4, va_up_ne _ _ zq3, va_up_ne _ _ zq2, va_up_ne _ _ zq1, va_up_ne _ _ zq0]; rw [ze52, ze37, ze26, he16]; simp only [va_up, if_neg zq0, if_neg zq1, if_neg zq2, if_neg zq3, if_neg zq4]
            · rfl
    refine z_sub (ls' := [(0, .ref o), (1, .int (nI vk)), (2, .int (99 - nI 0))]) [1, 2, 0] rfl ?_
    exact L16 _ _ 0 ba at_ sz fa op nm e (Nat.lt_succ_self _) (by rw [up_same _ _ K0, up_same _ _ K4, up_same _ _ K3]) (by first | assumption | rfl | omega) (by rfl)
  · replace zc6 := b2i_f zc6
    refine z_aload_n X 0 dX12_falls_7 rfl ?_
    refine z_iconst (v := 1) X dX12_falls_8 (by decide) ?_
    refine z_callV X (r_finds (κ := κ) (n := n) (o := (o)) (k := (1)) (fo := (fo)) (im := (im)) (ba := (ba)) (at_ := (at_)) (sz := (sz)) (fa := (fa)) (op := (op)) (rm := (rm)) (ti := (ti)) (tm := (tm)) (wh := (wh)) K0 K1 (by first | assumption | omega) (by first | assumption | omega)) mk_X12_finds dX12_falls_9 wd_1018 wd_1020 wd_24 rfl K0 rfl rfl rfl (Nat.le_of_ble_eq_true rfl) (Nat.le_of_ble_eq_true rfl) (Nat.le_of_ble_eq_true rfl) (by omega) (by omega) (fun q zh63 zm65 zp66 => ?_)
    obtain ⟨rfl, ze64, zn67⟩ := zp66
    subst zm65
    refine z_st (st' := [.int (lowE 1)]) rfl ?_
    have zK68 : zh63 o = some (.inr (12, [.ref (o + 1), .ref (o + 2), .ref (o + 3), .int im, .ref (o + 4), .int ba, .int at_, .int sz, .int fa, .int op, .ref (o + 5), .ref (o + 6), .int rm, .ref (o + 7), .ref (o + 8), .int ti, .ref (o + 9), .int tm, .int wh, .ref (o + 10), .ref (o + 11), .ref (o + 12), .ref (o + 13)])) := by rw [ze64]; rw [va_up_ne _ _ (show o ≠ o + 4 by omega)]; exact K0
    have zK69 : zh63 (o + 4) = arI κ 6 (bmp fo 1) := by rw [ze64]; exact va_up_self _ _ _
    have zK70 : zh63 (o + 1) = arI κ 340 d := by rw [ze64]; rw [va_up_ne _ _ (show o + 1 ≠ o + 4 by omega)]; exact K2
    have zK71 : zh63 (o + 2) = arI κ 340 e := by rw [ze64]; rw [va_up_ne _ _ (show o + 2 ≠ o + 4 by omega)]; exact K3
    have zK72 : zh63 (o + 5) = arI κ 3 nm := by rw [ze64]; rw [va_up_ne _ _ (show o + 5 ≠ o + 4 by omega)]; exact K4
    have zK73 : zh63 (o + 6) = arI κ 40 g := by rw [ze64]; rw [va_up_ne _ _ (show o + 6 ≠ o + 4 by omega)]; exact K5
    refine z_iret X E dX12_falls_12 (by omega) (by omega) ⟨ba, at_, sz, fa, op, nm, rm, e, g, ?_, ?_, ?_⟩
    · generalize hz : opFalls (Tx d) tx d v = z; unfold opFalls at hz; (try simp only [ i_eq, i_lt, i_le, show (-1 : Int32).toInt = -1 by decide, show (0 : Int32).toInt = 0 by decide, show (1 : Int32).toInt = 1 by decide, show (2 : Int32).toInt = 2 by decide, show (3 : Int32).toInt = 3 by decide, show (4 : Int32).toInt = 4 by decide, show (5 : Int32).toInt = 5 by decide, show (6 : Int32).toInt = 6 by decide, show (7 : Int32).toInt = 7 by decide, show (8 : Int32).toInt = 8 by decide, show (9 : Int32).toInt = 9 by decide, show (10 : Int32).toInt = 10 by decide, show (11 : Int32).toInt = 11 by decide, show (12 : Int32).toInt = 12 by decide, show (13 : Int32).toInt = 13 by decide, show (14 : Int32).toInt = 14 by decide, show (15 : Int32).toInt = 15 by decide, show (16 : Int32).toInt = 16 by decide, show (20 : Int32).toInt = 20 by decide, show (39 : Int32).toInt = 39 by decide, show (40 : Int32).toInt = 40 by decide, show (50 : Int32).toInt = 50 by decide, show (60 : Int32).toInt = 60 by decide, show (99 : Int32).toInt = 99 by decide, show (100 : Int32).toInt = 100 by decide, show (999 : Int32).toInt = 999 by decide, show (9999 : Int32).toInt = 9999 by decide, show (99999 : Int32).toInt = 99999 by decide, show (999999 : Int32).toInt = 999999 by decide, show (9999999 : Int32).toInt = 9999999 by decide, show (-50 : Int32).toInt = -50 by decide, show (32 : Int32).toInt = 32 by decide] at *); (repeat first | rw [if_pos (by omega)] at hz | rw [if_neg (by omega)] at hz); subst hz; first | exact congrArg (fun z => some (Value.int z)) (ansOf_0 _).symm | rfl
    · generalize hz : opFalls (Tx d) tx d v = z; unfold opFalls at hz; (try simp only [ i_eq, i_lt, i_le, show (-1 : Int32).toInt = -1 by decide, show (0 : Int32).toInt = 0 by decide, show (1 : Int32).toInt = 1 by decide, show (2 : Int32).toInt = 2 by decide, show (3 : Int32).toInt = 3 by decide, show (4 : Int32).toInt = 4 by decide, show (5 : Int32).toInt = 5 by decide, show (6 : Int32).toInt = 6 by decide, show (7 : Int32).toInt = 7 by decide, show (8 : Int32).toInt = 8 by decide, show (9 : Int32).toInt = 9 by decide, show (10 : Int32).toInt = 10 by decide, show (11 : Int32).toInt = 11 by decide, show (12 : Int32).toInt = 12 by decide, show (13 : Int32).toInt = 13 by decide, show (14 : Int32).toInt = 14 by decide, show (15 : Int32).toInt = 15 by decide, show (16 : Int32).toInt = 16 by decide, show (20 : Int32).toInt = 20 by decide, show (39 : Int32).toInt = 39 by decide, show (40 : Int32).toInt = 40 by decide, show (50 : Int32).toInt = 50 by decide, show (60 : Int32).toInt = 60 by decide, show (99 : Int32).toInt = 99 by decide, show (100 : Int32).toInt = 100 by decide, show (999 : Int32).toInt = 999 by decide, show (9999 : Int32).toInt = 9999 by decide, show (99999 : Int32).toInt = 99999 by decide, show (999999 : Int32).toInt = 999999 by decide, show (9999999 : Int32).toInt = 9999999 by decide, show (-50 : Int32).toInt = -50 by decide, show (32 : Int32).toInt = 32 by decide] at *); (repeat first | rw [if_pos (by omega)] at hz | rw [if_neg (by omega)] at hz); subst hz; funext zz; by_cases zq4 : zz = o + 4; (rw [zq4, va_up_self]; exact zK69); by_cases zq3 : zz = o + 6; (rw [zq3, va_up_ne _ _ (show o + 6 ≠ o + 4 by omega), va_up_self]; exact zK73); by_cases zq2 : zz = o + 2; (rw [zq2, va_up_ne _ _ (show o + 2 ≠ o + 4 by omega), va_up_ne _ _ (show o + 2 ≠ o + 6 by omega), va_up_self]; exact zK71); by_cases zq1 : zz = o + 5; (rw [zq1, va_up_ne _ _ (show o + 5 ≠ o + 4 by omega), va_up_ne _ _ (show o + 5 ≠ o + 6 by omega), va_up_ne _ _ (show o + 5 ≠ o + 2 by omega), va_up_self]; exact zK72); by_cases zq0 : zz = o; (rw [zq0, va_up_ne _ _ (show o ≠ o + 4 by omega), va_up_ne _ _ (show o ≠ o + 6 by omega), va_up_ne _ _ (show o ≠ o + 2 by omega), va_up_ne _ _ (show o ≠ o + 5 by omega), va_up_self]; exact zK68); rw [va_up_ne _ _ zq4, va_up_ne _ _ zq3, va_up_ne _ _ zq2, va_up_ne _ _ zq1, va_up_ne _ _ zq0]; rw [ze64]; simp only [va_up, if_neg zq0, if_neg zq1, if_neg zq2, if_neg zq3, if_neg zq4]
    · rfl
