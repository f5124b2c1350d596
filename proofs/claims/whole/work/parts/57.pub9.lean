theorem wfC_upd {m : Nat → Int32} {q : Nat} {x : Int32} (h : wfC m) (hq : q < 100) : wfC (upd m q x) := by
  intro c hc
  rw [pk_un (by omega), pk_un (by omega)]
  exact h c hc
theorem wfS_upd {m : Nat → Int32} {q : Nat} {x : Int32} (h : wfS m) (hq : q ≠ 4 ∧ q ≠ 5 ∧ q ≠ 6) : wfS (upd m q x) := by
  unfold wfS
  rw [pk_un (by omega), pk_un (by omega), pk_un (by omega)]
  exact h
theorem wfS_5 {m : Nat → Int32} {x : Int32} (h : wfS m) (h1 : 0 ≤ x) (h2 : x ≤ 99) : wfS (upd m 5 x) := by
  unfold wfS
  rw [pk_un (by omega), pk_us, pk_un (by omega)]
  exact ⟨h.1, h.2.1, h1, h2, h.2.2.2.2⟩
theorem wfS_6 {m : Nat → Int32} {x : Int32} (h : wfS m) (h1 : -50 ≤ x) (h2 : x ≤ 99) : wfS (upd m 6 x) := by
  unfold wfS
  rw [pk_un (by omega), pk_un (by omega), pk_us]
  exact ⟨h.1, h.2.1, h.2.2.1, h.2.2.2.1, h1, h2⟩
set_option maxHeartbeats 4000000 in
set_option maxRecDepth 100000 in
theorem c_ringsWithout {κ : Wc} {l : Launch} {h : Mm} {n : Nat} {o : Nat} {im : Int32} {d : Nat → Int32} {len : Nat} {nc : Nat} {cold : Int32} {wind : Int32} {cs : Nat → Option Nat} {ts : Nat → Option Nat} {alen : Int32} {anow : Int32} {add : Int32} {adr : Int32} {acc : Int32} {aon : Int32} {acold : Int32} {awind : Int32} {af1 : Nat → Int32} {af2 : Nat → Int32} {af3 : Nat → Int32} {ac1 : Nat → Option Nat} {at1 : Nat → Option Nat} {rs2 : Int32} {bt2 : Int32} {g2 : Nat → Int32} {tx : Nat → Nat} {k : Nat} {v : Nat} (K0 : h o = some (.inr (11, [.ref (o + 1), .ref (o + 14), .ref (o + 27), .ref (o + 33), .ref (o + 42), .ref (o + 55), .ref (o + 57), .ref (o + 59), .ref (o + 61), .int im]))) (K1 : h (o + 1) = some (.inr (3, [.ref (o + 1 + 1), .ref (o + 1 + 7), .ref (o + 1 + 9), .ref (o + 1 + 11), .int (d 13)]))) (K2 : h (o + 2) = some (.inr (2, [.ref (o + 3), .ref (o + 4), .ref (o + 5), .ref (o + 6), .ref (o + 7), .int (nI len), .int (d 0), .int (d 2), .int (d 3), .int (nI nc), .int (d 10), .int cold, .int wind]))) (K3 : h (o + 3) = arI κ 40 (win 100 40 d)) (K4 : h (o + 4) = arI κ 40 (win 140 40 d)) (K5 : h (o + 5) = arI κ 6 (win 4 6 d)) (K6 : h (o + 6) = arR κ 1 6 cs) (K7 : h (o + 7) = arR κ 2 2 ts) (K8 : h (o + 27) = some (.inr (2, [.ref (o + 28), .ref (o + 29), .ref (o + 30), .ref (o + 31), .ref (o + 32), .int alen, .int anow, .int add, .int adr, .int acc, .int aon, .int acold, .int awind]))) (K9 : h (o + 28) = arI κ 40 af1) (K10 : h (o + 29) = arI κ 40 af2) (K11 : h (o + 30) = arI κ 6 af3) (K12 : h (o + 31) = arR κ 1 6 ac1) (K13 : h (o + 32) = arR κ 2 2 at1) (K14 : h (o + 57) = some (.inr (6, [.ref (o + 57 + 1), .int rs2, .int bt2]))) (K15 : h (o + 58) = arI κ 40 g2) (q1 : d 1 = nI len) (q2 : 1 ≤ len) (q3 : len ≤ 40) (q4 : d 11 = nI nc) (q5 : nc ≤ 6) (hTs : TsO κ (o + 76) h ts (Tx d) tx) (hCs : CsO (o + 76) h cs d nc) (hCA : CsA (o + 76) h cs) (hS : wfS d) (hC : wfC d) (q6 : v ≤ 100) : Con κ l yX11_ringsWithout cX11_ringsWithout 3 (some .int) 14 0 0 [.ref o, .int (nI k), .int (nI v)] h n (fun q h' n' => ∃ x1' : Int32, ∃ x2' : Int32, ∃ x3' : Int32, ∃ x4' : Int32, ∃ x5' : Int32, ∃ x6' : Int32, ∃ x7' : Int32, ∃ x8' : Int32, ∃ af1' : Nat → Int32, ∃ af2' : Nat → Int32, ∃ af3' : Nat → Int32, ∃ ac1' : Nat → Option Nat, ∃ at1' : Nat → Option Nat, ∃ rs2' : Int32, ∃ g2' : Nat → Int32, q = some (.int (nI (rnE (gbyN (Tx d) tx v (upd d 10 ((d 10) &&& ((1 <<< ((nI k) &&& 31)) ^^^ (-1)))))))) ∧ n' = n ∧ (∀ zq : Nat, zq < (o + 76) → zq ≠ (o + 27) → zq ≠ (o + 28) → zq ≠ (o + 29) → zq ≠ (o + 30) → zq ≠ (o + 31) → zq ≠ (o + 32) → zq ≠ (o + 57) → zq ≠ (o + 58) → h' zq = h zq) ∧ Zr κ (o + 76) h h' ∧ h' (o + 27) = some (.inr (2, [.ref (o + 28), .ref (o + 29), .ref (o + 30), .ref (o + 31), .ref (o + 32), .int x1', .int x2', .int x3', .int x4', .int x5', .int x6', .int x7', .int x8'])) ∧ h' (o + 28) = arI κ 40 af1' ∧ h' (o + 29) = arI κ 40 af2' ∧ h' (o + 30) = arI κ 6 af3' ∧ h' (o + 31) = arR κ 1 6 ac1' ∧ h' (o + 32) = arR κ 2 2 at1' ∧ h' (o + 57) = some (.inr (6, [.ref (o + 57 + 1), .int rs2', .int bt2])) ∧ h' (o + 58) = arI κ 40 g2') := by
  refine Con.of mk_X11_ringsWithout (Nat.le_of_ble_eq_true rfl) (fun G hG X E => ?_)
  subst hG
  refine z_ls (ls' := [(0, .ref o), (1, .int (nI k)), (2, .int (nI v))]) rfl ?_
  have hOk : lnOk d := lnOk_of q1 q2 q3
  refine z_aload_n X 0 dX11_ringsWithout_0 rfl ?_
  refine z_get X fl_X11_22_11 dX11_ringsWithout_1 K0 rfl ?_
  refine z_aload_n X 0 dX11_ringsWithout_4 rfl ?_
  refine z_get X fl_X11_10_11 dX11_ringsWithout_5 K0 rfl ?_
  refine z_get X fl_X11_56_3 dX11_ringsWithout_8 K1 rfl ?_
  refine z_callV X (c_become (κ := κ) (n := n) (i := (o + 27)) (j := (o + 1 + 1)) (f1 := (af1)) (f2 := (af2)) (f3 := (af3)) (c1 := (ac1)) (t1 := (at1)) (g1 := (win 100 40 d)) (g2 := (win 140 40 d)) (g3 := (win 4 6 d)) (c2 := (cs)) (t2 := (ts)) (T := (Tx d)) (tx := (tx)) (len := (alen)) (now := (anow)) (dd := (add)) (dr := (adr)) (cc := (acc)) (on := (aon)) (cold := (acold)) (wind := (awind)) (len2 := (nI len)) (now2 := (d 0)) (dd2 := (d 2)) (dr2 := (d 3)) (cc2 := (nI nc)) (on2 := (d 10)) (cold2 := (cold)) (wind2 := (wind)) K8 K9 K10 K11 K12 K13 K2 K3 K4 K5 K6 K7 (by first | assumption | omega) (by first | assumption | omega) (by first | assumption | omega) (hCA) (hTs)) mk_X2_become dX11_ringsWithout_11 wd_665 wd_666 wd_667 rfl K8 rfl rfl rfl (Nat.le_of_ble_eq_true rfl) (Nat.le_of_ble_eq_true rfl) (Nat.le_of_ble_eq_true rfl) (by omega) (by omega) (fun q zh1 zm3 zp4 => ?_)
  obtain ⟨rfl, zn5, zf6, zr7, zK8, zK9, zK10, zK11, zK12, zK13⟩ := zp4
  subst zm3
  refine z_st (st' := []) rfl ?_
  have zK14 : zh1 o = some (.inr (11, [.ref (o + 1), .ref (o + 14), .ref (o + 27), .ref (o + 33), .ref (o + 42), .ref (o + 55), .ref (o + 57), .ref (o + 59), .ref (o + 61), .int im])) := (zf6 o (by omega) (by omega) (by omega) (by omega) (by omega) (by omega) (by omega)).trans K0
  have zK15 : zh1 (o + 1) = some (.inr (3, [.ref (o + 1 + 1), .ref (o + 1 + 7), .ref (o + 1 + 9), .ref (o + 1 + 11), .int (d 13)])) := (zf6 (o + 1) (by omega) (by omega) (by omega) (by omega) (by omega) (by omega) (by omega)).trans K1
  have zK16 : zh1 (o + 2) = some (.inr (2, [.ref (o + 3), .ref (o + 4), .ref (o + 5), .ref (o + 6), .ref (o + 7), .int (nI len), .int (d 0), .int (d 2), .int (d 3), .int (nI nc), .int (d 10), .int cold, .int wind])) := (zf6 (o + 2) (by omega) (by omega) (by omega) (by omega) (by omega) (by omega) (by omega)).trans K2
  have zK17 : zh1 (o + 3) = arI κ 40 (win 100 40 d) := (zf6 (o + 3) (by omega) (by omega) (by omega) (by omega) (by omega) (by omega) (by omega)).trans K3
  have zK18 : zh1 (o + 4) = arI κ 40 (win 140 40 d) := (zf6 (o + 4) (by omega) (by omega) (by omega) (by omega) (by omega) (by omega) (by omega)).trans K4
  have zK19 : zh1 (o + 5) = arI κ 6 (win 4 6 d) := (zf6 (o + 5) (by omega) (by omega) (by omega) (by omega) (by omega) (by omega) (by omega)).trans K5
  have zK20 : zh1 (o + 6) = arR κ 1 6 cs := (zf6 (o + 6) (by omega) (by omega) (by omega) (by omega) (by omega) (by omega) (by omega)).trans K6
  have zK21 : zh1 (o + 7) = arR κ 2 2 ts := (zf6 (o + 7) (by omega) (by omega) (by omega) (by omega) (by omega) (by omega) (by omega)).trans K7
  have zK22 : zh1 (o + 57) = some (.inr (6, [.ref (o + 57 + 1), .int rs2, .int bt2])) := (zf6 (o + 57) (by omega) (by omega) (by omega) (by omega) (by omega) (by omega) (by omega)).trans K14
  have zK23 : zh1 (o + 58) = arI κ 40 g2 := (zf6 (o + 58) (by omega) (by omega) (by omega) (by omega) (by omega) (by omega) (by omega)).trans K15
  have zl24 : ∀ zq : Nat, zq < (o + 76) → zq ≠ (o + 27) → zq ≠ (o + 28) → zq ≠ (o + 29) → zq ≠ (o + 30) → zq ≠ (o + 31) → zq ≠ (o + 32) → zh1 zq = h zq := by intro zq hzq zn0 zn1 zn2 zn3 zn4 zn5; rw [zf6 zq (by omega) (by omega) (by omega) (by omega) (by omega) (by omega) (by omega)]; try rfl
  have zr25 : Zr κ (o + 76) h zh1 := (Zr.refl).trans zr7
  refine z_aload_n X 0 dX11_ringsWithout_14 rfl ?_
  refine z_get X fl_X11_22_11 dX11_ringsWithout_15 zK14 rfl ?_
  refine z_aload_n X 0 dX11_ringsWithout_18 rfl ?_
  refine z_get X fl_X11_22_11 dX11_ringsWithout_19 zK14 rfl ?_
  refine z_get X fl_X11_128_2 dX11_ringsWithout_22 zK8 rfl ?_
  refine z_iconst (v := 1) X dX11_ringsWithout_25 (by decide) ?_
  refine z_iload_n X 1 dX11_ringsWithout_26 rfl ?_
  refine z_ishl X dX11_ringsWithout_27 ?_
  refine z_iconst (v := -1) X dX11_ringsWithout_28 (by decide) ?_
  refine z_ixor X dX11_ringsWithout_29 ?_
  refine z_iand X dX11_ringsWithout_30 ?_
  refine z_put X fp_X11_128_2 dX11_ringsWithout_31 zK8 (by first | rfl | decide) (by first | rfl | decide) (Nat.le_of_ble_eq_true rfl) rfl ?_
  obtain ⟨zh26, ze27⟩ : ∃ z : Mm, z = va_up zh1 (o + 27) (some (.inr (2, [.ref ((o + 27) + 1), .ref ((o + 27) + 2), .ref ((o + 27) + 3), .ref ((o + 27) + 4), .ref ((o + 27) + 5), .int ((nI len)), .int ((d 0)), .int ((d 2)), .int ((d 3)), .int ((nI nc)), .int (((d 10)) &&& ((1 <<< ((nI k) &&& 31)) ^^^ ((-1)))), .int acold, .int awind]))) := ⟨_, rfl⟩
  refine z_heap (h' := zh26) ze27.symm ?_
  have zK28 := up_off ze27 (show o ≠ o + 27 by omega) zK14
  have zK29 := up_off ze27 (show o + 1 ≠ o + 27 by omega) zK15
  have zK30 := up_off ze27 (show o + 2 ≠ o + 27 by omega) zK16
  have zK31 := up_off ze27 (show o + 3 ≠ o + 27 by omega) zK17
  have zK32 := up_off ze27 (show o + 4 ≠ o + 27 by omega) zK18
  have zK33 := up_off ze27 (show o + 5 ≠ o + 27 by omega) zK19
  have zK34 := up_off ze27 (show o + 6 ≠ o + 27 by omega) zK20
  have zK35 := up_off ze27 (show o + 7 ≠ o + 27 by omega) zK21
  have zK36 := up_off ze27 (show o + 57 ≠ o + 27 by omega) zK22
  have zK37 := up_off ze27 (show o + 58 ≠ o + 27 by omega) zK23
  have zK38 := up_at ze27
  have zK39 := up_off ze27 (show o + 28 ≠ o + 27 by omega) zK9
  have zK40 := up_off ze27 (show o + 29 ≠ o + 27 by omega) zK10
  have zK41 := up_off ze27 (show o + 30 ≠ o + 27 by omega) zK11
  have zK42 := up_off ze27 (show o + 31 ≠ o + 27 by omega) zK12
  have zK43 := up_off ze27 (show o + 32 ≠ o + 27 by omega) zK13
  have zl44 : ∀ zq : Nat, zq < (o + 76) → zq ≠ (o + 27) → zq ≠ (o + 28) → zq ≠ (o + 29) → zq ≠ (o + 30) → zq ≠ (o + 31) → zq ≠ (o + 32) → zh26 zq = h zq := by intro zq hzq zn0 zn1 zn2 zn3 zn4 zn5; rw [ze27, va_up_ne _ _ (show zq ≠ o + 27 by omega)]; exact zl24 zq hzq zn0 zn1 zn2 zn3 zn4 zn5
  have zr45 : Zr κ (o + 76) h zh26 := (zr25).trans (Zr.same (fun zq h1 => by rw [ze27, va_up_ne _ _ (show zq ≠ o + 27 by omega)]))
  refine z_aload_n X 0 dX11_ringsWithout_34 rfl ?_
  refine z_get X fl_X11_22_11 dX11_ringsWithout_35 zK28 rfl ?_
  refine z_iload_n X 2 dX11_ringsWithout_38 rfl ?_
  refine z_callV X (c_go (κ := κ) (n := n) (i := (o + 27)) (len := (len)) (nc := (nc)) (v := (v)) (m := (upd d 10 ((d 10) &&& ((1 <<< ((nI k) &&& 31)) ^^^ (-1))))) (ts := (ts)) (cs := (cs)) (T := (Tx d)) (tx := (tx)) (cold := (acold)) (wind := (awind)) (zK38) ((zK39).trans (congrArg (arI κ 40) (win_off (by omega)).symm)) ((zK40).trans (congrArg (arI κ 40) (win_off (by omega)).symm)) ((zK41).trans (congrArg (arI κ 6) (win_off (by omega)).symm)) zK42 zK43 (by first | assumption | omega) (TsO.mono zr45 hTs) ((CsO.mono zr45 hCs).row (fun z h1 h2 => pk_un (by omega)) q5) ((pk_un (by omega)).trans q1) (by first | assumption | omega) (by first | assumption | omega) ((pk_un (by omega)).trans q4) (by first | assumption | omega) (wfS_upd hS (by omega)) (wfC_upd hC (by omega)) (by first | assumption | omega)) mk_X2_go dX11_ringsWithout_39 wd_596 wd_597 wd_598 rfl zK38 rfl rfl rfl (Nat.le_of_ble_eq_true rfl) (Nat.le_of_ble_eq_true rfl) (Nat.le_of_ble_eq_true rfl) (by omega) (by omega) (fun q zh48 zm50 zp51 => ?_)
  obtain ⟨cold'46, wind'47, rfl, zn52, zf53, zr54, zK55, zK56, zK57⟩ := zp51
  subst zm50
  refine z_st (st' := []) rfl ?_
  have zK58 : zh48 o = some (.inr (11, [.ref (o + 1), .ref (o + 14), .ref (o + 27), .ref (o + 33), .ref (o + 42), .ref (o + 55), .ref (o + 57), .ref (o + 59), .ref (o + 61), .int im])) := (zf53 o (by omega) (by omega) (by omega) (by omega)).trans zK28
  have zK59 : zh48 (o + 1) = some (.inr (3, [.ref (o + 1 + 1), .ref (o + 1 + 7), .ref (o + 1 + 9), .ref (o + 1 + 11), .int (d 13)])) := (zf53 (o + 1) (by omega) (by omega) (by omega) (by omega)).trans zK29
  have zK60 : zh48 (o + 2) = some (.inr (2, [.ref (o + 3), .ref (o + 4), .ref (o + 5), .ref (o + 6), .ref (o + 7), .int (nI len), .int (d 0), .int (d 2), .int (d 3), .int (nI nc), .int (d 10), .int cold, .int wind])) := (zf53 (o + 2) (by omega) (by omega) (by omega) (by omega)).trans zK30
  have zK61 : zh48 (o + 3) = arI κ 40 (win 100 40 d) := (zf53 (o + 3) (by omega) (by omega) (by omega) (by omega)).trans zK31
  have zK62 : zh48 (o + 4) = arI κ 40 (win 140 40 d) := (zf53 (o + 4) (by omega) (by omega) (by omega) (by omega)).trans zK32
  have zK63 : zh48 (o + 5) = arI κ 6 (win 4 6 d) := (zf53 (o + 5) (by omega) (by omega) (by omega) (by omega)).trans zK33
  have zK64 : zh48 (o + 6) = arR κ 1 6 cs := (zf53 (o + 6) (by omega) (by omega) (by omega) (by omega)).trans zK34
  have zK65 : zh48 (o + 7) = arR κ 2 2 ts := (zf53 (o + 7) (by omega) (by omega) (by omega) (by omega)).trans zK35
  have zK66 : zh48 (o + 57) = some (.inr (6, [.ref (o + 57 + 1), .int rs2, .int bt2])) := (zf53 (o + 57) (by omega) (by omega) (by omega) (by omega)).trans zK36
  have zK67 : zh48 (o + 58) = arI κ 40 g2 := (zf53 (o + 58) (by omega) (by omega) (by omega) (by omega)).trans zK37
  have zK68 : zh48 (o + 30) = arI κ 6 ((win 4 6 d)) := (zf53 (o + 30) (by omega) (by omega) (by omega) (by omega)).trans zK41
  have zK69 : zh48 (o + 31) = arR κ 1 6 cs := (zf53 (o + 31) (by omega) (by omega) (by omega) (by omega)).trans zK42
  have zK70 : zh48 (o + 32) = arR κ 2 2 ts := (zf53 (o + 32) (by omega) (by omega) (by omega) (by omega)).trans zK43
  have zl71 : ∀ zq : Nat, zq < (o + 76) → zq ≠ (o + 27) → zq ≠ (o + 28) → zq ≠ (o + 29) → zq ≠ (o + 30) → zq ≠ (o + 31) → zq ≠ (o + 32) → zh48 zq = h zq := by intro zq hzq zn0 zn1 zn2 zn3 zn4 zn5; rw [zf53 zq (by omega) (by omega) (by omega) (by omega)]; exact zl44 zq hzq zn0 zn1 zn2 zn3 zn4 zn5
  have zr72 : Zr κ (o + 76) h zh48 := (zr45).trans zr54
  refine z_aload_n X 0 dX11_ringsWithout_42 rfl ?_
  refine z_get X fl_X11_22_11 dX11_ringsWithout_43 zK58 rfl ?_
  refine z_aload_n X 0 dX11_ringsWithout_46 rfl ?_
  refine z_get X fl_X11_42_11 dX11_ringsWithout_47 zK58 rfl ?_
  refine z_callV X (c_ringsInto (κ := κ) (n := n) (i := (o + 27)) (len := (lnO (gbyN (Tx d) tx v (upd d 10 ((d 10) &&& ((1 <<< ((nI k) &&& 31)) ^^^ (-1))))))) (m := (gbyN (Tx d) tx v (upd d 10 ((d 10) &&& ((1 <<< ((nI k) &&& 31)) ^^^ (-1)))))) (now := ((gbyN (Tx d) tx v (upd d 10 ((d 10) &&& ((1 <<< ((nI k) &&& 31)) ^^^ (-1))))) 0)) (dd := ((gbyN (Tx d) tx v (upd d 10 ((d 10) &&& ((1 <<< ((nI k) &&& 31)) ^^^ (-1))))) 2)) (dr := ((gbyN (Tx d) tx v (upd d 10 ((d 10) &&& ((1 <<< ((nI k) &&& 31)) ^^^ (-1))))) 3)) (cc := (nI nc)) (on := ((upd d 10 ((d 10) &&& ((1 <<< ((nI k) &&& 31)) ^^^ (-1)))) 10)) (cold := (cold'46)) (wind := (wind'47)) (r := (o + 57)) (rs := (rs2)) (bt := (bt2)) (g := (g2)) zK55 zK56 zK66 zK67 ((gbyN_ok (T := Tx d) (tx := tx) (lnOk_upd (m := d) (q := 10) (x := (d 10) &&& ((1 <<< ((nI k) &&& 31)) ^^^ (-1))) hOk (by omega)) v).2.2) (by omega)) mk_X2_ringsInto dX11_ringsWithout_50 wd_643 wd_644 wd_645 rfl zK55 rfl rfl rfl (Nat.le_of_ble_eq_true rfl) (Nat.le_of_ble_eq_true rfl) (Nat.le_of_ble_eq_true rfl) (by omega) (by omega) (fun q zh74 zm76 zp77 => ?_)
  obtain ⟨g'73, rfl, ze75, zn79, zf78⟩ := zp77
  subst zm76
  refine z_st (st' := [.int (nI (rn (gbyN (Tx d) tx v (upd d 10 ((d 10) &&& ((1 <<< ((nI k) &&& 31)) ^^^ (-1))))) (lnO (gbyN (Tx d) tx v (upd d 10 ((d 10) &&& ((1 <<< ((nI k) &&& 31)) ^^^ (-1)))))) (lnO (gbyN (Tx d) tx v (upd d 10 ((d 10) &&& ((1 <<< ((nI k) &&& 31)) ^^^ (-1))))))))]) rfl ?_
  have zK80 : zh74 o = some (.inr (11, [.ref (o + 1), .ref (o + 14), .ref (o + 27), .ref (o + 33), .ref (o + 42), .ref (o + 55), .ref (o + 57), .ref (o + 59), .ref (o + 61), .int im])) := by rw [ze75]; rw [va_up_ne _ _ (show o ≠ o + 58 by omega)]; rw [va_up_ne _ _ (show o ≠ o + 57 by omega)]; exact zK58
  have zK81 : zh74 (o + 1) = some (.inr (3, [.ref (o + 1 + 1), .ref (o + 1 + 7), .ref (o + 1 + 9), .ref (o + 1 + 11), .int (d 13)])) := by rw [ze75]; rw [va_up_ne _ _ (show o + 1 ≠ o + 58 by omega)]; rw [va_up_ne _ _ (show o + 1 ≠ o + 57 by omega)]; exact zK59
  have zK82 : zh74 (o + 2) = some (.inr (2, [.ref (o + 3), .ref (o + 4), .ref (o + 5), .ref (o + 6), .ref (o + 7), .int (nI len), .int (d 0), .int (d 2), .int (d 3), .int (nI nc), .int (d 10), .int cold, .int wind])) := by rw [ze75]; rw [va_up_ne _ _ (show o + 2 ≠ o + 58 by omega)]; rw [va_up_ne _ _ (show o + 2 ≠ o + 57 by omega)]; exact zK60
  have zK83 : zh74 (o + 3) = arI κ 40 (win 100 40 d) := by rw [ze75]; rw [va_up_ne _ _ (show o + 3 ≠ o + 58 by omega)]; rw [va_up_ne _ _ (show o + 3 ≠ o + 57 by omega)]; exact zK61
  have zK84 : zh74 (o + 4) = arI κ 40 (win 140 40 d) := by rw [ze75]; rw [va_up_ne _ _ (show o + 4 ≠ o + 58 by omega)]; rw [va_up_ne _ _ (show o + 4 ≠ o + 57 by omega)]; exact zK62
  have zK85 : zh74 (o + 5) = arI κ 6 (win 4 6 d) := by rw [ze75]; rw [va_up_ne _ _ (show o + 5 ≠ o + 58 by omega)]; rw [va_up_ne _ _ (show o + 5 ≠ o + 57 by omega)]; exact zK63
  have zK86 : zh74 (o + 6) = arR κ 1 6 cs := by rw [ze75]; rw [va_up_ne _ _ (show o + 6 ≠ o + 58 by omega)]; rw [va_up_ne _ _ (show o + 6 ≠ o + 57 by omega)]; exact zK64
  have zK87 : zh74 (o + 7) = arR κ 2 2 ts := by rw [ze75]; rw [va_up_ne _ _ (show o + 7 ≠ o + 58 by omega)]; rw [va_up_ne _ _ (show o + 7 ≠ o + 57 by omega)]; exact zK65
  have zK88 : zh74 (o + 57) = some (.inr (6, [.ref ((o + 57) + 1), .int (nI (rn (gbyN (Tx d) tx v (upd d 10 ((d 10) &&& ((1 <<< ((nI k) &&& 31)) ^^^ (-1))))) (lnO (gbyN (Tx d) tx v (upd d 10 ((d 10) &&& ((1 <<< ((nI k) &&& 31)) ^^^ (-1)))))) (lnO (gbyN (Tx d) tx v (upd d 10 ((d 10) &&& ((1 <<< ((nI k) &&& 31)) ^^^ (-1)))))))), .int bt2])) := by rw [ze75]; rw [va_up_ne _ _ (show o + 57 ≠ o + 58 by omega)]; exact va_up_self _ _ _
  have zK89 : zh74 (o + 58) = arI κ 40 g'73 := by rw [ze75]; exact va_up_self _ _ _
  have zK90 : zh74 (o + 30) = arI κ 6 ((win 4 6 d)) := by rw [ze75]; rw [va_up_ne _ _ (show o + 30 ≠ o + 58 by omega)]; rw [va_up_ne _ _ (show o + 30 ≠ o + 57 by omega)]; exact zK68
  have zK91 : zh74 (o + 31) = arR κ 1 6 cs := by rw [ze75]; rw [va_up_ne _ _ (show o + 31 ≠ o + 58 by omega)]; rw [va_up_ne _ _ (show o + 31 ≠ o + 57 by omega)]; exact zK69
  have zK92 : zh74 (o + 32) = arR κ 2 2 ts := by rw [ze75]; rw [va_up_ne _ _ (show o + 32 ≠ o + 58 by omega)]; rw [va_up_ne _ _ (show o + 32 ≠ o + 57 by omega)]; exact zK70
  have zK93 : zh74 (o + 27) = some (.inr (2, [.ref ((o + 27) + 1), .ref ((o + 27) + 2), .ref ((o + 27) + 3), .ref ((o + 27) + 4), .ref ((o + 27) + 5), .int (nI (lnO (gbyN (Tx d) tx v (upd d 10 ((d 10) &&& ((1 <<< ((nI k) &&& 31)) ^^^ (-1))))))), .int ((gbyN (Tx d) tx v (upd d 10 ((d 10) &&& ((1 <<< ((nI k) &&& 31)) ^^^ (-1))))) 0), .int ((gbyN (Tx d) tx v (upd d 10 ((d 10) &&& ((1 <<< ((nI k) &&& 31)) ^^^ (-1))))) 2), .int ((gbyN (Tx d) tx v (upd d 10 ((d 10) &&& ((1 <<< ((nI k) &&& 31)) ^^^ (-1))))) 3), .int (nI nc), .int ((upd d 10 ((d 10) &&& ((1 <<< ((nI k) &&& 31)) ^^^ (-1)))) 10), .int cold'46, .int wind'47])) := by rw [ze75]; rw [va_up_ne _ _ (show o + 27 ≠ o + 58 by omega)]; rw [va_up_ne _ _ (show o + 27 ≠ o + 57 by omega)]; exact zK55
  have zK94 : zh74 (o + 28) = arI κ 40 (win 100 40 (gbyN (Tx d) tx v (upd d 10 ((d 10) &&& ((1 <<< ((nI k) &&& 31)) ^^^ (-1)))))) := by rw [ze75]; rw [va_up_ne _ _ (show o + 28 ≠ o + 58 by omega)]; rw [va_up_ne _ _ (show o + 28 ≠ o + 57 by omega)]; exact zK56
  have zK95 : zh74 (o + 29) = arI κ 40 (win 140 40 (gbyN (Tx d) tx v (upd d 10 ((d 10) &&& ((1 <<< ((nI k) &&& 31)) ^^^ (-1)))))) := by rw [ze75]; rw [va_up_ne _ _ (show o + 29 ≠ o + 58 by omega)]; rw [va_up_ne _ _ (show o + 29 ≠ o + 57 by omega)]; exact zK57
  have zl96 : ∀ zq : Nat, zq < (o + 76) → zq ≠ (o + 27) → zq ≠ (o + 28) → zq ≠ (o + 29) → zq ≠ (o + 30) → zq ≠ (o + 31) → zq ≠ (o + 32) → zq ≠ (o + 57) → zq ≠ (o + 58) → zh74 zq = h zq := by intro zq hzq zn0 zn1 zn2 zn3 zn4 zn5 zn6 zn7; rw [ze75, va_up_ne _ _ (show zq ≠ o + 58 by omega), va_up_ne _ _ (show zq ≠ o + 57 by omega)]; exact zl71 zq hzq zn0 zn1 zn2 zn3 zn4 zn5
  have zr97 : Zr κ (o + 76) h zh74 := (zr72).trans (Zr.same (fun zq h1 => by rw [ze75, va_up_ne _ _ (show zq ≠ o + 58 by omega), va_up_ne _ _ (show zq ≠ o + 57 by omega)]))
  have hrg := zf78
  have hrn := rn_le (gbyN (Tx d) tx v (upd d 10 ((d 10) &&& ((1 <<< ((nI k) &&& 31)) ^^^ (-1))))) (lnO (gbyN (Tx d) tx v (upd d 10 ((d 10) &&& ((1 <<< ((nI k) &&& 31)) ^^^ (-1)))))) (lnO (gbyN (Tx d) tx v (upd d 10 ((d 10) &&& ((1 <<< ((nI k) &&& 31)) ^^^ (-1))))))
  have hrnq : lnO (gbyN (Tx d) tx v (upd d 10 ((d 10) &&& ((1 <<< ((nI k) &&& 31)) ^^^ (-1))))) ≤ 40 := (gbyN_ok (T := Tx d) (tx := tx) (lnOk_upd (m := d) (q := 10) (x := (d 10) &&& ((1 <<< ((nI k) &&& 31)) ^^^ (-1))) hOk (by omega)) v).2.2
  refine z_iret X E dX11_ringsWithout_53 (by omega) (by omega) ⟨(nI (lnO (gbyN (Tx d) tx v (upd d 10 ((d 10) &&& ((1 <<< ((nI k) &&& 31)) ^^^ (-1))))))), ((gbyN (Tx d) tx v (upd d 10 ((d 10) &&& ((1 <<< ((nI k) &&& 31)) ^^^ (-1))))) 0), ((gbyN (Tx d) tx v (upd d 10 ((d 10) &&& ((1 <<< ((nI k) &&& 31)) ^^^ (-1))))) 2), ((gbyN (Tx d) tx v (upd d 10 ((d 10) &&& ((1 <<< ((nI k) &&& 31)) ^^^ (-1))))) 3), (nI nc), ((upd d 10 ((d 10) &&& ((1 <<< ((nI k) &&& 31)) ^^^ (-1)))) 10), cold'46, wind'47, (win 100 40 (gbyN (Tx d) tx v (upd d 10 ((d 10) &&& ((1 <<< ((nI k) &&& 31)) ^^^ (-1)))))), (win 140 40 (gbyN (Tx d) tx v (upd d 10 ((d 10) &&& ((1 <<< ((nI k) &&& 31)) ^^^ (-1)))))), ((win 4 6 d)), cs, ts, (nI (rn (gbyN (Tx d) tx v (upd d 10 ((d 10) &&& ((1 <<< ((nI k) &&& 31)) ^^^ (-1))))) (lnO (gbyN (Tx d) tx v (upd d 10 ((d 10) &&& ((1 <<< ((nI k) &&& 31)) ^^^ (-1)))))) (lnO (gbyN (Tx d) tx v (upd d 10 ((d 10) &&& ((1 <<< ((nI k) &&& 31)) ^^^ (-1)))))))), g'73, ?_, ?_, ?_, ?_, ?_, ?_, ?_, ?_, ?_, ?_, ?_, ?_⟩
  · rfl
  · rfl
  · exact fun zq hzq zn0 zn1 zn2 zn3 zn4 zn5 zn6 zn7 => zl96 zq hzq zn0 zn1 zn2 zn3 zn4 zn5 zn6 zn7
  · exact zr97
  · exact zK93
  · exact zK94
  · exact zK95
  · exact zK90
  · exact zK91
  · exact zK92
  · exact zK88
  · exact zK89
set_option maxHeartbeats 4000000 in
set_option maxRecDepth 100000 in
theorem p_needed {κ : Wc} {l : Launch} {h : Mm} {n : Nat} {o : Nat} {im : Int32} {d : Nat → Int32} {len : Nat} {nc : Nat} {cold : Int32} {wind : Int32} {cs : Nat → Option Nat} {ts : Nat → Option Nat} {alen : Int32} {anow : Int32} {add : Int32} {adr : Int32} {acc : Int32} {aon : Int32} {acold : Int32} {awind : Int32} {af1 : Nat → Int32} {af2 : Nat → Int32} {af3 : Nat → Int32} {ac1 : Nat → Option Nat} {at1 : Nat → Option Nat} {rs2 : Int32} {bt2 : Int32} {g2 : Nat → Int32} {fo : Nat → Int32} {v : Int32} {tx : Nat → Nat} (K0 : h o = some (.inr (11, [.ref (o + 1), .ref (o + 14), .ref (o + 27), .ref (o + 33), .ref (o + 42), .ref (o + 55), .ref (o + 57), .ref (o + 59), .ref (o + 61), .int im]))) (K1 : h (o + 1) = some (.inr (3, [.ref (o + 1 + 1), .ref (o + 1 + 7), .ref (o + 1 + 9), .ref (o + 1 + 11), .int (d 13)]))) (K2 : h (o + 2) = some (.inr (2, [.ref (o + 3), .ref (o + 4), .ref (o + 5), .ref (o + 6), .ref (o + 7), .int (nI len), .int (d 0), .int (d 2), .int (d 3), .int (nI nc), .int (d 10), .int cold, .int wind]))) (K3 : h (o + 3) = arI κ 40 (win 100 40 d)) (K4 : h (o + 4) = arI κ 40 (win 140 40 d)) (K5 : h (o + 5) = arI κ 6 (win 4 6 d)) (K6 : h (o + 6) = arR κ 1 6 cs) (K7 : h (o + 7) = arR κ 2 2 ts) (K8 : h (o + 27) = some (.inr (2, [.ref (o + 28), .ref (o + 29), .ref (o + 30), .ref (o + 31), .ref (o + 32), .int alen, .int anow, .int add, .int adr, .int acc, .int aon, .int acold, .int awind]))) (K9 : h (o + 28) = arI κ 40 af1) (K10 : h (o + 29) = arI κ 40 af2) (K11 : h (o + 30) = arI κ 6 af3) (K12 : h (o + 31) = arR κ 1 6 ac1) (K13 : h (o + 32) = arR κ 2 2 at1) (K14 : h (o + 57) = some (.inr (6, [.ref (o + 57 + 1), .int rs2, .int bt2]))) (K15 : h (o + 58) = arI κ 40 g2) (K16 : h (o + 61) = arI κ 6 fo) (q1 : d 1 = nI len) (q2 : 1 ≤ len) (q3 : len ≤ 40) (q4 : d 11 = nI nc) (q5 : nc ≤ 6) (hTs : TsO κ (o + 76) h ts (Tx d) tx) (hCs : CsO (o + 76) h cs d nc) (hCA : CsA (o + 76) h cs) (hS : wfS d) (hC : wfC d) : Con κ l yX11_needed cX11_needed 5 (some .int) 16 0 0 [.ref o, .int v] h n (fun q h' n' => ∃ x1' : Int32, ∃ x2' : Int32, ∃ x3' : Int32, ∃ x4' : Int32, ∃ x5' : Int32, ∃ x6' : Int32, ∃ x7' : Int32, ∃ x8' : Int32, ∃ af1' : Nat → Int32, ∃ af2' : Nat → Int32, ∃ af3' : Nat → Int32, ∃ ac1' : Nat → Option Nat, ∃ at1' : Nat → Option Nat, ∃ rs2' : Int32, ∃ g2' : Nat → Int32, q = some (.int (ansOf (opNeeded (Tx d) tx d nc v))) ∧ n' = n ∧ (∀ zq : Nat, zq < (o + 76) → zq ≠ (o + 27) → zq ≠ (o + 28) → zq ≠ (o + 29) → zq ≠ (o + 30) → zq ≠ (o + 31) → zq ≠ (o + 32) → zq ≠ (o + 57) → zq ≠ (o + 58) → zq ≠ (o + 61) → h' zq = h zq) ∧ Zr κ (o + 76) h h' ∧ h' (o + 27) = some (.inr (2, [.ref (o + 28), .ref (o + 29), .ref (o + 30), .ref (o + 31), .ref (o + 32), .int x1', .int x2', .int x3', .int x4', .int x5', .int x6', .int x7', .int x8'])) ∧ h' (o + 28) = arI κ 40 af1' ∧ h' (o + 29) = arI κ 40 af2' ∧ h' (o + 30) = arI κ 6 af3' ∧ h' (o + 31) = arR κ 1 6 ac1' ∧ h' (o + 32) = arR κ 2 2 at1' ∧ h' (o + 57) = some (.inr (6, [.ref (o + 57 + 1), .int rs2', .int bt2])) ∧ h' (o + 58) = arI κ 40 g2' ∧ h' (o + 61) = arI κ 6 (bump (opNeeded (Tx d) tx d nc v) fo)) := by
  refine Con.of mk_X11_needed (Nat.le_of_ble_eq_true rfl) (fun G hG X E => ?_)
  subst hG
  refine z_ls (ls' := [(0, .ref o), (1, .int v)]) rfl ?_
  have hOk : lnOk d := lnOk_of q1 q2 q3
  refine z_iload_n X 1 dX11_needed_0 rfl ?_
  refine z_callS X (c_isAhead (κ := κ) (n := n) (v := (v))  ) mk_X11_isAhead dX11_needed_1 wd_658 wd_659 rfl rfl (Nat.le_of_ble_eq_true rfl) (Nat.le_of_ble_eq_true rfl) (Nat.le_of_ble_eq_true rfl) (by omega) (by omega) (fun q zh1 zm3 zp4 => ?_)
  obtain ⟨rfl, ze2, zn5⟩ := zp4
  subst zm3
  subst zh1
  refine z_st (st' := [.int (b2i (0 ≤ (v : Int32).toInt ∧ (v : Int32).toInt ≤ 60))]) rfl ?_
  refine z_if_ne X 13 dX11_needed_4 (by decide) (fun zc6 => ?_) (fun zc6 => ?_)
  · replace zc6 := b2i_t zc6
    obtain ⟨vk, hvk, rfl⟩ := ix_of (c := v) (len := 61) (by omega) (by omega)
    refine z_aload_n X 0 dX11_needed_13 rfl ?_
    refine z_iload_n X 1 dX11_needed_14 rfl ?_
    refine z_callV X (c_goAhead (κ := κ) (n := n) (o := (o)) (im := (im)) (d := (d)) (len := (len)) (nc := (nc)) (cold := (cold)) (wind := (wind)) (cs := (cs)) (ts := (ts)) (alen := (alen)) (anow := (anow)) (add := (add)) (adr := (adr)) (acc := (acc)) (aon := (aon)) (acold := (acold)) (awind := (awind)) (af1 := (af1)) (af2 := (af2)) (af3 := (af3)) (ac1 := (ac1)) (at1 := (at1)) (tx := (tx)) (v := (vk)) K0 K1 K2 K3 K4 K5 K6 K7 K8 K9 K10 K11 K12 K13 (by first | assumption | omega) (by first | assumption | omega) (by first | assumption | omega) (by first | assumption | omega) (by first | assumption | omega) (hTs) (hCs) (hCA) (hS) (hC) (by first | assumption | omega)) mk_X11_goAhead dX11_needed_15 wd_661 wd_663 wd_19 rfl K0 rfl rfl rfl (Nat.le_of_ble_eq_true rfl) (Nat.le_of_ble_eq_true rfl) (Nat.le_of_ble_eq_true rfl) (by omega) (by omega) (fun q zh9 zm11 zp12 => ?_)
    obtain ⟨cold'7, wind'8, rfl, zn13, zf14, zr15, zK16, zK17, zK18, zK19, zK20, zK21⟩ := zp12
    subst zm11
    refine z_st (st' := []) rfl ?_
    have zK22 : zh9 o = some (.inr (11, [.ref (o + 1), .ref (o + 14), .ref (o + 27), .ref (o + 33), .ref (o + 42), .ref (o + 55), .ref (o + 57), .ref (o + 59), .ref (o + 61), .int im])) := (zf14 o (by omega) (by omega) (by omega) (by omega) (by omega) (by omega) (by omega)).trans K0
    have zK23 : zh9 (o + 1) = some (.inr (3, [.ref (o + 1 + 1), .ref (o + 1 + 7), .ref (o + 1 + 9), .ref (o + 1 + 11), .int (d 13)])) := (zf14 (o + 1) (by omega) (by omega) (by omega) (by omega) (by omega) (by omega) (by omega)).trans K1
    have zK24 : zh9 (o + 2) = some (.inr (2, [.ref (o + 3), .ref (o + 4), .ref (o + 5), .ref (o + 6), .ref (o + 7), .int (nI len), .int (d 0), .int (d 2), .int (d 3), .int (nI nc), .int (d 10), .int cold, .int wind])) := (zf14 (o + 2) (by omega) (by omega) (by omega) (by omega) (by omega) (by omega) (by omega)).trans K2
    have zK25 : zh9 (o + 3) = arI κ 40 (win 100 40 d) := (zf14 (o + 3) (by omega) (by omega) (by omega) (by omega) (by omega) (by omega) (by omega)).trans K3
    have zK26 : zh9 (o + 4) = arI κ 40 (win 140 40 d) := (zf14 (o + 4) (by omega) (by omega) (by omega) (by omega) (by omega) (by omega) (by omega)).trans K4
    have zK27 : zh9 (o + 5) = arI κ 6 (win 4 6 d) := (zf14 (o + 5) (by omega) (by omega) (by omega) (by omega) (by omega) (by omega) (by omega)).trans K5
    have zK28 : zh9 (o + 6) = arR κ 1 6 cs := (zf14 (o + 6) (by omega) (by omega) (by omega) (by omega) (by omega) (by omega) (by omega)).trans K6
    have zK29 : zh9 (o + 7) = arR κ 2 2 ts := (zf14 (o + 7) (by omega) (by omega) (by omega) (by omega) (by omega) (by omega) (by omega)).trans K7
    have zK30 : zh9 (o + 57) = some (.inr (6, [.ref (o + 57 + 1), .int rs2, .int bt2])) := (zf14 (o + 57) (by omega) (by omega) (by omega) (by omega) (by omega) (by omega) (by omega)).trans K14
    have zK31 : zh9 (o + 58) = arI κ 40 g2 := (zf14 (o + 58) (by omega) (by omega) (by omega) (by omega) (by omega) (by omega) (by omega)).trans K15
    have zK32 : zh9 (o + 61) = arI κ 6 fo := (zf14 (o + 61) (by omega) (by omega) (by omega) (by omega) (by omega) (by omega) (by omega)).trans K16
    have zl33 : ∀ zq : Nat, zq < (o + 76) → zq ≠ (o + 27) → zq ≠ (o + 28) → zq ≠ (o + 29) → zq ≠ (o + 30) → zq ≠ (o + 31) → zq ≠ (o + 32) → zh9 zq = h zq := by intro zq hzq zn0 zn1 zn2 zn3 zn4 zn5; rw [zf14 zq (by omega) (by omega) (by omega) (by omega) (by omega) (by omega) (by omega)]; try rfl
    have zr34 : Zr κ (o + 76) h zh9 := (Zr.refl).trans zr15
    have hEl : lnO (gbyN (Tx d) tx vk d) ≤ 40 := (gbyN_ok (T := Tx d) (tx := tx) hOk vk).2.2
    have hEl1 : 1 ≤ lnO (gbyN (Tx d) tx vk d) := (gbyN_ok (T := Tx d) (tx := tx) hOk vk).2.1
    refine z_aload_n X 0 dX11_needed_18 rfl ?_
    refine z_get X fl_X11_22_11 dX11_needed_19 zK22 rfl ?_
    refine z_aload_n X 0 dX11_needed_22 rfl ?_
    refine z_get X fl_X11_42_11 dX11_needed_23 zK22 rfl ?_
    refine z_callV X (c_ringsInto (κ := κ) (n := n) (i := (o + 27)) (len := (lnO (gbyN (Tx d) tx vk d))) (m := (gbyN (Tx d) tx vk d)) (now := ((gbyN (Tx d) tx vk d) 0)) (dd := ((gbyN (Tx d) tx vk d) 2)) (dr := ((gbyN (Tx d) tx vk d) 3)) (cc := (nI nc)) (on := (d 10)) (cold := (cold'7)) (wind := (wind'8)) (r := (o + 57)) (rs := (rs2)) (bt := (bt2)) (g := (g2)) zK16 zK17 zK30 zK31 ((gbyN_ok (T := Tx d) (tx := tx) hOk vk).2.2) (by omega)) mk_X2_ringsInto dX11_needed_26 wd_643 wd_644 wd_645 rfl zK16 rfl rfl rfl (Nat.le_of_ble_eq_true rfl) (Nat.le_of_ble_eq_true rfl) (Nat.le_of_ble_eq_true rfl) (by omega) (by omega) (fun q zh36 zm38 zp39 => ?_)
    obtain ⟨g'35, rfl, ze37, zn41, zf40⟩ := zp39
    subst zm38
    refine z_st (st' := [.int (nI (rn (gbyN (Tx d) tx vk d) (lnO (gbyN (Tx d) tx vk d)) (lnO (gbyN (Tx d) tx vk d))))]) rfl ?_
    have zK42 : zh36 o = some (.inr (11, [.ref (o + 1), .ref (o + 14), .ref (o + 27), .ref (o + 33), .ref (o + 42), .ref (o + 55), .ref (o + 57), .ref (o + 59), .ref (o + 61), .int im])) := by rw [ze37]; rw [va_up_ne _ _ (show o ≠ o + 58 by omega)]; rw [va_up_ne _ _ (show o ≠ o + 57 by omega)]; exact zK22
    have zK43 : zh36 (o + 1) = some (.inr (3, [.ref (o + 1 + 1), .ref (o + 1 + 7), .ref (o + 1 + 9), .ref (o + 1 + 11), .int (d 13)])) := by rw [ze37]; rw [va_up_ne _ _ (show o + 1 ≠ o + 58 by omega)]; rw [va_up_ne _ _ (show o + 1 ≠ o + 57 by omega)]; exact zK23
    have zK44 : zh36 (o + 2) = some (.inr (2, [.ref (o + 3), .ref (o + 4), .ref (o + 5), .ref (o + 6), .ref (o + 7), .int (nI len), .int (d 0), .int (d 2), .int (d 3), .int (nI nc), .int (d 10), .int cold, .int wind])) := by rw [ze37]; rw [va_up_ne _ _ (show o + 2 ≠ o + 58 by omega)]; rw [va_up_ne _ _ (show o + 2 ≠ o + 57 by omega)]; exact zK24
    have zK45 : zh36 (o + 3) = arI κ 40 (win 100 40 d) := by rw [ze37]; rw [va_up_ne _ _ (show o + 3 ≠ o + 58 by omega)]; rw [va_up_ne _ _ (show o + 3 ≠ o + 57 by omega)]; exact zK25
    have zK46 : zh36 (o + 4) = arI κ 40 (win 140 40 d) := by rw [ze37]; rw [va_up_ne _ _ (show o + 4 ≠ o + 58 by omega)]; rw [va_up_ne _ _ (show o + 4 ≠ o + 57 by omega)]; exact zK26
    have zK47 : zh36 (o + 5) = arI κ 6 (win 4 6 d) := by rw [ze37]; rw [va_up_ne _ _ (show o + 5 ≠ o + 58 by omega)]; rw [va_up_ne _ _ (show o + 5 ≠ o + 57 by omega)]; exact zK27
    have zK48 : zh36 (o + 6) = arR κ 1 6 cs := by rw [ze37]; rw [va_up_ne _ _ (show o + 6 ≠ o + 58 by omega)]; rw [va_up_ne _ _ (show o + 6 ≠ o + 57 by omega)]; exact zK28
    have zK49 : zh36 (o + 7) = arR κ 2 2 ts := by rw [ze37]; rw [va_up_ne _ _ (show o + 7 ≠ o + 58 by omega)]; rw [va_up_ne _ _ (show o + 7 ≠ o + 57 by omega)]; exact zK29
    have zK50 : zh36 (o + 57) = some (.inr (6, [.ref ((o + 57) + 1), .int (nI (rn (gbyN (Tx d) tx vk d) (lnO (gbyN (Tx d) tx vk d)) (lnO (gbyN (Tx d) tx vk d)))), .int bt2])) := by rw [ze37]; rw [va_up_ne _ _ (show o + 57 ≠ o + 58 by omega)]; exact va_up_self _ _ _
    have zK51 : zh36 (o + 58) = arI κ 40 g'35 := by rw [ze37]; exact va_up_self _ _ _
    have zK52 : zh36 (o + 61) = arI κ 6 fo := by rw [ze37]; rw [va_up_ne _ _ (show o + 61 ≠ o + 58 by omega)]; rw [va_up_ne _ _ (show o + 61 ≠ o + 57 by omega)]; exact zK32
    have zK53 : zh36 (o + 27) = some (.inr (2, [.ref (o + 28), .ref (o + 29), .ref (o + 30), .ref (o + 31), .ref (o + 32), .int (nI (lnO (gbyN (Tx d) tx vk d))), .int ((gbyN (Tx d) tx vk d) 0), .int ((gbyN (Tx d) tx vk d) 2), .int ((gbyN (Tx d) tx vk d) 3), .int (nI nc), .int (d 10), .int cold'7, .int wind'8])) := by rw [ze37]; rw [va_up_ne _ _ (show o + 27 ≠ o + 58 by omega)]; rw [va_up_ne _ _ (show o + 27 ≠ o + 57 by omega)]; exact zK16
    have zK54 : zh36 (o + 28) = arI κ 40 (win 100 40 (gbyN (Tx d) tx vk d)) := by rw [ze37]; rw [va_up_ne _ _ (show o + 28 ≠ o + 58 by omega)]; rw [va_up_ne _ _ (show o + 28 ≠ o + 57 by omega)]; exact zK17
    have zK55 : zh36 (o + 29) = arI κ 40 (win 140 40 (gbyN (Tx d) tx vk d)) := by rw [ze37]; rw [va_up_ne _ _ (show o + 29 ≠ o + 58 by omega)]; rw [va_up_ne _ _ (show o + 29 ≠ o + 57 by omega)]; exact zK18
    have zK56 : zh36 (o + 30) = arI κ 6 (win 4 6 d) := by rw [ze37]; rw [va_up_ne _ _ (show o + 30 ≠ o + 58 by omega)]; rw [va_up_ne _ _ (show o + 30 ≠ o + 57 by omega)]; exact zK19
    have zK57 : zh36 (o + 31) = arR κ 1 6 cs := by rw [ze37]; rw [va_up_ne _ _ (show o + 31 ≠ o + 58 by omega)]; rw [va_up_ne _ _ (show o + 31 ≠ o + 57 by omega)]; exact zK20
    have zK58 : zh36 (o + 32) = arR κ 2 2 ts := by rw [ze37]; rw [va_up_ne _ _ (show o + 32 ≠ o + 58 by omega)]; rw [va_up_ne _ _ (show o + 32 ≠ o + 57 by omega)]; exact zK21
    have zl59 : ∀ zq : Nat, zq < (o + 76) → zq ≠ (o + 27) → zq ≠ (o + 28) → zq ≠ (o + 29) → zq ≠ (o + 30) → zq ≠ (o + 31) → zq ≠ (o + 32) → zq ≠ (o + 57) → zq ≠ (o + 58) → zh36 zq = h zq := by intro zq hzq zn0 zn1 zn2 zn3 zn4 zn5 zn6 zn7; rw [ze37, va_up_ne _ _ (show zq ≠ o + 58 by omega), va_up_ne _ _ (show zq ≠ o + 57 by omega)]; exact zl33 zq hzq zn0 zn1 zn2 zn3 zn4 zn5
    have zr60 : Zr κ (o + 76) h zh36 := (zr34).trans (Zr.same (fun zq h1 => by rw [ze37, va_up_ne _ _ (show zq ≠ o + 58 by omega), va_up_ne _ _ (show zq ≠ o + 57 by omega)]))
    have hrg := zf40
    have hrm := rn_le (gbyN (Tx d) tx vk d) (lnO (gbyN (Tx d) tx vk d)) (lnO (gbyN (Tx d) tx vk d))
    have hrmq : lnO (gbyN (Tx d) tx vk d) ≤ 40 := (gbyN_ok (T := Tx d) (tx := tx) hOk vk).2.2
    refine z_istore_n (ls' := [(2, .int (nI (rn (gbyN (Tx d) tx vk d) (lnO (gbyN (Tx d) tx vk d)) (lnO (gbyN (Tx d) tx vk d))))), (0, .ref o), (1, .int (nI vk))]) X dX11_needed_29 (by decide) rfl ?_
    refine z_iconst (v := 0) X dX11_needed_30 (by decide) ?_
    refine z_istore_n (ls' := [(3, .int 0), (2, .int (nI (rn (gbyN (Tx d) tx vk d) (lnO (gbyN (Tx d) tx vk d)) (lnO (gbyN (Tx d) tx vk d))))), (0, .ref o), (1, .int (nI vk))]) X dX11_needed_31 (by decide) rfl ?_
    refine z_iconst (v := 0) X dX11_needed_32 (by decide) ?_
    refine z_istore (ls' := [(4, .int 0), (3, .int 0), (2, .int (nI (rn (gbyN (Tx d) tx vk d) (lnO (gbyN (Tx d) tx vk d)) (lnO (gbyN (Tx d) tx vk d))))), (0, .ref o), (1, .int (nI vk))]) X dX11_needed_33 (by decide) rfl ?_
    have L35 : ∀ (jj : Nat) (hh35 : Mm) (k : Nat) (acc : Int32) (y1 : Int32) (y2 : Int32) (y3 : Int32) (y4 : Int32) (y5 : Int32) (y6 : Int32) (y7 : Int32) (y8 : Int32) (b1 : Nat → Int32) (b2 : Nat → Int32) (b3 : Nat → Int32) (b4 : Nat → Option Nat) (b5 : Nat → Option Nat) (y9 : Int32) (b6 : Nat → Int32), (nc - k < jj) → (∀ zq : Nat, zq < (o + 76) → zq ≠ (o + 27) → zq ≠ (o + 28) → zq ≠ (o + 29) → zq ≠ (o + 30) → zq ≠ (o + 31) → zq ≠ (o + 32) → zq ≠ (o + 57) → zq ≠ (o + 58) → hh35 zq = h zq) → Zr κ (o + 76) h hh35 → hh35 (o + 27) = some (.inr (2, [.ref (o + 28), .ref (o + 29), .ref (o + 30), .ref (o + 31), .ref (o + 32), .int y1, .int y2, .int y3, .int y4, .int y5, .int y6, .int y7, .int y8])) → hh35 (o + 28) = arI κ 40 b1 → hh35 (o + 29) = arI κ 40 b2 → hh35 (o + 30) = arI κ 6 b3 → hh35 (o + 31) = arR κ 1 6 b4 → hh35 (o + 32) = arR κ 2 2 b5 → hh35 (o + 57) = some (.inr (6, [.ref (o + 57 + 1), .int y9, .int bt2])) → hh35 (o + 58) = arI κ 40 b6 → (hk : k ≤ nc) → (hacc : acc = nedF (Tx d) tx d vk (rnE (gbyN (Tx d) tx vk d)) k) → Z κ G 5 35 [(0, .ref o), (1, .int (nI vk)), (2, .int (nI (rn (gbyN (Tx d) tx vk d) (lnO (gbyN (Tx d) tx vk d)) (lnO (gbyN (Tx d) tx vk d))))), (3, .int acc), (4, .int (nI k))] [] hh35 n 0 (0) := by
      intro jj
      induction jj with
      | zero => intro hh35 k acc y1 y2 y3 y4 y5 y6 y7 y8 b1 b2 b3 b4 b5 y9 b6 hmu; exact absurd hmu (Nat.not_lt_zero _)
      | succ jj ih35 =>
        intro hh35 k acc y1 y2 y3 y4 y5 y6 y7 y8 b1 b2 b3 b4 b5 y9 b6 hmu zl_35 zr_35 zK61 zK62 zK63 zK64 zK65 zK66 zK67 zK68 hk hacc
        have zK69 : hh35 o = some (.inr (11, [.ref (o + 1), .ref (o + 14), .ref (o + 27), .ref (o + 33), .ref (o + 42), .ref (o + 55), .ref (o + 57), .ref (o + 59), .ref (o + 61), .int im])) := (zl_35 o (by omega) (by omega) (by omega) (by omega) (by omega) (by omega) (by omega) (by omega) (by omega)).trans K0
        have zK70 : hh35 (o + 1) = some (.inr (3, [.ref (o + 1 + 1), .ref (o + 1 + 7), .ref (o + 1 + 9), .ref (o + 1 + 11), .int (d 13)])) := (zl_35 (o + 1) (by omega) (by omega) (by omega) (by omega) (by omega) (by omega) (by omega) (by omega) (by omega)).trans K1
        have zK71 : hh35 (o + 2) = some (.inr (2, [.ref (o + 3), .ref (o + 4), .ref (o + 5), .ref (o + 6), .ref (o + 7), .int (nI len), .int (d 0), .int (d 2), .int (d 3), .int (nI nc), .int (d 10), .int cold, .int wind])) := (zl_35 (o + 2) (by omega) (by omega) (by omega) (by omega) (by omega) (by omega) (by omega) (by omega) (by omega)).trans K2
        have zK72 : hh35 (o + 3) = arI κ 40 (win 100 40 d) := (zl_35 (o + 3) (by omega) (by omega) (by omega) (by omega) (by omega) (by omega) (by omega) (by omega) (by omega)).trans K3
        have zK73 : hh35 (o + 4) = arI κ 40 (win 140 40 d) := (zl_35 (o + 4) (by omega) (by omega) (by omega) (by omega) (by omega) (by omega) (by omega) (by omega) (by omega)).trans K4
        have zK74 : hh35 (o + 5) = arI κ 6 (win 4 6 d) := (zl_35 (o + 5) (by omega) (by omega) (by omega) (by omega) (by omega) (by omega) (by omega) (by omega) (by omega)).trans K5
        have zK75 : hh35 (o + 6) = arR κ 1 6 cs := (zl_35 (o + 6) (by omega) (by omega) (by omega) (by omega) (by omega) (by omega) (by omega) (by omega) (by omega)).trans K6
        have zK76 : hh35 (o + 7) = arR κ 2 2 ts := (zl_35 (o + 7) (by omega) (by omega) (by omega) (by omega) (by omega) (by omega) (by omega) (by omega) (by omega)).trans K7
        have zK77 : hh35 (o + 61) = arI κ 6 fo := (zl_35 (o + 61) (by omega) (by omega) (by omega) (by omega) (by omega) (by omega) (by omega) (by omega) (by omega)).trans K16
        refine z_iload X 4 dX11_needed_35 rfl ?_
        refine z_aload_n X 0 dX11_needed_37 rfl ?_
        refine z_get X fl_X11_10_11 dX11_needed_38 zK69 rfl ?_
        refine z_get X fl_X11_56_3 dX11_needed_41 zK70 rfl ?_
        refine z_get X fl_X11_117_2 dX11_needed_44 zK71 rfl ?_
        refine z_icmp_ge X 84 dX11_needed_47 (by decide) (fun zc78 => ?_) (fun zc78 => ?_)
        · try replace zc78 := (nI_leI (a := nc) (b := k) (by omega) (by omega)).mp zc78
          refine z_iload_n X 3 dX11_needed_84 rfl ?_
          have hkn : k = nc := by omega
          have hgoal : nedF (Tx d) tx d vk (rnE (gbyN (Tx d) tx vk d)) nc = acc := by (rw [hacc, hkn])
          refine z_iret X E dX11_needed_85 (by omega) (by omega) ⟨y1, y2, y3, y4, y5, y6, y7, y8, b1, b2, b3, b4, b5, y9, b6, ?_, ?_, ?_, ?_, ?_, ?_, ?_, ?_, ?_, ?_, ?_, ?_, ?_⟩
          · rw [(opNeeded_0 (T := Tx d) (tx := tx) (d := d) (nc := nc) (by omega)).trans (congrArg (fun z => (0, z)) hgoal)]; exact congrArg (fun z => some (Value.int z)) (ansOf_0 _).symm
          · rfl
          · exact fun zq hzq zn0 zn1 zn2 zn3 zn4 zn5 zn6 zn7 zn8 => zl_35 zq hzq zn0 zn1 zn2 zn3 zn4 zn5 zn6 zn7
          · exact zr_35
          · exact zK61
          · exact zK62
          · exact zK63
          · exact zK64
          · exact zK65
          · exact zK66
          · exact zK67
          · exact zK68
          · rw [(opNeeded_0 (T := Tx d) (tx := tx) (d := d) (nc := nc) (by omega)).trans (congrArg (fun z => (0, z)) hgoal), bump_0]; exact zK77
        · try replace zc78 := mt (nI_leI (a := nc) (b := k) (by omega) (by omega)).mpr zc78
          refine z_aload_n X 0 dX11_needed_50 rfl ?_
          refine z_iload X 4 dX11_needed_51 rfl ?_
          refine z_callV X (c_onOf (κ := κ) (n := n) (o := (o)) (im := (im)) (len := (len)) (nc := (nc)) (cold := (cold)) (wind := (wind)) (c := (nI k)) zK69 zK70 zK71 ) mk_X11_onOf dX11_needed_53 wd_417 wd_419 wd_2 rfl zK69 rfl rfl rfl (Nat.le_of_ble_eq_true rfl) (Nat.le_of_ble_eq_true rfl) (Nat.le_of_ble_eq_true rfl) (by omega) (by omega) (fun q zh79 zm81 zp82 => ?_)
          obtain ⟨rfl, ze80, zn83⟩ := zp82
          subst zm81
          subst zh79
          refine z_st (st' := [.int (d 10 >>> ((nI k) &&& 31) &&& 1)]) rfl ?_
          refine z_iconst (v := 1) X dX11_needed_56 (by decide) ?_
          refine z_icmp_ne X 78 dX11_needed_57 (by decide) (fun zc84 => ?_) (fun zc84 => ?_)
          · have hno : ¬ (onK d k ∧ rnE (nedE (Tx d) tx d vk k) < rnE (gbyN (Tx d) tx vk d)) := fun zq => zc84 zq.1
            refine z_iinc (v := nI (k + 1)) (ls' := [(4, .int (nI (k + 1))), (0, .ref o), (1, .int (nI vk)), (2, .int (nI (rn (gbyN (Tx d) tx vk d) (lnO (gbyN (Tx d) tx vk d)) (lnO (gbyN (Tx d) tx vk d))))), (3, .int acc)]) X 4 dX11_needed_78 rfl (nI_1 (k)) (by decide) rfl ?_
            refine z_goto X 35 dX11_needed_81 (by decide) ?_
            refine z_sub (ls' := [(0, .ref o), (1, .int (nI vk)), (2, .int (nI (rn (gbyN (Tx d) tx vk d) (lnO (gbyN (Tx d) tx vk d)) (lnO (gbyN (Tx d) tx vk d))))), (3, .int acc), (4, .int (nI (k + 1)))]) [1, 2, 3, 4, 0] rfl ?_
            exact ih35 hh35 (k + 1) acc y1 y2 y3 y4 y5 y6 y7 y8 b1 b2 b3 b4 b5 y9 b6 (by omega) (by exact fun zq hzq zn0 zn1 zn2 zn3 zn4 zn5 zn6 zn7 => zl_35 zq hzq zn0 zn1 zn2 zn3 zn4 zn5 zn6 zn7) (zr_35) (by exact zK61) (by exact zK62) (by exact zK63) (by exact zK64) (by exact zK65) (by exact zK66) (by exact zK67) (by exact zK68) (by first | assumption | rfl | omega) (by exact nedF_f hacc hno)
          · have hon : onK d k := zc84
            refine z_aload_n X 0 dX11_needed_60 rfl ?_
            refine z_iload X 4 dX11_needed_61 rfl ?_
            refine z_iload_n X 1 dX11_needed_63 rfl ?_
            refine z_callV X (c_ringsWithout (κ := κ) (n := n) (o := (o)) (im := (im)) (d := (d)) (len := (len)) (nc := (nc)) (cold := (cold)) (wind := (wind)) (cs := (cs)) (ts := (ts)) (alen := (y1)) (anow := (y2)) (add := (y3)) (adr := (y4)) (acc := (y5)) (aon := (y6)) (acold := (y7)) (awind := (y8)) (af1 := (b1)) (af2 := (b2)) (af3 := (b3)) (ac1 := (b4)) (at1 := (b5)) (rs2 := (y9)) (bt2 := (bt2)) (g2 := (b6)) (tx := (tx)) (k := (k)) (v := (vk)) zK69 zK70 zK71 zK72 zK73 zK74 zK75 zK76 zK61 zK62 zK63 zK64 zK65 zK66 zK67 zK68 (by first | assumption | omega) (by first | assumption | omega) (by first | assumption | omega) (by first | assumption | omega) (by first | assumption | omega) (TsO.mono zr_35 hTs) (CsO.mono zr_35 hCs) (CsA.mono zr_35 hCA) (hS) (hC) (by first | assumption | omega)) mk_X11_ringsWithout dX11_needed_64 wd_686 wd_688 wd_20 rfl zK69 rfl rfl rfl (Nat.le_of_ble_eq_true rfl) (Nat.le_of_ble_eq_true rfl) (Nat.le_of_ble_eq_true rfl) (by omega) (by omega) (fun q zh100 zm102 zp103 => ?_)
            obtain ⟨x1'85, x2'86, x3'87, x4'88, x5'89, x6'90, x7'91, x8'92, af1'93, af2'94, af3'95, ac1'96, at1'97, rs2'98, g2'99, rfl, zn104, zf105, zr106, zK107, zK108, zK109, zK110, zK111, zK112, zK113, zK114⟩ := zp103
            subst zm102
            refine z_st (st' := [.int (nI (rnE (gbyN (Tx d) tx vk (upd d 10 ((d 10) &&& ((1 <<< ((nI k) &&& 31)) ^^^ (-1)))))))]) rfl ?_
            have zK115 : zh100 o = some (.inr (11, [.ref (o + 1), .ref (o + 14), .ref (o + 27), .ref (o + 33), .ref (o + 42), .ref (o + 55), .ref (o + 57), .ref (o + 59), .ref (o + 61), .int im])) := (zf105 o (by omega) (by omega) (by omega) (by omega) (by omega) (by omega) (by omega) (by omega) (by omega)).trans zK69
            have zK116 : zh100 (o + 1) = some (.inr (3, [.ref (o + 1 + 1), .ref (o + 1 + 7), .ref (o + 1 + 9), .ref (o + 1 + 11), .int (d 13)])) := (zf105 (o + 1) (by omega) (by omega) (by omega) (by omega) (by omega) (by omega) (by omega) (by omega) (by omega)).trans zK70
            have zK117 : zh100 (o + 2) = some (.inr (2, [.ref (o + 3), .ref (o + 4), .ref (o + 5), .ref (o + 6), .ref (o + 7), .int (nI len), .int (d 0), .int (d 2), .int (d 3), .int (nI nc), .int (d 10), .int cold, .int wind])) := (zf105 (o + 2) (by omega) (by omega) (by omega) (by omega) (by omega) (by omega) (by omega) (by omega) (by omega)).trans zK71
            have zK118 : zh100 (o + 3) = arI κ 40 (win 100 40 d) := (zf105 (o + 3) (by omega) (by omega) (by omega) (by omega) (by omega) (by omega) (by omega) (by omega) (by omega)).trans zK72
            have zK119 : zh100 (o + 4) = arI κ 40 (win 140 40 d) := (zf105 (o + 4) (by omega) (by omega) (by omega) (by omega) (by omega) (by omega) (by omega) (by omega) (by omega)).trans zK73
            have zK120 : zh100 (o + 5) = arI κ 6 (win 4 6 d) := (zf105 (o + 5) (by omega) (by omega) (by omega) (by omega) (by omega) (by omega) (by omega) (by omega) (by omega)).trans zK74
            have zK121 : zh100 (o + 6) = arR κ 1 6 cs := (zf105 (o + 6) (by omega) (by omega) (by omega) (by omega) (by omega) (by omega) (by omega) (by omega) (by omega)).trans zK75
            have zK122 : zh100 (o + 7) = arR κ 2 2 ts := (zf105 (o + 7) (by omega) (by omega) (by omega) (by omega) (by omega) (by omega) (by omega) (by omega) (by omega)).trans zK76
            have zK123 : zh100 (o + 61) = arI κ 6 fo := (zf105 (o + 61) (by omega) (by omega) (by omega) (by omega) (by omega) (by omega) (by omega) (by omega) (by omega)).trans zK77
            have zl124 : ∀ zq : Nat, zq < (o + 76) → zq ≠ (o + 27) → zq ≠ (o + 28) → zq ≠ (o + 29) → zq ≠ (o + 30) → zq ≠ (o + 31) → zq ≠ (o + 32) → zq ≠ (o + 57) → zq ≠ (o + 58) → zh100 zq = h zq := by intro zq hzq zn0 zn1 zn2 zn3 zn4 zn5 zn6 zn7; rw [zf105 zq (by omega) (by omega) (by omega) (by omega) (by omega) (by omega) (by omega) (by omega) (by omega)]; exact zl_35 zq hzq zn0 zn1 zn2 zn3 zn4 zn5 zn6 zn7
            have zr125 : Zr κ (o + 76) h zh100 := (zr_35).trans zr106
            have hrk : rnE (gbyN (Tx d) tx vk (upd d 10 ((d 10) &&& ((1 <<< ((nI k) &&& 31)) ^^^ (-1))))) ≤ 40 := rnE_le (gbyN_ok (lnOk_upd hOk (by omega)) vk)
            refine z_iload_n X 2 dX11_needed_67 rfl ?_
            refine z_icmp_ge X 78 dX11_needed_68 (by decide) (fun zc126 => ?_) (fun zc126 => ?_)
            · try replace zc126 := (nI_leI (a := rn (gbyN (Tx d) tx vk d) (lnO (gbyN (Tx d) tx vk d)) (lnO (gbyN (Tx d) tx vk d))) (b := rnE (gbyN (Tx d) tx vk (upd d 10 ((d 10) &&& ((1 <<< ((nI k) &&& 31)) ^^^ (-1)))))) (by omega) (by omega)).mp zc126
              have hno : ¬ (onK d k ∧ rnE (gbyN (Tx d) tx vk (upd d 10 ((d 10) &&& ((1 <<< ((nI k) &&& 31)) ^^^ (-1))))) < rnE (gbyN (Tx d) tx vk d)) := fun zq => absurd zq.2 (by unfold rnE at *; omega)
              refine z_iinc (v := nI (k + 1)) (ls' := [(4, .int (nI (k + 1))), (0, .ref o), (1, .int (nI vk)), (2, .int (nI (rn (gbyN (Tx d) tx vk d) (lnO (gbyN (Tx d) tx vk d)) (lnO (gbyN (Tx d) tx vk d))))), (3, .int acc)]) X 4 dX11_needed_78 rfl (nI_1 (k)) (by decide) rfl ?_
              refine z_goto X 35 dX11_needed_81 (by decide) ?_
              refine z_sub (ls' := [(0, .ref o), (1, .int (nI vk)), (2, .int (nI (rn (gbyN (Tx d) tx vk d) (lnO (gbyN (Tx d) tx vk d)) (lnO (gbyN (Tx d) tx vk d))))), (3, .int acc), (4, .int (nI (k + 1)))]) [1, 2, 3, 4, 0] rfl ?_
              exact ih35 zh100 (k + 1) acc x1'85 x2'86 x3'87 x4'88 x5'89 x6'90 x7'91 x8'92 af1'93 af2'94 af3'95 ac1'96 at1'97 rs2'98 g2'99 (by omega) (by exact fun zq hzq zn0 zn1 zn2 zn3 zn4 zn5 zn6 zn7 => zl124 zq hzq zn0 zn1 zn2 zn3 zn4 zn5 zn6 zn7) (zr125) (by exact zK107) (by exact zK108) (by exact zK109) (by exact zK110) (by exact zK111) (by exact zK112) (by exact zK113) (by exact zK114) (by first | assumption | rfl | omega) (by exact nedF_f hacc hno)
            · try replace zc126 := mt (nI_leI (a := rn (gbyN (Tx d) tx vk d) (lnO (gbyN (Tx d) tx vk d)) (lnO (gbyN (Tx d) tx vk d))) (b := rnE (gbyN (Tx d) tx vk (upd d 10 ((d 10) &&& ((1 <<< ((nI k) &&& 31)) ^^^ (-1)))))) (by omega) (by omega)).mpr zc126
              have hlt : rnE (gbyN (Tx d) tx vk (upd d 10 ((d 10) &&& ((1 <<< ((nI k) &&& 31)) ^^^ (-1))))) < rnE (gbyN (Tx d) tx vk d) := by (unfold rnE at *; omega)
              refine z_iload_n X 3 dX11_needed_71 rfl ?_
              refine z_iconst (v := 1) X dX11_needed_72 (by decide) ?_
              refine z_iload X 4 dX11_needed_73 rfl ?_
              refine z_ishl X dX11_needed_75 ?_
              refine z_ior X dX11_needed_76 ?_
              refine z_istore_n (ls' := [(3, .int (acc ||| (1 <<< ((nI k) &&& 31)))), (0, .ref o), (1, .int (nI vk)), (2, .int (nI (rn (gbyN (Tx d) tx vk d) (lnO (gbyN (Tx d) tx vk d)) (lnO (gbyN (Tx d) tx vk d))))), (4, .int (nI k))]) X dX11_needed_77 (by decide) rfl ?_
              refine z_iinc (v := nI (k + 1)) (ls' := [(4, .int (nI (k + 1))), (3, .int (acc ||| (1 <<< ((nI k) &&& 31)))), (0, .ref o), (1, .int (nI vk)), (2, .int (nI (rn (gbyN (Tx d) tx vk d) (lnO (gbyN (Tx d) tx vk d)) (lnO (gbyN (Tx d) tx vk d)))))]) X 4 dX11_needed_78 rfl (nI_1 (k)) (by decide) rfl ?_
              refine z_goto X 35 dX11_needed_81 (by decide) ?_
              refine z_sub (ls' := [(0, .ref o), (1, .int (nI vk)), (2, .int (nI (rn (gbyN (Tx d) tx vk d) (lnO (gbyN (Tx d) tx vk d)) (lnO (gbyN (Tx d) tx vk d))))), (3, .int (acc ||| (1 <<< ((nI k) &&& 31)))), (4, .int (nI (k + 1)))]) [2, 3, 4, 1, 0] rfl ?_
              exact ih35 zh100 (k + 1) (acc ||| (1 <<< ((nI k) &&& 31))) x1'85 x2'86 x3'87 x4'88 x5'89 x6'90 x7'91 x8'92 af1'93 af2'94 af3'95 ac1'96 at1'97 rs2'98 g2'99 (by omega) (by exact fun zq hzq zn0 zn1 zn2 zn3 zn4 zn5 zn6 zn7 => zl124 zq hzq zn0 zn1 zn2 zn3 zn4 zn5 zn6 zn7) (zr125) (by exact zK107) (by exact zK108) (by exact zK109) (by exact zK110) (by exact zK111) (by exact zK112) (by exact zK113) (by exact zK114) (by first | assumption | rfl | omega) (by exact nedF_t hacc hon hlt)
    refine z_sub (ls' := [(0, .ref o), (1, .int (nI vk)), (2, .int (nI (rn (gbyN (Tx d) tx vk d) (lnO (gbyN (Tx d) tx vk d)) (lnO (gbyN (Tx d) tx vk d))))), (3, .int 0), (4, .int 0)]) [3, 4, 2, 1, 0] rfl ?_
    exact L35 _ zh36 0 0 (nI (lnO (gbyN (Tx d) tx vk d))) ((gbyN (Tx d) tx vk d) 0) ((gbyN (Tx d) tx vk d) 2) ((gbyN (Tx d) tx vk d) 3) (nI nc) (d 10) cold'7 wind'8 (win 100 40 (gbyN (Tx d) tx vk d)) (win 140 40 (gbyN (Tx d) tx vk d)) (win 4 6 d) cs ts (nI (rn (gbyN (Tx d) tx vk d) (lnO (gbyN (Tx d) tx vk d)) (lnO (gbyN (Tx d) tx vk d)))) g'35 (Nat.lt_succ_self _) (by exact fun zq hzq zn0 zn1 zn2 zn3 zn4 zn5 zn6 zn7 => zl59 zq hzq zn0 zn1 zn2 zn3 zn4 zn5 zn6 zn7) (zr60) (by exact zK53) (by exact zK54) (by exact zK55) (by exact zK56) (by exact zK57) (by exact zK58) (by exact zK50) (by exact zK51) (by first | assumption | rfl | omega) (by rfl)
  · replace zc6 := b2i_f zc6
    refine z_aload_n X 0 dX11_needed_7 rfl ?_
    refine z_iconst (v := 1) X dX11_needed_8 (by decide) ?_
    refine z_callV X (c_fail (κ := κ) (n := n) (o := (o)) (im := (im)) (fo := (fo)) (k := (1)) K0 K16 (by first | assumption | omega) (by first | assumption | omega)) mk_X11_fail dX11_needed_9 wd_260 wd_262 wd_0 rfl K0 rfl rfl rfl (Nat.le_of_ble_eq_true rfl) (Nat.le_of_ble_eq_true rfl) (Nat.le_of_ble_eq_true rfl) (by omega) (by omega) (fun q zh127 zm129 zp130 => ?_)
    obtain ⟨rfl, ze128, zn131⟩ := zp130
    subst zm129
    refine z_st (st' := [.int (lowE 1)]) rfl ?_
    have zK132 : zh127 o = some (.inr (11, [.ref (o + 1), .ref (o + 14), .ref (o + 27), .ref (o + 33), .ref (o + 42), .ref (o + 55), .ref (o + 57), .ref (o + 59), .ref (o + 61), .int im])) := by rw [ze128]; rw [va_up_ne _ _ (show o ≠ o + 61 by omega)]; exact K0
    have zK133 : zh127 (o + 1) = some (.inr (3, [.ref (o + 1 + 1), .ref (o + 1 + 7), .ref (o + 1 + 9), .ref (o + 1 + 11), .int (d 13)])) := by rw [ze128]; rw [va_up_ne _ _ (show o + 1 ≠ o + 61 by omega)]; exact K1
    have zK134 : zh127 (o + 2) = some (.inr (2, [.ref (o + 3), .ref (o + 4), .ref (o + 5), .ref (o + 6), .ref (o + 7), .int (nI len), .int (d 0), .int (d 2), .int (d 3), .int (nI nc), .int (d 10), .int cold, .int wind])) := by rw [ze128]; rw [va_up_ne _ _ (show o + 2 ≠ o + 61 by omega)]; exact K2
    have zK135 : zh127 (o + 3) = arI κ 40 (win 100 40 d) := by rw [ze128]; rw [va_up_ne _ _ (show o + 3 ≠ o + 61 by omega)]; exact K3
    have zK136 : zh127 (o + 4) = arI κ 40 (win 140 40 d) := by rw [ze128]; rw [va_up_ne _ _ (show o + 4 ≠ o + 61 by omega)]; exact K4
    have zK137 : zh127 (o + 5) = arI κ 6 (win 4 6 d) := by rw [ze128]; rw [va_up_ne _ _ (show o + 5 ≠ o + 61 by omega)]; exact K5
    have zK138 : zh127 (o + 6) = arR κ 1 6 cs := by rw [ze128]; rw [va_up_ne _ _ (show o + 6 ≠ o + 61 by omega)]; exact K6
    have zK139 : zh127 (o + 7) = arR κ 2 2 ts := by rw [ze128]; rw [va_up_ne _ _ (show o + 7 ≠ o + 61 by omega)]; exact K7
    have zK140 : zh127 (o + 27) = some (.inr (2, [.ref (o + 28), .ref (o + 29), .ref (o + 30), .ref (o + 31), .ref (o + 32), .int alen, .int anow, .int add, .int adr, .int acc, .int aon, .int acold, .int awind])) := by rw [ze128]; rw [va_up_ne _ _ (show o + 27 ≠ o + 61 by omega)]; exact K8
    have zK141 : zh127 (o + 28) = arI κ 40 af1 := by rw [ze128]; rw [va_up_ne _ _ (show o + 28 ≠ o + 61 by omega)]; exact K9
    have zK142 : zh127 (o + 29) = arI κ 40 af2 := by rw [ze128]; rw [va_up_ne _ _ (show o + 29 ≠ o + 61 by omega)]; exact K10
    have zK143 : zh127 (o + 30) = arI κ 6 af3 := by rw [ze128]; rw [va_up_ne _ _ (show o + 30 ≠ o + 61 by omega)]; exact K11
    have zK144 : zh127 (o + 31) = arR κ 1 6 ac1 := by rw [ze128]; rw [va_up_ne _ _ (show o + 31 ≠ o + 61 by omega)]; exact K12
    have zK145 : zh127 (o + 32) = arR κ 2 2 at1 := by rw [ze128]; rw [va_up_ne _ _ (show o + 32 ≠ o + 61 by omega)]; exact K13
    have zK146 : zh127 (o + 57) = some (.inr (6, [.ref (o + 57 + 1), .int rs2, .int bt2])) := by rw [ze128]; rw [va_up_ne _ _ (show o + 57 ≠ o + 61 by omega)]; exact K14
    have zK147 : zh127 (o + 58) = arI κ 40 g2 := by rw [ze128]; rw [va_up_ne _ _ (show o + 58 ≠ o + 61 by omega)]; exact K15
    have zK148 : zh127 (o + 61) = arI κ 6 (bmp fo 1) := by rw [ze128]; exact va_up_self _ _ _
    have zl149 : ∀ zq : Nat, zq < (o + 76) → zq ≠ (o + 61) → zh127 zq = h zq := by intro zq hzq zn0; rw [ze128, va_up_ne _ _ (show zq ≠ o + 61 by omega)]; try rfl
    have zr150 : Zr κ (o + 76) h zh127 := (Zr.refl).trans (Zr.same (fun zq h1 => by rw [ze128, va_up_ne _ _ (show zq ≠ o + 61 by omega)]))
    refine z_iret X E dX11_needed_12 (by omega) (by omega) ⟨alen, anow, add, adr, acc, aon, acold, awind, af1, af2, af3, ac1, at1, rs2, g2, ?_, ?_, ?_, ?_, ?_, ?_, ?_, ?_, ?_, ?_, ?_, ?_, ?_⟩
    · rw [(show opNeeded (Tx d) tx d nc v = (1, 0) from if_pos (by assumption))]; first | exact congrArg (fun z => some (Value.int z)) (ansOf_0 _).symm | rfl
    · rfl
    · exact fun zq hzq zn0 zn1 zn2 zn3 zn4 zn5 zn6 zn7 zn8 => zl149 zq hzq zn8
    · exact zr150
    · exact zK140
    · exact zK141
    · exact zK142
    · exact zK143
    · exact zK144
    · exact zK145
    · exact zK146
    · exact zK147
    · rw [(show opNeeded (Tx d) tx d nc v = (1, 0) from if_pos (by assumption))]; first | (rw [bump_0]; exact zK148) | exact zK148
set_option maxHeartbeats 4000000 in
set_option maxRecDepth 100000 in
theorem p_little {κ : Wc} {l : Launch} {h : Mm} {n : Nat} {o : Nat} {im : Int32} {d : Nat → Int32} {len : Nat} {nc : Nat} {cold : Int32} {wind : Int32} {cs : Nat → Option Nat} {ts : Nat → Option Nat} {alen : Int32} {anow : Int32} {add : Int32} {adr : Int32} {acc : Int32} {aon : Int32} {acold : Int32} {awind : Int32} {af1 : Nat → Int32} {af2 : Nat → Int32} {af3 : Nat → Int32} {ac1 : Nat → Option Nat} {at1 : Nat → Option Nat} {rs2 : Int32} {bt2 : Int32} {g2 : Nat → Int32} {fo : Nat → Int32} {v : Int32} {r : Int32} {tx : Nat → Nat} (K0 : h o = some (.inr (11, [.ref (o + 1), .ref (o + 14), .ref (o + 27), .ref (o + 33), .ref (o + 42), .ref (o + 55), .ref (o + 57), .ref (o + 59), .ref (o + 61), .int im]))) (K1 : h (o + 1) = some (.inr (3, [.ref (o + 1 + 1), .ref (o + 1 + 7), .ref (o + 1 + 9), .ref (o + 1 + 11), .int (d 13)]))) (K2 : h (o + 2) = some (.inr (2, [.ref (o + 3), .ref (o + 4), .ref (o + 5), .ref (o + 6), .ref (o + 7), .int (nI len), .int (d 0), .int (d 2), .int (d 3), .int (nI nc), .int (d 10), .int cold, .int wind]))) (K3 : h (o + 3) = arI κ 40 (win 100 40 d)) (K4 : h (o + 4) = arI κ 40 (win 140 40 d)) (K5 : h (o + 5) = arI κ 6 (win 4 6 d)) (K6 : h (o + 6) = arR κ 1 6 cs) (K7 : h (o + 7) = arR κ 2 2 ts) (K8 : h (o + 27) = some (.inr (2, [.ref (o + 28), .ref (o + 29), .ref (o + 30), .ref (o + 31), .ref (o + 32), .int alen, .int anow, .int add, .int adr, .int acc, .int aon, .int acold, .int awind]))) (K9 : h (o + 28) = arI κ 40 af1) (K10 : h (o + 29) = arI κ 40 af2) (K11 : h (o + 30) = arI κ 6 af3) (K12 : h (o + 31) = arR κ 1 6 ac1) (K13 : h (o + 32) = arR κ 2 2 at1) (K14 : h (o + 57) = some (.inr (6, [.ref (o + 57 + 1), .int rs2, .int bt2]))) (K15 : h (o + 58) = arI κ 40 g2) (K16 : h (o + 61) = arI κ 6 fo) (q1 : d 1 = nI len) (q2 : 1 ≤ len) (q3 : len ≤ 40) (q4 : d 11 = nI nc) (q5 : nc ≤ 6) (hTs : TsO κ (o + 76) h ts (Tx d) tx) (hCs : CsO (o + 76) h cs d nc) (hCA : CsA (o + 76) h cs) (hS : wfS d) (hC : wfC d) : Con κ l yX11_little cX11_little 4 (some .int) 14 0 0 [.ref o, .int v, .int r] h n (fun q h' n' => ∃ x1' : Int32, ∃ x2' : Int32, ∃ x3' : Int32, ∃ x4' : Int32, ∃ x5' : Int32, ∃ x6' : Int32, ∃ x7' : Int32, ∃ x8' : Int32, ∃ af1' : Nat → Int32, ∃ af2' : Nat → Int32, ∃ af3' : Nat → Int32, ∃ ac1' : Nat → Option Nat, ∃ at1' : Nat → Option Nat, ∃ rs2' : Int32, ∃ g2' : Nat → Int32, q = some (.int (ansOf (opLittle (Tx d) tx d v r))) ∧ n' = n ∧ (∀ zq : Nat, zq < (o + 76) → zq ≠ (o + 27) → zq ≠ (o + 28) → zq ≠ (o + 29) → zq ≠ (o + 30) → zq ≠ (o + 31) → zq ≠ (o + 32) → zq ≠ (o + 57) → zq ≠ (o + 58) → zq ≠ (o + 61) → h' zq = h zq) ∧ Zr κ (o + 76) h h' ∧ h' (o + 27) = some (.inr (2, [.ref (o + 28), .ref (o + 29), .ref (o + 30), .ref (o + 31), .ref (o + 32), .int x1', .int x2', .int x3', .int x4', .int x5', .int x6', .int x7', .int x8'])) ∧ h' (o + 28) = arI κ 40 af1' ∧ h' (o + 29) = arI κ 40 af2' ∧ h' (o + 30) = arI κ 6 af3' ∧ h' (o + 31) = arR κ 1 6 ac1' ∧ h' (o + 32) = arR κ 2 2 at1' ∧ h' (o + 57) = some (.inr (6, [.ref (o + 57 + 1), .int rs2', .int bt2])) ∧ h' (o + 58) = arI κ 40 g2' ∧ h' (o + 61) = arI κ 6 (bump (opLittle (Tx d) tx d v r) fo)) := by
  refine Con.of mk_X11_little (Nat.le_of_ble_eq_true rfl) (fun G hG X E => ?_)
  subst hG
  refine z_ls (ls' := [(0, .ref o), (1, .int v), (2, .int r)]) rfl ?_
  have hOk : lnOk d := lnOk_of q1 q2 q3
  refine z_iload_n X 1 dX11_little_0 rfl ?_
  refine z_callS X (c_isAhead (κ := κ) (n := n) (v := (v))  ) mk_X11_isAhead dX11_little_1 wd_658 wd_659 rfl rfl (Nat.le_of_ble_eq_true rfl) (Nat.le_of_ble_eq_true rfl) (Nat.le_of_ble_eq_true rfl) (by omega) (by omega) (fun q zh1 zm3 zp4 => ?_)
  obtain ⟨rfl, ze2, zn5⟩ := zp4
  subst zm3
  subst zh1
  refine z_st (st' := [.int (b2i (0 ≤ (v : Int32).toInt ∧ (v : Int32).toInt ≤ 60))]) rfl ?_
  refine z_if_eq X 17 dX11_little_4 (by decide) (fun zc6 => ?_) (fun zc6 => ?_)
  · replace zc6 := b2i_f zc6
    refine z_aload_n X 0 dX11_little_17 rfl ?_
    refine z_iconst (v := 1) X dX11_little_18 (by decide) ?_
    refine z_callV X (c_fail (κ := κ) (n := n) (o := (o)) (im := (im)) (fo := (fo)) (k := (1)) K0 K16 (by first | assumption | omega) (by first | assumption | omega)) mk_X11_fail dX11_little_19 wd_260 wd_262 wd_0 rfl K0 rfl rfl rfl (Nat.le_of_ble_eq_true rfl) (Nat.le_of_ble_eq_true rfl) (Nat.le_of_ble_eq_true rfl) (by omega) (by omega) (fun q zh7 zm9 zp10 => ?_)
    obtain ⟨rfl, ze8, zn11⟩ := zp10
    subst zm9
    refine z_st (st' := [.int (lowE 1)]) rfl ?_
    have zK12 : zh7 o = some (.inr (11, [.ref (o + 1), .ref (o + 14), .ref (o + 27), .ref (o + 33), .ref (o + 42), .ref (o + 55), .ref (o + 57), .ref (o + 59), .ref (o + 61), .int im])) := by rw [ze8]; rw [va_up_ne _ _ (show o ≠ o + 61 by omega)]; exact K0
    have zK13 : zh7 (o + 1) = some (.inr (3, [.ref (o + 1 + 1), .ref (o + 1 + 7), .ref (o + 1 + 9), .ref (o + 1 + 11), .int (d 13)])) := by rw [ze8]; rw [va_up_ne _ _ (show o + 1 ≠ o + 61 by omega)]; exact K1
    have zK14 : zh7 (o + 2) = some (.inr (2, [.ref (o + 3), .ref (o + 4), .ref (o + 5), .ref (o + 6), .ref (o + 7), .int (nI len), .int (d 0), .int (d 2), .int (d 3), .int (nI nc), .int (d 10), .int cold, .int wind])) := by rw [ze8]; rw [va_up_ne _ _ (show o + 2 ≠ o + 61 by omega)]; exact K2
    have zK15 : zh7 (o + 3) = arI κ 40 (win 100 40 d) := by rw [ze8]; rw [va_up_ne _ _ (show o + 3 ≠ o + 61 by omega)]; exact K3
    have zK16 : zh7 (o + 4) = arI κ 40 (win 140 40 d) := by rw [ze8]; rw [va_up_ne _ _ (show o + 4 ≠ o + 61 by omega)]; exact K4
    have zK17 : zh7 (o + 5) = arI κ 6 (win 4 6 d) := by rw [ze8]; rw [va_up_ne _ _ (show o + 5 ≠ o + 61 by omega)]; exact K5
    have zK18 : zh7 (o + 6) = arR κ 1 6 cs := by rw [ze8]; rw [va_up_ne _ _ (show o + 6 ≠ o + 61 by omega)]; exact K6
    have zK19 : zh7 (o + 7) = arR κ 2 2 ts := by rw [ze8]; rw [va_up_ne _ _ (show o + 7 ≠ o + 61 by omega)]; exact K7
    have zK20 : zh7 (o + 27) = some (.inr (2, [.ref (o + 28), .ref (o + 29), .ref (o + 30), .ref (o + 31), .ref (o + 32), .int alen, .int anow, .int add, .int adr, .int acc, .int aon, .int acold, .int awind])) := by rw [ze8]; rw [va_up_ne _ _ (show o + 27 ≠ o + 61 by omega)]; exact K8
    have zK21 : zh7 (o + 28) = arI κ 40 af1 := by rw [ze8]; rw [va_up_ne _ _ (show o + 28 ≠ o + 61 by omega)]; exact K9
    have zK22 : zh7 (o + 29) = arI κ 40 af2 := by rw [ze8]; rw [va_up_ne _ _ (show o + 29 ≠ o + 61 by omega)]; exact K10
    have zK23 : zh7 (o + 30) = arI κ 6 af3 := by rw [ze8]; rw [va_up_ne _ _ (show o + 30 ≠ o + 61 by omega)]; exact K11
    have zK24 : zh7 (o + 31) = arR κ 1 6 ac1 := by rw [ze8]; rw [va_up_ne _ _ (show o + 31 ≠ o + 61 by omega)]; exact K12
    have zK25 : zh7 (o + 32) = arR κ 2 2 at1 := by rw [ze8]; rw [va_up_ne _ _ (show o + 32 ≠ o + 61 by omega)]; exact K13
    have zK26 : zh7 (o + 57) = some (.inr (6, [.ref (o + 57 + 1), .int rs2, .int bt2])) := by rw [ze8]; rw [va_up_ne _ _ (show o + 57 ≠ o + 61 by omega)]; exact K14
    have zK27 : zh7 (o + 58) = arI κ 40 g2 := by rw [ze8]; rw [va_up_ne _ _ (show o + 58 ≠ o + 61 by omega)]; exact K15
    have zK28 : zh7 (o + 61) = arI κ 6 (bmp fo 1) := by rw [ze8]; exact va_up_self _ _ _
    have zl29 : ∀ zq : Nat, zq < (o + 76) → zq ≠ (o + 61) → zh7 zq = h zq := by intro zq hzq zn0; rw [ze8, va_up_ne _ _ (show zq ≠ o + 61 by omega)]; try rfl
    have zr30 : Zr κ (o + 76) h zh7 := (Zr.refl).trans (Zr.same (fun zq h1 => by rw [ze8, va_up_ne _ _ (show zq ≠ o + 61 by omega)]))
    refine z_iret X E dX11_little_22 (by omega) (by omega) ⟨alen, anow, add, adr, acc, aon, acold, awind, af1, af2, af3, ac1, at1, rs2, g2, ?_, ?_, ?_, ?_, ?_, ?_, ?_, ?_, ?_, ?_, ?_, ?_, ?_⟩
    · rw [(show opLittle (Tx d) tx d v r = (1, 0) from if_pos (by omega))]; first | exact congrArg (fun z => some (Value.int z)) (ansOf_0 _).symm | rfl
    · rfl
    · exact fun zq hzq zn0 zn1 zn2 zn3 zn4 zn5 zn6 zn7 zn8 => zl29 zq hzq zn8
    · exact zr30
    · exact zK20
    · exact zK21
    · exact zK22
    · exact zK23
    · exact zK24
    · exact zK25
    · exact zK26
    · exact zK27
    · rw [(show opLittle (Tx d) tx d v r = (1, 0) from if_pos (by omega))]; first | (rw [bump_0]; exact zK28) | exact zK28
  · replace zc6 := b2i_t zc6
    refine z_iload_n X 2 dX11_little_7 rfl ?_
    refine z_iconst (v := 0) X dX11_little_8 (by decide) ?_
    refine z_bipush (v := 40) X dX11_little_9 (by decide) ?_
    refine z_callS X (c_within (κ := κ) (n := n) (v := (r)) (lo := (0)) (hi := (40))  ) mk_X11_within dX11_little_11 wd_259 wd_257 rfl rfl (Nat.le_of_ble_eq_true rfl) (Nat.le_of_ble_eq_true rfl) (Nat.le_of_ble_eq_true rfl) (by omega) (by omega) (fun q zh31 zm33 zp34 => ?_)
    obtain ⟨rfl, ze32, zn35⟩ := zp34
    subst zm33
    subst zh31
    refine z_st (st' := [.int (b2i ((0 : Int32).toInt ≤ (r : Int32).toInt ∧ (r : Int32).toInt ≤ (40 : Int32).toInt))]) rfl ?_
    refine z_toe (y := b2i (0 ≤ r.toInt ∧ r.toInt ≤ 40)) (by simp only [show (0 : Int32).toInt = 0 by decide, show (40 : Int32).toInt = 40 by decide]) ?_
    refine z_if_ne X 23 dX11_little_14 (by decide) (fun zc36 => ?_) (fun zc36 => ?_)
    · replace zc36 := b2i_t zc36
      have hrr : 0 ≤ r.toInt ∧ r.toInt ≤ 40 := by assumption
      obtain ⟨vk, hvk, rfl⟩ := ix_of (c := v) (len := 61) (by omega) (by omega)
      refine z_gets X 0 rfl dX11_little_23 wd_310 ?_
      refine z_iconst (v := 1) X dX11_little_26 (by decide) ?_
      refine z_ti (v := .int 0) X 0 rfl dX11_little_27 (vp_in_nI (n := 1) (by decide) (by decide)) (rfl) ?_
      refine z_istore_n (ls' := [(3, .int 0), (0, .ref o), (1, .int (nI vk)), (2, .int r)]) X dX11_little_28 (by decide) rfl ?_
      have L29 : ∀ (jj : Nat) (hh29 : Mm) (s : Nat) (y1 : Int32) (y2 : Int32) (y3 : Int32) (y4 : Int32) (y5 : Int32) (y6 : Int32) (y7 : Int32) (y8 : Int32) (b1 : Nat → Int32) (b2 : Nat → Int32) (b3 : Nat → Int32) (b4 : Nat → Option Nat) (b5 : Nat → Option Nat) (y9 : Int32) (b6 : Nat → Int32), (100 - s < jj) → (∀ zq : Nat, zq < (o + 76) → zq ≠ (o + 27) → zq ≠ (o + 28) → zq ≠ (o + 29) → zq ≠ (o + 30) → zq ≠ (o + 31) → zq ≠ (o + 32) → zq ≠ (o + 57) → zq ≠ (o + 58) → hh29 zq = h zq) → Zr κ (o + 76) h hh29 → hh29 (o + 27) = some (.inr (2, [.ref (o + 28), .ref (o + 29), .ref (o + 30), .ref (o + 31), .ref (o + 32), .int y1, .int y2, .int y3, .int y4, .int y5, .int y6, .int y7, .int y8])) → hh29 (o + 28) = arI κ 40 b1 → hh29 (o + 29) = arI κ 40 b2 → hh29 (o + 30) = arI κ 6 b3 → hh29 (o + 31) = arR κ 1 6 b4 → hh29 (o + 32) = arR κ 2 2 b5 → hh29 (o + 57) = some (.inr (6, [.ref (o + 57 + 1), .int y9, .int bt2])) → hh29 (o + 58) = arI κ 40 b6 → (hi : s ≤ 100) → (hR : litF (Tx d) tx d vk r 100 0 = litF (Tx d) tx d vk r (100 - s) s) → Z κ G 4 29 [(0, .ref o), (1, .int (nI vk)), (2, .int r), (3, .int (nI s))] [] hh29 n 0 (0) := by
        intro jj
        induction jj with
        | zero => intro hh29 s y1 y2 y3 y4 y5 y6 y7 y8 b1 b2 b3 b4 b5 y9 b6 hmu; exact absurd hmu (Nat.not_lt_zero _)
        | succ jj ih29 =>
          intro hh29 s y1 y2 y3 y4 y5 y6 y7 y8 b1 b2 b3 b4 b5 y9 b6 hmu zl_29 zr_29 zK37 zK38 zK39 zK40 zK41 zK42 zK43 zK44 hi hR
          have zK45 : hh29 o = some (.inr (11, [.ref (o + 1), .ref (o + 14), .ref (o + 27), .ref (o + 33), .ref (o + 42), .ref (o + 55), .ref (o + 57), .ref (o + 59), .ref (o + 61), .int im])) := (zl_29 o (by omega) (by omega) (by omega) (by omega) (by omega) (by omega) (by omega) (by omega) (by omega)).trans K0
          have zK46 : hh29 (o + 1) = some (.inr (3, [.ref (o + 1 + 1), .ref (o + 1 + 7), .ref (o + 1 + 9), .ref (o + 1 + 11), .int (d 13)])) := (zl_29 (o + 1) (by omega) (by omega) (by omega) (by omega) (by omega) (by omega) (by omega) (by omega) (by omega)).trans K1
          have zK47 : hh29 (o + 2) = some (.inr (2, [.ref (o + 3), .ref (o + 4), .ref (o + 5), .ref (o + 6), .ref (o + 7), .int (nI len), .int (d 0), .int (d 2), .int (d 3), .int (nI nc), .int (d 10), .int cold, .int wind])) := (zl_29 (o + 2) (by omega) (by omega) (by omega) (by omega) (by omega) (by omega) (by omega) (by omega) (by omega)).trans K2
          have zK48 : hh29 (o + 3) = arI κ 40 (win 100 40 d) := (zl_29 (o + 3) (by omega) (by omega) (by omega) (by omega) (by omega) (by omega) (by omega) (by omega) (by omega)).trans K3
          have zK49 : hh29 (o + 4) = arI κ 40 (win 140 40 d) := (zl_29 (o + 4) (by omega) (by omega) (by omega) (by omega) (by omega) (by omega) (by omega) (by omega) (by omega)).trans K4
          have zK50 : hh29 (o + 5) = arI κ 6 (win 4 6 d) := (zl_29 (o + 5) (by omega) (by omega) (by omega) (by omega) (by omega) (by omega) (by omega) (by omega) (by omega)).trans K5
          have zK51 : hh29 (o + 6) = arR κ 1 6 cs := (zl_29 (o + 6) (by omega) (by omega) (by omega) (by omega) (by omega) (by omega) (by omega) (by omega) (by omega)).trans K6
          have zK52 : hh29 (o + 7) = arR κ 2 2 ts := (zl_29 (o + 7) (by omega) (by omega) (by omega) (by omega) (by omega) (by omega) (by omega) (by omega) (by omega)).trans K7
          have zK53 : hh29 (o + 61) = arI κ 6 fo := (zl_29 (o + 61) (by omega) (by omega) (by omega) (by omega) (by omega) (by omega) (by omega) (by omega) (by omega)).trans K16
          refine z_iload_n X 3 dX11_little_29 rfl ?_
          refine z_gets X 1 rfl dX11_little_30 wd_312 ?_
          refine z_iconst (v := 1) X dX11_little_33 (by decide) ?_
          refine z_ti (v := .int 99) X 1 rfl dX11_little_34 (vp_in_nI (n := 1) (by decide) (by decide)) (rfl) ?_
          refine z_icmp_gt X 93 dX11_little_35 (by decide) (fun zc54 => ?_) (fun zc54 => ?_)
          · try replace zc54 := (nI_ltI (a := 99) (b := s) (by omega) (by omega)).mp zc54
            refine z_aload_n X 0 dX11_little_93 rfl ?_
            refine z_iconst (v := 2) X dX11_little_94 (by decide) ?_
            refine z_callV X (c_fail (κ := κ) (n := n) (o := (o)) (im := (im)) (fo := (fo)) (k := (2)) zK45 zK53 (by first | assumption | omega) (by first | assumption | omega)) mk_X11_fail dX11_little_95 wd_260 wd_262 wd_0 rfl zK45 rfl rfl rfl (Nat.le_of_ble_eq_true rfl) (Nat.le_of_ble_eq_true rfl) (Nat.le_of_ble_eq_true rfl) (by omega) (by omega) (fun q zh55 zm57 zp58 => ?_)
            obtain ⟨rfl, ze56, zn59⟩ := zp58
            subst zm57
            refine z_st (st' := [.int (lowE 2)]) rfl ?_
            have zK60 : zh55 (o + 27) = some (.inr (2, [.ref (o + 28), .ref (o + 29), .ref (o + 30), .ref (o + 31), .ref (o + 32), .int y1, .int y2, .int y3, .int y4, .int y5, .int y6, .int y7, .int y8])) := by rw [ze56]; rw [va_up_ne _ _ (show o + 27 ≠ o + 61 by omega)]; exact zK37
            have zK61 : zh55 (o + 28) = arI κ 40 b1 := by rw [ze56]; rw [va_up_ne _ _ (show o + 28 ≠ o + 61 by omega)]; exact zK38
            have zK62 : zh55 (o + 29) = arI κ 40 b2 := by rw [ze56]; rw [va_up_ne _ _ (show o + 29 ≠ o + 61 by omega)]; exact zK39
            have zK63 : zh55 (o + 30) = arI κ 6 b3 := by rw [ze56]; rw [va_up_ne _ _ (show o + 30 ≠ o + 61 by omega)]; exact zK40
            have zK64 : zh55 (o + 31) = arR κ 1 6 b4 := by rw [ze56]; rw [va_up_ne _ _ (show o + 31 ≠ o + 61 by omega)]; exact zK41
            have zK65 : zh55 (o + 32) = arR κ 2 2 b5 := by rw [ze56]; rw [va_up_ne _ _ (show o + 32 ≠ o + 61 by omega)]; exact zK42
            have zK66 : zh55 (o + 57) = some (.inr (6, [.ref (o + 57 + 1), .int y9, .int bt2])) := by rw [ze56]; rw [va_up_ne _ _ (show o + 57 ≠ o + 61 by omega)]; exact zK43
            have zK67 : zh55 (o + 58) = arI κ 40 b6 := by rw [ze56]; rw [va_up_ne _ _ (show o + 58 ≠ o + 61 by omega)]; exact zK44
            have zK68 : zh55 o = some (.inr (11, [.ref (o + 1), .ref (o + 14), .ref (o + 27), .ref (o + 33), .ref (o + 42), .ref (o + 55), .ref (o + 57), .ref (o + 59), .ref (o + 61), .int im])) := by rw [ze56]; rw [va_up_ne _ _ (show o ≠ o + 61 by omega)]; exact zK45
            have zK69 : zh55 (o + 1) = some (.inr (3, [.ref (o + 1 + 1), .ref (o + 1 + 7), .ref (o + 1 + 9), .ref (o + 1 + 11), .int (d 13)])) := by rw [ze56]; rw [va_up_ne _ _ (show o + 1 ≠ o + 61 by omega)]; exact zK46
            have zK70 : zh55 (o + 2) = some (.inr (2, [.ref (o + 3), .ref (o + 4), .ref (o + 5), .ref (o + 6), .ref (o + 7), .int (nI len), .int (d 0), .int (d 2), .int (d 3), .int (nI nc), .int (d 10), .int cold, .int wind])) := by rw [ze56]; rw [va_up_ne _ _ (show o + 2 ≠ o + 61 by omega)]; exact zK47
            have zK71 : zh55 (o + 3) = arI κ 40 (win 100 40 d) := by rw [ze56]; rw [va_up_ne _ _ (show o + 3 ≠ o + 61 by omega)]; exact zK48
            have zK72 : zh55 (o + 4) = arI κ 40 (win 140 40 d) := by rw [ze56]; rw [va_up_ne _ _ (show o + 4 ≠ o + 61 by omega)]; exact zK49
            have zK73 : zh55 (o + 5) = arI κ 6 (win 4 6 d) := by rw [ze56]; rw [va_up_ne _ _ (show o + 5 ≠ o + 61 by omega)]; exact zK50
            have zK74 : zh55 (o + 6) = arR κ 1 6 cs := by rw [ze56]; rw [va_up_ne _ _ (show o + 6 ≠ o + 61 by omega)]; exact zK51
            have zK75 : zh55 (o + 7) = arR κ 2 2 ts := by rw [ze56]; rw [va_up_ne _ _ (show o + 7 ≠ o + 61 by omega)]; exact zK52
            have zK76 : zh55 (o + 61) = arI κ 6 (bmp fo 2) := by rw [ze56]; exact va_up_self _ _ _
            have zl77 : ∀ zq : Nat, zq < (o + 76) → zq ≠ (o + 27) → zq ≠ (o + 28) → zq ≠ (o + 29) → zq ≠ (o + 30) → zq ≠ (o + 31) → zq ≠ (o + 32) → zq ≠ (o + 57) → zq ≠ (o + 58) → zq ≠ (o + 61) → zh55 zq = h zq := by intro zq hzq zn0 zn1 zn2 zn3 zn4 zn5 zn6 zn7 zn8; rw [ze56, va_up_ne _ _ (show zq ≠ o + 61 by omega)]; exact zl_29 zq hzq zn0 zn1 zn2 zn3 zn4 zn5 zn6 zn7
            have zr78 : Zr κ (o + 76) h zh55 := (zr_29).trans (Zr.same (fun zq h1 => by rw [ze56, va_up_ne _ _ (show zq ≠ o + 61 by omega)]))
            refine z_iret X E dX11_little_98 (by omega) (by omega) ⟨y1, y2, y3, y4, y5, y6, y7, y8, b1, b2, b3, b4, b5, y9, b6, ?_, ?_, ?_, ?_, ?_, ?_, ?_, ?_, ?_, ?_, ?_, ?_, ?_⟩
            · rw [(show opLittle (Tx d) tx d (nI vk) r = (2, 0) from opLittle_2 (by omega) hrr (hR.trans (by rw [show 100 - s = 0 by omega]; rfl)))]; first | exact congrArg (fun z => some (Value.int z)) (ansOf_0 _).symm | rfl
            · rfl
            · exact fun zq hzq zn0 zn1 zn2 zn3 zn4 zn5 zn6 zn7 zn8 => zl77 zq hzq zn0 zn1 zn2 zn3 zn4 zn5 zn6 zn7 zn8
            · exact zr78
            · exact zK60
            · exact zK61
            · exact zK62
            · exact zK63
            · exact zK64
            · exact zK65
            · exact zK66
            · exact zK67
            · rw [(show opLittle (Tx d) tx d (nI vk) r = (2, 0) from opLittle_2 (by omega) hrr (hR.trans (by rw [show 100 - s = 0 by omega]; rfl)))]; first | (rw [bump_0]; exact zK76) | exact zK76
          · try replace zc54 := mt (nI_ltI (a := 99) (b := s) (by omega) (by omega)).mpr zc54
            refine z_aload_n X 0 dX11_little_38 rfl ?_
            refine z_get X fl_X11_22_11 dX11_little_39 zK45 rfl ?_
            refine z_aload_n X 0 dX11_little_42 rfl ?_
            refine z_get X fl_X11_10_11 dX11_little_43 zK45 rfl ?_
            refine z_get X fl_X11_56_3 dX11_little_46 zK46 rfl ?_
            refine z_callV X (c_become (κ := κ) (n := n) (i := (o + 27)) (j := (o + 1 + 1)) (f1 := (b1)) (f2 := (b2)) (f3 := (b3)) (c1 := (b4)) (t1 := (b5)) (g1 := (win 100 40 d)) (g2 := (win 140 40 d)) (g3 := (win 4 6 d)) (c2 := (cs)) (t2 := (ts)) (T := (Tx d)) (tx := (tx)) (len := (y1)) (now := (y2)) (dd := (y3)) (dr := (y4)) (cc := (y5)) (on := (y6)) (cold := (y7)) (wind := (y8)) (len2 := (nI len)) (now2 := (d 0)) (dd2 := (d 2)) (dr2 := (d 3)) (cc2 := (nI nc)) (on2 := (d 10)) (cold2 := (cold)) (wind2 := (wind)) zK37 zK38 zK39 zK40 zK41 zK42 zK47 zK48 zK49 zK50 zK51 zK52 (by first | assumption | omega) (by first | assumption | omega) (by first | assumption | omega) (CsA.mono zr_29 hCA) (TsO.mono zr_29 hTs)) mk_X2_become dX11_little_49 wd_665 wd_666 wd_667 rfl zK37 rfl rfl rfl (Nat.le_of_ble_eq_true rfl) (Nat.le_of_ble_eq_true rfl) (Nat.le_of_ble_eq_true rfl) (by omega) (by omega) (fun q zh79 zm81 zp82 => ?_)
            obtain ⟨rfl, zn83, zf84, zr85, zK86, zK87, zK88, zK89, zK90, zK91⟩ := zp82
            subst zm81
            refine z_st (st' := []) rfl ?_
            have zK92 : zh79 (o + 57) = some (.inr (6, [.ref (o + 57 + 1), .int y9, .int bt2])) := (zf84 (o + 57) (by omega) (by omega) (by omega) (by omega) (by omega) (by omega) (by omega)).trans zK43
            have zK93 : zh79 (o + 58) = arI κ 40 b6 := (zf84 (o + 58) (by omega) (by omega) (by omega) (by omega) (by omega) (by omega) (by omega)).trans zK44
            have zK94 : zh79 o = some (.inr (11, [.ref (o + 1), .ref (o + 14), .ref (o + 27), .ref (o + 33), .ref (o + 42), .ref (o + 55), .ref (o + 57), .ref (o + 59), .ref (o + 61), .int im])) := (zf84 o (by omega) (by omega) (by omega) (by omega) (by omega) (by omega) (by omega)).trans zK45
            have zK95 : zh79 (o + 1) = some (.inr (3, [.ref (o + 1 + 1), .ref (o + 1 + 7), .ref (o + 1 + 9), .ref (o + 1 + 11), .int (d 13)])) := (zf84 (o + 1) (by omega) (by omega) (by omega) (by omega) (by omega) (by omega) (by omega)).trans zK46
            have zK96 : zh79 (o + 2) = some (.inr (2, [.ref (o + 3), .ref (o + 4), .ref (o + 5), .ref (o + 6), .ref (o + 7), .int (nI len), .int (d 0), .int (d 2), .int (d 3), .int (nI nc), .int (d 10), .int cold, .int wind])) := (zf84 (o + 2) (by omega) (by omega) (by omega) (by omega) (by omega) (by omega) (by omega)).trans zK47
            have zK97 : zh79 (o + 3) = arI κ 40 (win 100 40 d) := (zf84 (o + 3) (by omega) (by omega) (by omega) (by omega) (by omega) (by omega) (by omega)).trans zK48
            have zK98 : zh79 (o + 4) = arI κ 40 (win 140 40 d) := (zf84 (o + 4) (by omega) (by omega) (by omega) (by omega) (by omega) (by omega) (by omega)).trans zK49
            have zK99 : zh79 (o + 5) = arI κ 6 (win 4 6 d) := (zf84 (o + 5) (by omega) (by omega) (by omega) (by omega) (by omega) (by omega) (by omega)).trans zK50
            have zK100 : zh79 (o + 6) = arR κ 1 6 cs := (zf84 (o + 6) (by omega) (by omega) (by omega) (by omega) (by omega) (by omega) (by omega)).trans zK51
            have zK101 : zh79 (o + 7) = arR κ 2 2 ts := (zf84 (o + 7) (by omega) (by omega) (by omega) (by omega) (by omega) (by omega) (by omega)).trans zK52
            have zK102 : zh79 (o + 61) = arI κ 6 fo := (zf84 (o + 61) (by omega) (by omega) (by omega) (by omega) (by omega) (by omega) (by omega)).trans zK53
            have zl103 : ∀ zq : Nat, zq < (o + 76) → zq ≠ (o + 27) → zq ≠ (o + 28) → zq ≠ (o + 29) → zq ≠ (o + 30) → zq ≠ (o + 31) → zq ≠ (o + 32) → zq ≠ (o + 57) → zq ≠ (o + 58) → zh79 zq = h zq := by intro zq hzq zn0 zn1 zn2 zn3 zn4 zn5 zn6 zn7; rw [zf84 zq (by omega) (by omega) (by omega) (by omega) (by omega) (by omega) (by omega)]; exact zl_29 zq hzq zn0 zn1 zn2 zn3 zn4 zn5 zn6 zn7
            have zr104 : Zr κ (o + 76) h zh79 := (zr_29).trans zr85
            refine z_aload_n X 0 dX11_little_52 rfl ?_
            refine z_get X fl_X11_22_11 dX11_little_53 zK94 rfl ?_
            refine z_get X fl_X11_114_2 dX11_little_56 zK86 rfl ?_
            refine z_iconst (v := 1) X dX11_little_59 (by decide) ?_
            refine z_iload_n X 3 dX11_little_60 rfl ?_
            refine z_iast X dX11_little_61 zK89 (vp_in_nI (n := 1) (by omega) (by omega)) (congrArg (fun z => va_up zh79 ((o + 27) + 3) (arI κ 6 (upd ((win 4 6 d)) z (nI s)))) (nI_clamp (n := 1) (by omega))) ?_
            obtain ⟨zh105, ze106⟩ : ∃ z : Mm, z = va_up zh79 ((o + 27) + 3) (arI κ 6 (upd ((win 4 6 d)) 1 (nI s))) := ⟨_, rfl⟩
            refine z_heap (h' := zh105) ze106.symm ?_
            have zK107 := up_off ze106 (show o + 57 ≠ o + 30 by omega) zK92
            have zK108 := up_off ze106 (show o + 58 ≠ o + 30 by omega) zK93
            have zK109 := up_off ze106 (show o ≠ o + 30 by omega) zK94
            have zK110 := up_off ze106 (show o + 1 ≠ o + 30 by omega) zK95
            have zK111 := up_off ze106 (show o + 2 ≠ o + 30 by omega) zK96
            have zK112 := up_off ze106 (show o + 3 ≠ o + 30 by omega) zK97
            have zK113 := up_off ze106 (show o + 4 ≠ o + 30 by omega) zK98
            have zK114 := up_off ze106 (show o + 5 ≠ o + 30 by omega) zK99
            have zK115 := up_off ze106 (show o + 6 ≠ o + 30 by omega) zK100
            have zK116 := up_off ze106 (show o + 7 ≠ o + 30 by omega) zK101
            have zK117 := up_off ze106 (show o + 61 ≠ o + 30 by omega) zK102
            have zK118 := up_off ze106 (show o + 27 ≠ o + 30 by omega) zK86
            have zK119 := up_off ze106 (show o + 28 ≠ o + 30 by omega) zK87
            have zK120 := up_off ze106 (show o + 29 ≠ o + 30 by omega) zK88
            have zK121 := up_at ze106
            have zK122 := up_off ze106 (show o + 31 ≠ o + 30 by omega) zK90
            have zK123 := up_off ze106 (show o + 32 ≠ o + 30 by omega) zK91
            have zl124 : ∀ zq : Nat, zq < (o + 76) → zq ≠ (o + 27) → zq ≠ (o + 28) → zq ≠ (o + 29) → zq ≠ (o + 30) → zq ≠ (o + 31) → zq ≠ (o + 32) → zq ≠ (o + 57) → zq ≠ (o + 58) → zh105 zq = h zq := by intro zq hzq zn0 zn1 zn2 zn3 zn4 zn5 zn6 zn7; rw [ze106, va_up_ne _ _ (show zq ≠ o + 30 by omega)]; exact zl103 zq hzq zn0 zn1 zn2 zn3 zn4 zn5 zn6 zn7
            have zr125 : Zr κ (o + 76) h zh105 := (zr104).trans (Zr.same (fun zq h1 => by rw [ze106, va_up_ne _ _ (show zq ≠ o + 30 by omega)]))
            refine z_aload_n X 0 dX11_little_62 rfl ?_
            refine z_get X fl_X11_22_11 dX11_little_63 zK109 rfl ?_
            refine z_iload_n X 1 dX11_little_66 rfl ?_
            refine z_callV X (c_go (κ := κ) (n := n) (i := (o + 27)) (len := (len)) (nc := (nc)) (v := (vk)) (m := (upd d 5 (nI s))) (ts := (ts)) (cs := (cs)) (T := (Tx d)) (tx := (tx)) (cold := (y7)) (wind := (y8)) (zK118) ((zK119).trans (congrArg (arI κ 40) (win_off (by omega)).symm)) ((zK120).trans (congrArg (arI κ 40) (win_off (by omega)).symm)) ((zK121).trans (congrArg (arI κ 6) (win_us (b := 4) (m := d) (show 1 < 6 by omega)).symm)) zK122 zK123 (by first | assumption | omega) (TsO.mono zr125 hTs) ((CsO.mono zr125 hCs).row (fun z h1 h2 => pk_un (by omega)) q5) ((pk_un (by omega)).trans q1) (by first | assumption | omega) (by first | assumption | omega) ((pk_un (by omega)).trans q4) (by first | assumption | omega) (wfS_5 hS (nI_pos' (by omega)) (show nI s ≤ nI 99 from nI_le (by omega) (by omega))) (wfC_upd hC (by omega)) (by first | assumption | omega)) mk_X2_go dX11_little_67 wd_596 wd_597 wd_598 rfl zK118 rfl rfl rfl (Nat.le_of_ble_eq_true rfl) (Nat.le_of_ble_eq_true rfl) (Nat.le_of_ble_eq_true rfl) (by omega) (by omega) (fun q zh128 zm130 zp131 => ?_)
            obtain ⟨cold'126, wind'127, rfl, zn132, zf133, zr134, zK135, zK136, zK137⟩ := zp131
            subst zm130
            refine z_st (st' := []) rfl ?_
            have zK138 : zh128 (o + 57) = some (.inr (6, [.ref (o + 57 + 1), .int y9, .int bt2])) := (zf133 (o + 57) (by omega) (by omega) (by omega) (by omega)).trans zK107
            have zK139 : zh128 (o + 58) = arI κ 40 b6 := (zf133 (o + 58) (by omega) (by omega) (by omega) (by omega)).trans zK108
            have zK140 : zh128 o = some (.inr (11, [.ref (o + 1), .ref (o + 14), .ref (o + 27), .ref (o + 33), .ref (o + 42), .ref (o + 55), .ref (o + 57), .ref (o + 59), .ref (o + 61), .int im])) := (zf133 o (by omega) (by omega) (by omega) (by omega)).trans zK109
            have zK141 : zh128 (o + 1) = some (.inr (3, [.ref (o + 1 + 1), .ref (o + 1 + 7), .ref (o + 1 + 9), .ref (o + 1 + 11), .int (d 13)])) := (zf133 (o + 1) (by omega) (by omega) (by omega) (by omega)).trans zK110
            have zK142 : zh128 (o + 2) = some (.inr (2, [.ref (o + 3), .ref (o + 4), .ref (o + 5), .ref (o + 6), .ref (o + 7), .int (nI len), .int (d 0), .int (d 2), .int (d 3), .int (nI nc), .int (d 10), .int cold, .int wind])) := (zf133 (o + 2) (by omega) (by omega) (by omega) (by omega)).trans zK111
            have zK143 : zh128 (o + 3) = arI κ 40 (win 100 40 d) := (zf133 (o + 3) (by omega) (by omega) (by omega) (by omega)).trans zK112
            have zK144 : zh128 (o + 4) = arI κ 40 (win 140 40 d) := (zf133 (o + 4) (by omega) (by omega) (by omega) (by omega)).trans zK113
            have zK145 : zh128 (o + 5) = arI κ 6 (win 4 6 d) := (zf133 (o + 5) (by omega) (by omega) (by omega) (by omega)).trans zK114
            have zK146 : zh128 (o + 6) = arR κ 1 6 cs := (zf133 (o + 6) (by omega) (by omega) (by omega) (by omega)).trans zK115
            have zK147 : zh128 (o + 7) = arR κ 2 2 ts := (zf133 (o + 7) (by omega) (by omega) (by omega) (by omega)).trans zK116
            have zK148 : zh128 (o + 61) = arI κ 6 fo := (zf133 (o + 61) (by omega) (by omega) (by omega) (by omega)).trans zK117
            have zK149 : zh128 (o + 30) = arI κ 6 (upd ((win 4 6 d)) 1 (nI s)) := (zf133 (o + 30) (by omega) (by omega) (by omega) (by omega)).trans zK121
            have zK150 : zh128 (o + 31) = arR κ 1 6 cs := (zf133 (o + 31) (by omega) (by omega) (by omega) (by omega)).trans zK122
            have zK151 : zh128 (o + 32) = arR κ 2 2 ts := (zf133 (o + 32) (by omega) (by omega) (by omega) (by omega)).trans zK123
            have zl152 : ∀ zq : Nat, zq < (o + 76) → zq ≠ (o + 27) → zq ≠ (o + 28) → zq ≠ (o + 29) → zq ≠ (o + 30) → zq ≠ (o + 31) → zq ≠ (o + 32) → zq ≠ (o + 57) → zq ≠ (o + 58) → zh128 zq = h zq := by intro zq hzq zn0 zn1 zn2 zn3 zn4 zn5 zn6 zn7; rw [zf133 zq (by omega) (by omega) (by omega) (by omega)]; exact zl124 zq hzq zn0 zn1 zn2 zn3 zn4 zn5 zn6 zn7
            have zr153 : Zr κ (o + 76) h zh128 := (zr125).trans zr134
            refine z_aload_n X 0 dX11_little_70 rfl ?_
            refine z_get X fl_X11_22_11 dX11_little_71 zK140 rfl ?_
            refine z_aload_n X 0 dX11_little_74 rfl ?_
            refine z_get X fl_X11_42_11 dX11_little_75 zK140 rfl ?_
            refine z_callV X (c_ringsInto (κ := κ) (n := n) (i := (o + 27)) (len := (lnO (gbyN (Tx d) tx vk (upd d 5 (nI s))))) (m := (gbyN (Tx d) tx vk (upd d 5 (nI s)))) (now := ((gbyN (Tx d) tx vk (upd d 5 (nI s))) 0)) (dd := ((gbyN (Tx d) tx vk (upd d 5 (nI s))) 2)) (dr := ((gbyN (Tx d) tx vk (upd d 5 (nI s))) 3)) (cc := (nI nc)) (on := ((upd d 5 (nI s)) 10)) (cold := (cold'126)) (wind := (wind'127)) (r := (o + 57)) (rs := (y9)) (bt := (bt2)) (g := (b6)) zK135 zK136 zK138 zK139 ((gbyN_ok (T := Tx d) (tx := tx) (lnOk_upd (m := d) (q := 5) (x := nI s) hOk (by omega)) vk).2.2) (by omega)) mk_X2_ringsInto dX11_little_78 wd_643 wd_644 wd_645 rfl zK135 rfl rfl rfl (Nat.le_of_ble_eq_true rfl) (Nat.le_of_ble_eq_true rfl) (Nat.le_of_ble_eq_true rfl) (by omega) (by omega) (fun q zh155 zm157 zp158 => ?_)
            obtain ⟨g'154, rfl, ze156, zn160, zf159⟩ := zp158
            subst zm157
            refine z_st (st' := [.int (nI (rn (gbyN (Tx d) tx vk (upd d 5 (nI s))) (lnO (gbyN (Tx d) tx vk (upd d 5 (nI s)))) (lnO (gbyN (Tx d) tx vk (upd d 5 (nI s))))))]) rfl ?_
            have zK161 : zh155 (o + 57) = some (.inr (6, [.ref ((o + 57) + 1), .int (nI (rn (gbyN (Tx d) tx vk (upd d 5 (nI s))) (lnO (gbyN (Tx d) tx vk (upd d 5 (nI s)))) (lnO (gbyN (Tx d) tx vk (upd d 5 (nI s)))))), .int bt2])) := by rw [ze156]; rw [va_up_ne _ _ (show o + 57 ≠ o + 58 by omega)]; exact va_up_self _ _ _
            have zK162 : zh155 (o + 58) = arI κ 40 g'154 := by rw [ze156]; exact va_up_self _ _ _
            have zK163 : zh155 o = some (.inr (11, [.ref (o + 1), .ref (o + 14), .ref (o + 27), .ref (o + 33), .ref (o + 42), .ref (o + 55), .ref (o + 57), .ref (o + 59), .ref (o + 61), .int im])) := by rw [ze156]; rw [va_up_ne _ _ (show o ≠ o + 58 by omega)]; rw [va_up_ne _ _ (show o ≠ o + 57 by omega)]; exact zK140
            have zK164 : zh155 (o + 1) = some (.inr (3, [.ref (o + 1 + 1), .ref (o + 1 + 7), .ref (o + 1 + 9), .ref (o + 1 + 11), .int (d 13)])) := by rw [ze156]; rw [va_up_ne _ _ (show o + 1 ≠ o + 58 by omega)]; rw [va_up_ne _ _ (show o + 1 ≠ o + 57 by omega)]; exact zK141
            have zK165 : zh155 (o + 2) = some (.inr (2, [.ref (o + 3), .ref (o + 4), .ref (o + 5), .ref (o + 6), .ref (o + 7), .int (nI len), .int (d 0), .int (d 2), .int (d 3), .int (nI nc), .int (d 10), .int cold, .int wind])) := by rw [ze156]; rw [va_up_ne _ _ (show o + 2 ≠ o + 58 by omega)]; rw [va_up_ne _ _ (show o + 2 ≠ o + 57 by omega)]; exact zK142
            have zK166 : zh155 (o + 3) = arI κ 40 (win 100 40 d) := by rw [ze156]; rw [va_up_ne _ _ (show o + 3 ≠ o + 58 by omega)]; rw [va_up_ne _ _ (show o + 3 ≠ o + 57 by omega)]; exact zK143
            have zK167 : zh155 (o + 4) = arI κ 40 (win 140 40 d) := by rw [ze156]; rw [va_up_ne _ _ (show o + 4 ≠ o + 58 by omega)]; rw [va_up_ne _ _ (show o + 4 ≠ o + 57 by omega)]; exact zK144
            have zK168 : zh155 (o + 5) = arI κ 6 (win 4 6 d) := by rw [ze156]; rw [va_up_ne _ _ (show o + 5 ≠ o + 58 by omega)]; rw [va_up_ne _ _ (show o + 5 ≠ o + 57 by omega)]; exact zK145
            have zK169 : zh155 (o + 6) = arR κ 1 6 cs := by rw [ze156]; rw [va_up_ne _ _ (show o + 6 ≠ o + 58 by omega)]; rw [va_up_ne _ _ (show o + 6 ≠ o + 57 by omega)]; exact zK146
            have zK170 : zh155 (o + 7) = arR κ 2 2 ts := by rw [ze156]; rw [va_up_ne _ _ (show o + 7 ≠ o + 58 by omega)]; rw [va_up_ne _ _ (show o + 7 ≠ o + 57 by omega)]; exact zK147
            have zK171 : zh155 (o + 61) = arI κ 6 fo := by rw [ze156]; rw [va_up_ne _ _ (show o + 61 ≠ o + 58 by omega)]; rw [va_up_ne _ _ (show o + 61 ≠ o + 57 by omega)]; exact zK148
            have zK172 : zh155 (o + 30) = arI κ 6 (upd ((win 4 6 d)) 1 (nI s)) := by rw [ze156]; rw [va_up_ne _ _ (show o + 30 ≠ o + 58 by omega)]; rw [va_up_ne _ _ (show o + 30 ≠ o + 57 by omega)]; exact zK149
            have zK173 : zh155 (o + 31) = arR κ 1 6 cs := by rw [ze156]; rw [va_up_ne _ _ (show o + 31 ≠ o + 58 by omega)]; rw [va_up_ne _ _ (show o + 31 ≠ o + 57 by omega)]; exact zK150
            have zK174 : zh155 (o + 32) = arR κ 2 2 ts := by rw [ze156]; rw [va_up_ne _ _ (show o + 32 ≠ o + 58 by omega)]; rw [va_up_ne _ _ (show o + 32 ≠ o + 57 by omega)]; exact zK151
            have zK175 : zh155 (o + 27) = some (.inr (2, [.ref ((o + 27) + 1), .ref ((o + 27) + 2), .ref ((o + 27) + 3), .ref ((o + 27) + 4), .ref ((o + 27) + 5), .int (nI (lnO (gbyN (Tx d) tx vk (upd d 5 (nI s))))), .int ((gbyN (Tx d) tx vk (upd d 5 (nI s))) 0), .int ((gbyN (Tx d) tx vk (upd d 5 (nI s))) 2), .int ((gbyN (Tx d) tx vk (upd d 5 (nI s))) 3), .int (nI nc), .int ((upd d 5 (nI s)) 10), .int cold'126, .int wind'127])) := by rw [ze156]; rw [va_up_ne _ _ (show o + 27 ≠ o + 58 by omega)]; rw [va_up_ne _ _ (show o + 27 ≠ o + 57 by omega)]; exact zK135
            have zK176 : zh155 (o + 28) = arI κ 40 (win 100 40 (gbyN (Tx d) tx vk (upd d 5 (nI s)))) := by rw [ze156]; rw [va_up_ne _ _ (show o + 28 ≠ o + 58 by omega)]; rw [va_up_ne _ _ (show o + 28 ≠ o + 57 by omega)]; exact zK136
            have zK177 : zh155 (o + 29) = arI κ 40 (win 140 40 (gbyN (Tx d) tx vk (upd d 5 (nI s)))) := by rw [ze156]; rw [va_up_ne _ _ (show o + 29 ≠ o + 58 by omega)]; rw [va_up_ne _ _ (show o + 29 ≠ o + 57 by omega)]; exact zK137
            have zl178 : ∀ zq : Nat, zq < (o + 76) → zq ≠ (o + 27) → zq ≠ (o + 28) → zq ≠ (o + 29) → zq ≠ (o + 30) → zq ≠ (o + 31) → zq ≠ (o + 32) → zq ≠ (o + 57) → zq ≠ (o + 58) → zh155 zq = h zq := by intro zq hzq zn0 zn1 zn2 zn3 zn4 zn5 zn6 zn7; rw [ze156, va_up_ne _ _ (show zq ≠ o + 58 by omega), va_up_ne _ _ (show zq ≠ o + 57 by omega)]; exact zl152 zq hzq zn0 zn1 zn2 zn3 zn4 zn5 zn6 zn7
            have zr179 : Zr κ (o + 76) h zh155 := (zr153).trans (Zr.same (fun zq h1 => by rw [ze156, va_up_ne _ _ (show zq ≠ o + 58 by omega), va_up_ne _ _ (show zq ≠ o + 57 by omega)]))
            have hrg := zf159
            have hrn := rn_le (gbyN (Tx d) tx vk (upd d 5 (nI s))) (lnO (gbyN (Tx d) tx vk (upd d 5 (nI s)))) (lnO (gbyN (Tx d) tx vk (upd d 5 (nI s))))
            have hrnq : lnO (gbyN (Tx d) tx vk (upd d 5 (nI s))) ≤ 40 := (gbyN_ok (T := Tx d) (tx := tx) (lnOk_upd (m := d) (q := 5) (x := nI s) hOk (by omega)) vk).2.2
            refine z_iload_n X 2 dX11_little_81 rfl ?_
            refine z_icmp_lt X 87 dX11_little_82 (by decide) (fun zc180 => ?_) (fun zc180 => ?_)
            · have hbn : ¬ r.toInt ≤ rnE (gbyN (Tx d) tx vk (upd d 5 (nI s))) := by (unfold rnE; rw [i_lt, i_nI (by omega)] at zc180; omega)
              refine z_iinc (v := nI (s + 1)) (ls' := [(3, .int (nI (s + 1))), (0, .ref o), (1, .int (nI vk)), (2, .int r)]) X 3 dX11_little_87 rfl (nI_1 (s)) (by decide) rfl ?_
              refine z_goto X 29 dX11_little_90 (by decide) ?_
              refine z_sub (ls' := [(0, .ref o), (1, .int (nI vk)), (2, .int r), (3, .int (nI (s + 1)))]) [1, 2, 3, 0] rfl ?_
              exact ih29 zh155 (s + 1) (nI (lnO (gbyN (Tx d) tx vk (upd d 5 (nI s))))) ((gbyN (Tx d) tx vk (upd d 5 (nI s))) 0) ((gbyN (Tx d) tx vk (upd d 5 (nI s))) 2) ((gbyN (Tx d) tx vk (upd d 5 (nI s))) 3) (nI nc) ((upd d 5 (nI s)) 10) cold'126 wind'127 (win 100 40 (gbyN (Tx d) tx vk (upd d 5 (nI s)))) (win 140 40 (gbyN (Tx d) tx vk (upd d 5 (nI s)))) (upd ((win 4 6 d)) 1 (nI s)) cs ts (nI (rn (gbyN (Tx d) tx vk (upd d 5 (nI s))) (lnO (gbyN (Tx d) tx vk (upd d 5 (nI s)))) (lnO (gbyN (Tx d) tx vk (upd d 5 (nI s)))))) g'154 (by omega) (by exact fun zq hzq zn0 zn1 zn2 zn3 zn4 zn5 zn6 zn7 => zl178 zq hzq zn0 zn1 zn2 zn3 zn4 zn5 zn6 zn7) (zr179) (by exact zK175) (by exact zK176) (by exact zK177) (by exact zK172) (by exact zK173) (by exact zK174) (by exact zK161) (by exact zK162) (by first | assumption | rfl | omega) (by rw [hR]; exact litF_go (by omega) hbn)
            · have hbn : r.toInt ≤ rnE (gbyN (Tx d) tx vk (upd d 5 (nI s))) := by (unfold rnE; rw [i_lt, i_nI (by omega)] at zc180; omega)
              refine z_iload_n X 3 dX11_little_85 rfl ?_
              refine z_iret X E dX11_little_86 (by omega) (by omega) ⟨(nI (lnO (gbyN (Tx d) tx vk (upd d 5 (nI s))))), ((gbyN (Tx d) tx vk (upd d 5 (nI s))) 0), ((gbyN (Tx d) tx vk (upd d 5 (nI s))) 2), ((gbyN (Tx d) tx vk (upd d 5 (nI s))) 3), (nI nc), ((upd d 5 (nI s)) 10), cold'126, wind'127, (win 100 40 (gbyN (Tx d) tx vk (upd d 5 (nI s)))), (win 140 40 (gbyN (Tx d) tx vk (upd d 5 (nI s)))), (upd ((win 4 6 d)) 1 (nI s)), cs, ts, (nI (rn (gbyN (Tx d) tx vk (upd d 5 (nI s))) (lnO (gbyN (Tx d) tx vk (upd d 5 (nI s)))) (lnO (gbyN (Tx d) tx vk (upd d 5 (nI s)))))), g'154, ?_, ?_, ?_, ?_, ?_, ?_, ?_, ?_, ?_, ?_, ?_, ?_, ?_⟩
              · rw [(show opLittle (Tx d) tx d (nI vk) r = (0, nI s) from opLittle_0 (by omega) hrr (hR.trans (litF_hit (by omega) hbn)))]; first | exact congrArg (fun z => some (Value.int z)) (ansOf_0 _).symm | rfl
              · rfl
              · exact fun zq hzq zn0 zn1 zn2 zn3 zn4 zn5 zn6 zn7 zn8 => zl178 zq hzq zn0 zn1 zn2 zn3 zn4 zn5 zn6 zn7
              · exact zr179
              · exact zK175
              · exact zK176
              · exact zK177
              · exact zK172
              · exact zK173
              · exact zK174
              · exact zK161
              · exact zK162
              · rw [(show opLittle (Tx d) tx d (nI vk) r = (0, nI s) from opLittle_0 (by omega) hrr (hR.trans (litF_hit (by omega) hbn)))]; first | (rw [bump_0]; exact zK171) | exact zK171
      refine z_sub (ls' := [(0, .ref o), (1, .int (nI vk)), (2, .int r), (3, .int 0)]) [1, 2, 3, 0] rfl ?_
      exact L29 _ h 0 alen anow add adr acc aon acold awind af1 af2 af3 ac1 at1 rs2 g2 (Nat.lt_succ_self _) (by exact fun zq hzq zn0 zn1 zn2 zn3 zn4 zn5 zn6 zn7 => rfl) (Zr.refl) (by exact K8) (by exact K9) (by exact K10) (by exact K11) (by exact K12) (by exact K13) (by exact K14) (by exact K15) (by first | assumption | rfl | omega) (by rfl)
    · replace zc36 := b2i_f zc36
      refine z_aload_n X 0 dX11_little_17 rfl ?_
      refine z_iconst (v := 1) X dX11_little_18 (by decide) ?_
      refine z_callV X (c_fail (κ := κ) (n := n) (o := (o)) (im := (im)) (fo := (fo)) (k := (1)) K0 K16 (by first | assumption | omega) (by first | assumption | omega)) mk_X11_fail dX11_little_19 wd_260 wd_262 wd_0 rfl K0 rfl rfl rfl (Nat.le_of_ble_eq_true rfl) (Nat.le_of_ble_eq_true rfl) (Nat.le_of_ble_eq_true rfl) (by omega) (by omega) (fun q zh181 zm183 zp184 => ?_)
      obtain ⟨rfl, ze182, zn185⟩ := zp184
      subst zm183
      refine z_st (st' := [.int (lowE 1)]) rfl ?_
      have zK186 : zh181 o = some (.inr (11, [.ref (o + 1), .ref (o + 14), .ref (o + 27), .ref (o + 33), .ref (o + 42), .ref (o + 55), .ref (o + 57), .ref (o + 59), .ref (o + 61), .int im])) := by rw [ze182]; rw [va_up_ne _ _ (show o ≠ o + 61 by omega)]; exact K0
      have zK187 : zh181 (o + 1) = some (.inr (3, [.ref (o + 1 + 1), .ref (o + 1 + 7), .ref (o + 1 + 9), .ref (o + 1 + 11), .int (d 13)])) := by rw [ze182]; rw [va_up_ne _ _ (show o + 1 ≠ o + 61 by omega)]; exact K1
      have zK188 : zh181 (o + 2) = some (.inr (2, [.ref (o + 3), .ref (o + 4), .ref (o + 5), .ref (o + 6), .ref (o + 7), .int (nI len), .int (d 0), .int (d 2), .int (d 3), .int (nI nc), .int (d 10), .int cold, .int wind])) := by rw [ze182]; rw [va_up_ne _ _ (show o + 2 ≠ o + 61 by omega)]; exact K2
      have zK189 : zh181 (o + 3) = arI κ 40 (win 100 40 d) := by rw [ze182]; rw [va_up_ne _ _ (show o + 3 ≠ o + 61 by omega)]; exact K3
      have zK190 : zh181 (o + 4) = arI κ 40 (win 140 40 d) := by rw [ze182]; rw [va_up_ne _ _ (show o + 4 ≠ o + 61 by omega)]; exact K4
      have zK191 : zh181 (o + 5) = arI κ 6 (win 4 6 d) := by rw [ze182]; rw [va_up_ne _ _ (show o + 5 ≠ o + 61 by omega)]; exact K5
      have zK192 : zh181 (o + 6) = arR κ 1 6 cs := by rw [ze182]; rw [va_up_ne _ _ (show o + 6 ≠ o + 61 by omega)]; exact K6
      have zK193 : zh181 (o + 7) = arR κ 2 2 ts := by rw [ze182]; rw [va_up_ne _ _ (show o + 7 ≠ o + 61 by omega)]; exact K7
      have zK194 : zh181 (o + 27) = some (.inr (2, [.ref (o + 28), .ref (o + 29), .ref (o + 30), .ref (o + 31), .ref (o + 32), .int alen, .int anow, .int add, .int adr, .int acc, .int aon, .int acold, .int awind])) := by rw [ze182]; rw [va_up_ne _ _ (show o + 27 ≠ o + 61 by omega)]; exact K8
      have zK195 : zh181 (o + 28) = arI κ 40 af1 := by rw [ze182]; rw [va_up_ne _ _ (show o + 28 ≠ o + 61 by omega)]; exact K9
      have zK196 : zh181 (o + 29) = arI κ 40 af2 := by rw [ze182]; rw [va_up_ne _ _ (show o + 29 ≠ o + 61 by omega)]; exact K10
      have zK197 : zh181 (o + 30) = arI κ 6 af3 := by rw [ze182]; rw [va_up_ne _ _ (show o + 30 ≠ o + 61 by omega)]; exact K11
      have zK198 : zh181 (o + 31) = arR κ 1 6 ac1 := by rw [ze182]; rw [va_up_ne _ _ (show o + 31 ≠ o + 61 by omega)]; exact K12
      have zK199 : zh181 (o + 32) = arR κ 2 2 at1 := by rw [ze182]; rw [va_up_ne _ _ (show o + 32 ≠ o + 61 by omega)]; exact K13
      have zK200 : zh181 (o + 57) = some (.inr (6, [.ref (o + 57 + 1), .int rs2, .int bt2])) := by rw [ze182]; rw [va_up_ne _ _ (show o + 57 ≠ o + 61 by omega)]; exact K14
      have zK201 : zh181 (o + 58) = arI κ 40 g2 := by rw [ze182]; rw [va_up_ne _ _ (show o + 58 ≠ o + 61 by omega)]; exact K15
      have zK202 : zh181 (o + 61) = arI κ 6 (bmp fo 1) := by rw [ze182]; exact va_up_self _ _ _
      have zl203 : ∀ zq : Nat, zq < (o + 76) → zq ≠ (o + 61) → zh181 zq = h zq := by intro zq hzq zn0; rw [ze182, va_up_ne _ _ (show zq ≠ o + 61 by omega)]; try rfl
      have zr204 : Zr κ (o + 76) h zh181 := (Zr.refl).trans (Zr.same (fun zq h1 => by rw [ze182, va_up_ne _ _ (show zq ≠ o + 61 by omega)]))
      refine z_iret X E dX11_little_22 (by omega) (by omega) ⟨alen, anow, add, adr, acc, aon, acold, awind, af1, af2, af3, ac1, at1, rs2, g2, ?_, ?_, ?_, ?_, ?_, ?_, ?_, ?_, ?_, ?_, ?_, ?_, ?_⟩
      · rw [(show opLittle (Tx d) tx d v r = (1, 0) from if_pos (by omega))]; first | exact congrArg (fun z => some (Value.int z)) (ansOf_0 _).symm | rfl
      · rfl
      · exact fun zq hzq zn0 zn1 zn2 zn3 zn4 zn5 zn6 zn7 zn8 => zl203 zq hzq zn8
      · exact zr204
      · exact zK194
      · exact zK195
      · exact zK196
      · exact zK197
      · exact zK198
      · exact zK199
      · exact zK200
      · exact zK201
      · rw [(show opLittle (Tx d) tx d v r = (1, 0) from if_pos (by omega))]; first | (rw [bump_0]; exact zK202) | exact zK202
set_option maxHeartbeats 4000000 in
set_option maxRecDepth 100000 in
theorem p_breaks {κ : Wc} {l : Launch} {h : Mm} {n : Nat} {o : Nat} {im : Int32} {d : Nat → Int32} {len : Nat} {nc : Nat} {cold : Int32} {wind : Int32} {cs : Nat → Option Nat} {ts : Nat → Option Nat} {alen : Int32} {anow : Int32} {add : Int32} {adr : Int32} {acc : Int32} {aon : Int32} {acold : Int32} {awind : Int32} {af1 : Nat → Int32} {af2 : Nat → Int32} {af3 : Nat → Int32} {ac1 : Nat → Option Nat} {at1 : Nat → Option Nat} {fo : Nat → Int32} {v : Int32} {tx : Nat → Nat} (K0 : h o = some (.inr (11, [.ref (o + 1), .ref (o + 14), .ref (o + 27), .ref (o + 33), .ref (o + 42), .ref (o + 55), .ref (o + 57), .ref (o + 59), .ref (o + 61), .int im]))) (K1 : h (o + 1) = some (.inr (3, [.ref (o + 1 + 1), .ref (o + 1 + 7), .ref (o + 1 + 9), .ref (o + 1 + 11), .int (d 13)]))) (K2 : h (o + 2) = some (.inr (2, [.ref (o + 3), .ref (o + 4), .ref (o + 5), .ref (o + 6), .ref (o + 7), .int (nI len), .int (d 0), .int (d 2), .int (d 3), .int (nI nc), .int (d 10), .int cold, .int wind]))) (K3 : h (o + 3) = arI κ 40 (win 100 40 d)) (K4 : h (o + 4) = arI κ 40 (win 140 40 d)) (K5 : h (o + 5) = arI κ 6 (win 4 6 d)) (K6 : h (o + 6) = arR κ 1 6 cs) (K7 : h (o + 7) = arR κ 2 2 ts) (K8 : h (o + 27) = some (.inr (2, [.ref (o + 28), .ref (o + 29), .ref (o + 30), .ref (o + 31), .ref (o + 32), .int alen, .int anow, .int add, .int adr, .int acc, .int aon, .int acold, .int awind]))) (K9 : h (o + 28) = arI κ 40 af1) (K10 : h (o + 29) = arI κ 40 af2) (K11 : h (o + 30) = arI κ 6 af3) (K12 : h (o + 31) = arR κ 1 6 ac1) (K13 : h (o + 32) = arR κ 2 2 at1) (K14 : h (o + 61) = arI κ 6 fo) (q1 : d 1 = nI len) (q2 : 1 ≤ len) (q3 : len ≤ 40) (q4 : d 11 = nI nc) (q5 : nc ≤ 6) (hTs : TsO κ (o + 76) h ts (Tx d) tx) (hCs : CsO (o + 76) h cs d nc) (hCA : CsA (o + 76) h cs) (hS : wfS d) (hC : wfC d) : Con κ l yX11_breaks cX11_breaks 3 (some .int) 14 0 0 [.ref o, .int v] h n (fun q h' n' => ∃ x1' : Int32, ∃ x2' : Int32, ∃ x3' : Int32, ∃ x4' : Int32, ∃ x5' : Int32, ∃ x6' : Int32, ∃ x7' : Int32, ∃ x8' : Int32, ∃ af1' : Nat → Int32, ∃ af2' : Nat → Int32, ∃ af3' : Nat → Int32, ∃ ac1' : Nat → Option Nat, ∃ at1' : Nat → Option Nat, q = some (.int (ansOf (opBreaks (Tx d) tx d v))) ∧ n' = n ∧ (∀ zq : Nat, zq < (o + 76) → zq ≠ (o + 27) → zq ≠ (o + 28) → zq ≠ (o + 29) → zq ≠ (o + 30) → zq ≠ (o + 31) → zq ≠ (o + 32) → zq ≠ (o + 61) → h' zq = h zq) ∧ Zr κ (o + 76) h h' ∧ h' (o + 27) = some (.inr (2, [.ref (o + 28), .ref (o + 29), .ref (o + 30), .ref (o + 31), .ref (o + 32), .int x1', .int x2', .int x3', .int x4', .int x5', .int x6', .int x7', .int x8'])) ∧ h' (o + 28) = arI κ 40 af1' ∧ h' (o + 29) = arI κ 40 af2' ∧ h' (o + 30) = arI κ 6 af3' ∧ h' (o + 31) = arR κ 1 6 ac1' ∧ h' (o + 32) = arR κ 2 2 at1' ∧ h' (o + 61) = arI κ 6 (bump (opBreaks (Tx d) tx d v) fo)) := by
  refine Con.of mk_X11_breaks (Nat.le_of_ble_eq_true rfl) (fun G hG X E => ?_)
  subst hG
  refine z_ls (ls' := [(0, .ref o), (1, .int v)]) rfl ?_
  have hOk : lnOk d := lnOk_of q1 q2 q3
  refine z_iload_n X 1 dX11_breaks_0 rfl ?_
  refine z_callS X (c_isAhead (κ := κ) (n := n) (v := (v))  ) mk_X11_isAhead dX11_breaks_1 wd_658 wd_659 rfl rfl (Nat.le_of_ble_eq_true rfl) (Nat.le_of_ble_eq_true rfl) (Nat.le_of_ble_eq_true rfl) (by omega) (by omega) (fun q zh1 zm3 zp4 => ?_)
  obtain ⟨rfl, ze2, zn5⟩ := zp4
  subst zm3
  subst zh1
  refine z_st (st' := [.int (b2i (0 ≤ (v : Int32).toInt ∧ (v : Int32).toInt ≤ 60))]) rfl ?_
  refine z_if_ne X 13 dX11_breaks_4 (by decide) (fun zc6 => ?_) (fun zc6 => ?_)
  · replace zc6 := b2i_t zc6
    obtain ⟨vk, hvk, rfl⟩ := ix_of (c := v) (len := 61) (by omega) (by omega)
    refine z_aload_n X 0 dX11_breaks_13 rfl ?_
    refine z_get X fl_X11_22_11 dX11_breaks_14 K0 rfl ?_
    refine z_aload_n X 0 dX11_breaks_17 rfl ?_
    refine z_get X fl_X11_10_11 dX11_breaks_18 K0 rfl ?_
    refine z_get X fl_X11_56_3 dX11_breaks_21 K1 rfl ?_
    refine z_callV X (c_become (κ := κ) (n := n) (i := (o + 27)) (j := (o + 1 + 1)) (f1 := (af1)) (f2 := (af2)) (f3 := (af3)) (c1 := (ac1)) (t1 := (at1)) (g1 := (win 100 40 d)) (g2 := (win 140 40 d)) (g3 := (win 4 6 d)) (c2 := (cs)) (t2 := (ts)) (T := (Tx d)) (tx := (tx)) (len := (alen)) (now := (anow)) (dd := (add)) (dr := (adr)) (cc := (acc)) (on := (aon)) (cold := (acold)) (wind := (awind)) (len2 := (nI len)) (now2 := (d 0)) (dd2 := (d 2)) (dr2 := (d 3)) (cc2 := (nI nc)) (on2 := (d 10)) (cold2 := (cold)) (wind2 := (wind)) K8 K9 K10 K11 K12 K13 K2 K3 K4 K5 K6 K7 (by first | assumption | omega) (by first | assumption | omega) (by first | assumption | omega) (hCA) (hTs)) mk_X2_become dX11_breaks_24 wd_665 wd_666 wd_667 rfl K8 rfl rfl rfl (Nat.le_of_ble_eq_true rfl) (Nat.le_of_ble_eq_true rfl) (Nat.le_of_ble_eq_true rfl) (by omega) (by omega) (fun q zh7 zm9 zp10 => ?_)
    obtain ⟨rfl, zn11, zf12, zr13, zK14, zK15, zK16, zK17, zK18, zK19⟩ := zp10
    subst zm9
    refine z_st (st' := []) rfl ?_
    have zK20 : zh7 o = some (.inr (11, [.ref (o + 1), .ref (o + 14), .ref (o + 27), .ref (o + 33), .ref (o + 42), .ref (o + 55), .ref (o + 57), .ref (o + 59), .ref (o + 61), .int im])) := (zf12 o (by omega) (by omega) (by omega) (by omega) (by omega) (by omega) (by omega)).trans K0
    have zK21 : zh7 (o + 1) = some (.inr (3, [.ref (o + 1 + 1), .ref (o + 1 + 7), .ref (o + 1 + 9), .ref (o + 1 + 11), .int (d 13)])) := (zf12 (o + 1) (by omega) (by omega) (by omega) (by omega) (by omega) (by omega) (by omega)).trans K1
    have zK22 : zh7 (o + 2) = some (.inr (2, [.ref (o + 3), .ref (o + 4), .ref (o + 5), .ref (o + 6), .ref (o + 7), .int (nI len), .int (d 0), .int (d 2), .int (d 3), .int (nI nc), .int (d 10), .int cold, .int wind])) := (zf12 (o + 2) (by omega) (by omega) (by omega) (by omega) (by omega) (by omega) (by omega)).trans K2
    have zK23 : zh7 (o + 3) = arI κ 40 (win 100 40 d) := (zf12 (o + 3) (by omega) (by omega) (by omega) (by omega) (by omega) (by omega) (by omega)).trans K3
    have zK24 : zh7 (o + 4) = arI κ 40 (win 140 40 d) := (zf12 (o + 4) (by omega) (by omega) (by omega) (by omega) (by omega) (by omega) (by omega)).trans K4
    have zK25 : zh7 (o + 5) = arI κ 6 (win 4 6 d) := (zf12 (o + 5) (by omega) (by omega) (by omega) (by omega) (by omega) (by omega) (by omega)).trans K5
    have zK26 : zh7 (o + 6) = arR κ 1 6 cs := (zf12 (o + 6) (by omega) (by omega) (by omega) (by omega) (by omega) (by omega) (by omega)).trans K6
    have zK27 : zh7 (o + 7) = arR κ 2 2 ts := (zf12 (o + 7) (by omega) (by omega) (by omega) (by omega) (by omega) (by omega) (by omega)).trans K7
    have zK28 : zh7 (o + 61) = arI κ 6 fo := (zf12 (o + 61) (by omega) (by omega) (by omega) (by omega) (by omega) (by omega) (by omega)).trans K14
    have zl29 : ∀ zq : Nat, zq < (o + 76) → zq ≠ (o + 27) → zq ≠ (o + 28) → zq ≠ (o + 29) → zq ≠ (o + 30) → zq ≠ (o + 31) → zq ≠ (o + 32) → zh7 zq = h zq := by intro zq hzq zn0 zn1 zn2 zn3 zn4 zn5; rw [zf12 zq (by omega) (by omega) (by omega) (by omega) (by omega) (by omega) (by omega)]; try rfl
    have zr30 : Zr κ (o + 76) h zh7 := (Zr.refl).trans zr13
    refine z_aload_n X 0 dX11_breaks_27 rfl ?_
    refine z_get X fl_X11_22_11 dX11_breaks_28 zK20 rfl ?_
    refine z_iload_n X 1 dX11_breaks_31 rfl ?_
    refine z_callV X (c_hangs (κ := κ) (n := n) (i := (o + 27)) (len := (len)) (nc := (nc)) (v := (vk)) (m := (d)) (ts := (ts)) (cs := (cs)) (T := (Tx d)) (tx := (tx)) (cold := (acold)) (wind := (awind)) zK14 zK15 zK16 zK17 zK18 zK19 (by first | assumption | omega) (TsO.mono zr30 hTs) (CsO.mono zr30 hCs) (by first | assumption | omega) (by first | assumption | omega) (by first | assumption | omega) (by first | assumption | omega) (by first | assumption | omega) (hS) (hC) (by first | assumption | omega)) mk_X2_hangsNotAfter dX11_breaks_32 wd_698 wd_699 wd_700 rfl zK14 rfl rfl rfl (Nat.le_of_ble_eq_true rfl) (Nat.le_of_ble_eq_true rfl) (Nat.le_of_ble_eq_true rfl) (by omega) (by omega) (fun q zh41 zm43 zp44 => ?_)
    obtain ⟨ln'31, nw'32, dd'33, dr'34, cc'35, on'36, cold'37, wind'38, e1'39, e2'40, rfl, zn45, zf46, zr47, zK48, zK49, zK50⟩ := zp44
    subst zm43
    refine z_st (st' := [.int (faI (brkF (Tx d) tx (vk + 1) 0 d))]) rfl ?_
    have zK51 : zh41 o = some (.inr (11, [.ref (o + 1), .ref (o + 14), .ref (o + 27), .ref (o + 33), .ref (o + 42), .ref (o + 55), .ref (o + 57), .ref (o + 59), .ref (o + 61), .int im])) := (zf46 o (by omega) (by omega) (by omega) (by omega)).trans zK20
    have zK52 : zh41 (o + 1) = some (.inr (3, [.ref (o + 1 + 1), .ref (o + 1 + 7), .ref (o + 1 + 9), .ref (o + 1 + 11), .int (d 13)])) := (zf46 (o + 1) (by omega) (by omega) (by omega) (by omega)).trans zK21
    have zK53 : zh41 (o + 2) = some (.inr (2, [.ref (o + 3), .ref (o + 4), .ref (o + 5), .ref (o + 6), .ref (o + 7), .int (nI len), .int (d 0), .int (d 2), .int (d 3), .int (nI nc), .int (d 10), .int cold, .int wind])) := (zf46 (o + 2) (by omega) (by omega) (by omega) (by omega)).trans zK22
    have zK54 : zh41 (o + 3) = arI κ 40 (win 100 40 d) := (zf46 (o + 3) (by omega) (by omega) (by omega) (by omega)).trans zK23
    have zK55 : zh41 (o + 4) = arI κ 40 (win 140 40 d) := (zf46 (o + 4) (by omega) (by omega) (by omega) (by omega)).trans zK24
    have zK56 : zh41 (o + 5) = arI κ 6 (win 4 6 d) := (zf46 (o + 5) (by omega) (by omega) (by omega) (by omega)).trans zK25
    have zK57 : zh41 (o + 6) = arR κ 1 6 cs := (zf46 (o + 6) (by omega) (by omega) (by omega) (by omega)).trans zK26
    have zK58 : zh41 (o + 7) = arR κ 2 2 ts := (zf46 (o + 7) (by omega) (by omega) (by omega) (by omega)).trans zK27
    have zK59 : zh41 (o + 61) = arI κ 6 fo := (zf46 (o + 61) (by omega) (by omega) (by omega) (by omega)).trans zK28
    have zK60 : zh41 (o + 30) = arI κ 6 ((win 4 6 d)) := (zf46 (o + 30) (by omega) (by omega) (by omega) (by omega)).trans zK17
    have zK61 : zh41 (o + 31) = arR κ 1 6 cs := (zf46 (o + 31) (by omega) (by omega) (by omega) (by omega)).trans zK18
    have zK62 : zh41 (o + 32) = arR κ 2 2 ts := (zf46 (o + 32) (by omega) (by omega) (by omega) (by omega)).trans zK19
    have zl63 : ∀ zq : Nat, zq < (o + 76) → zq ≠ (o + 27) → zq ≠ (o + 28) → zq ≠ (o + 29) → zq ≠ (o + 30) → zq ≠ (o + 31) → zq ≠ (o + 32) → zh41 zq = h zq := by intro zq hzq zn0 zn1 zn2 zn3 zn4 zn5; rw [zf46 zq (by omega) (by omega) (by omega) (by omega)]; exact zl29 zq hzq zn0 zn1 zn2 zn3 zn4 zn5
    have zr64 : Zr κ (o + 76) h zh41 := (zr30).trans zr47
    have hbl : ∀ zq, brkF (Tx d) tx (vk + 1) 0 d = some zq → zq < 1000 := fun zq hq => (by have := brkF_le _ _ _ _ hq; omega)
    refine z_istore_n (ls' := [(2, .int (faI (brkF (Tx d) tx (vk + 1) 0 d))), (0, .ref o), (1, .int (nI vk))]) X dX11_breaks_35 (by decide) rfl ?_
    refine z_iload_n X 0 dX11_breaks_36 rfl ?_
    refine z_if_lt X 44 dX11_breaks_37 (by decide) (fun zc65 => ?_) (fun zc65 => ?_)
    · refine z_aload_n X 1 dX11_breaks_44 rfl ?_
      refine z_iconst (v := 2) X dX11_breaks_45 (by decide) ?_
      refine z_callV X (c_fail (κ := κ) (n := n) (o := (o)) (im := (im)) (fo := (fo)) (k := (2)) zK51 zK59 (by first | assumption | omega) (by first | assumption | omega)) mk_X11_fail dX11_breaks_46 wd_260 wd_262 wd_0 rfl zK51 rfl rfl rfl (Nat.le_of_ble_eq_true rfl) (Nat.le_of_ble_eq_true rfl) (Nat.le_of_ble_eq_true rfl) (by omega) (by omega) (fun q zh66 zm68 zp69 => ?_)
      obtain ⟨rfl, ze67, zn70⟩ := zp69
      subst zm68
      refine z_st (st' := [.int (lowE 2)]) rfl ?_
      have zK71 : zh66 o = some (.inr (11, [.ref (o + 1), .ref (o + 14), .ref (o + 27), .ref (o + 33), .ref (o + 42), .ref (o + 55), .ref (o + 57), .ref (o + 59), .ref (o + 61), .int im])) := by rw [ze67]; rw [va_up_ne _ _ (show o ≠ o + 61 by omega)]; exact zK51
      have zK72 : zh66 (o + 1) = some (.inr (3, [.ref (o + 1 + 1), .ref (o + 1 + 7), .ref (o + 1 + 9), .ref (o + 1 + 11), .int (d 13)])) := by rw [ze67]; rw [va_up_ne _ _ (show o + 1 ≠ o + 61 by omega)]; exact zK52
      have zK73 : zh66 (o + 2) = some (.inr (2, [.ref (o + 3), .ref (o + 4), .ref (o + 5), .ref (o + 6), .ref (o + 7), .int (nI len), .int (d 0), .int (d 2), .int (d 3), .int (nI nc), .int (d 10), .int cold, .int wind])) := by rw [ze67]; rw [va_up_ne _ _ (show o + 2 ≠ o + 61 by omega)]; exact zK53
      have zK74 : zh66 (o + 3) = arI κ 40 (win 100 40 d) := by rw [ze67]; rw [va_up_ne _ _ (show o + 3 ≠ o + 61 by omega)]; exact zK54
      have zK75 : zh66 (o + 4) = arI κ 40 (win 140 40 d) := by rw [ze67]; rw [va_up_ne _ _ (show o + 4 ≠ o + 61 by omega)]; exact zK55
      have zK76 : zh66 (o + 5) = arI κ 6 (win 4 6 d) := by rw [ze67]; rw [va_up_ne _ _ (show o + 5 ≠ o + 61 by omega)]; exact zK56
      have zK77 : zh66 (o + 6) = arR κ 1 6 cs := by rw [ze67]; rw [va_up_ne _ _ (show o + 6 ≠ o + 61 by omega)]; exact zK57
      have zK78 : zh66 (o + 7) = arR κ 2 2 ts := by rw [ze67]; rw [va_up_ne _ _ (show o + 7 ≠ o + 61 by omega)]; exact zK58
      have zK79 : zh66 (o + 61) = arI κ 6 (bmp fo 2) := by rw [ze67]; exact va_up_self _ _ _
      have zK80 : zh66 (o + 30) = arI κ 6 ((win 4 6 d)) := by rw [ze67]; rw [va_up_ne _ _ (show o + 30 ≠ o + 61 by omega)]; exact zK60
      have zK81 : zh66 (o + 31) = arR κ 1 6 cs := by rw [ze67]; rw [va_up_ne _ _ (show o + 31 ≠ o + 61 by omega)]; exact zK61
      have zK82 : zh66 (o + 32) = arR κ 2 2 ts := by rw [ze67]; rw [va_up_ne _ _ (show o + 32 ≠ o + 61 by omega)]; exact zK62
      have zK83 : zh66 (o + 27) = some (.inr (2, [.ref ((o + 27) + 1), .ref ((o + 27) + 2), .ref ((o + 27) + 3), .ref ((o + 27) + 4), .ref ((o + 27) + 5), .int ln'31, .int nw'32, .int dd'33, .int dr'34, .int cc'35, .int on'36, .int cold'37, .int wind'38])) := by rw [ze67]; rw [va_up_ne _ _ (show o + 27 ≠ o + 61 by omega)]; exact zK48
      have zK84 : zh66 (o + 28) = arI κ 40 e1'39 := by rw [ze67]; rw [va_up_ne _ _ (show o + 28 ≠ o + 61 by omega)]; exact zK49
      have zK85 : zh66 (o + 29) = arI κ 40 e2'40 := by rw [ze67]; rw [va_up_ne _ _ (show o + 29 ≠ o + 61 by omega)]; exact zK50
      have zl86 : ∀ zq : Nat, zq < (o + 76) → zq ≠ (o + 27) → zq ≠ (o + 28) → zq ≠ (o + 29) → zq ≠ (o + 30) → zq ≠ (o + 31) → zq ≠ (o + 32) → zq ≠ (o + 61) → zh66 zq = h zq := by intro zq hzq zn0 zn1 zn2 zn3 zn4 zn5 zn6; rw [ze67, va_up_ne _ _ (show zq ≠ o + 61 by omega)]; exact zl63 zq hzq zn0 zn1 zn2 zn3 zn4 zn5
      have zr87 : Zr κ (o + 76) h zh66 := (zr64).trans (Zr.same (fun zq h1 => by rw [ze67, va_up_ne _ _ (show zq ≠ o + 61 by omega)]))
      refine z_iret X E dX11_breaks_49 (by omega) (by omega) ⟨ln'31, nw'32, dd'33, dr'34, cc'35, on'36, cold'37, wind'38, e1'39, e2'40, ((win 4 6 d)), cs, ts, ?_, ?_, ?_, ?_, ?_, ?_, ?_, ?_, ?_, ?_, ?_⟩
      · rw [(show opBreaks (Tx d) tx d (nI vk) = (2, 0) from opBreaks_2 (by omega) ((brkI_lt hbl).mp (by assumption)))]; first | exact congrArg (fun z => some (Value.int z)) (ansOf_0 _).symm | rfl
      · rfl
      · exact fun zq hzq zn0 zn1 zn2 zn3 zn4 zn5 zn6 => zl86 zq hzq zn0 zn1 zn2 zn3 zn4 zn5 zn6
      · exact zr87
      · exact zK83
      · exact zK84
      · exact zK85
      · exact zK80
      · exact zK81
      · exact zK82
      · rw [(show opBreaks (Tx d) tx d (nI vk) = (2, 0) from opBreaks_2 (by omega) ((brkI_lt hbl).mp (by assumption)))]; first | (rw [bump_0]; exact zK79) | exact zK79
    · refine z_iload_n X 0 dX11_breaks_40 rfl ?_
      refine z_goto X 49 dX11_breaks_41 (by decide) ?_
      refine z_iret X E dX11_breaks_49 (by omega) (by omega) ⟨ln'31, nw'32, dd'33, dr'34, cc'35, on'36, cold'37, wind'38, e1'39, e2'40, ((win 4 6 d)), cs, ts, ?_, ?_, ?_, ?_, ?_, ?_, ?_, ?_, ?_, ?_, ?_⟩
      · rw [(show opBreaks (Tx d) tx d (nI vk) = (0, faI (brkF (Tx d) tx (vk + 1) 0 d)) from opBreaks_0 (by omega) ((brkI_ge hbl).mp (Int32.not_lt.mp (by assumption))))]; first | exact congrArg (fun z => some (Value.int z)) (ansOf_0 _).symm | rfl
      · rfl
      · exact fun zq hzq zn0 zn1 zn2 zn3 zn4 zn5 zn6 => zl63 zq hzq zn0 zn1 zn2 zn3 zn4 zn5
      · exact zr64
      · exact zK48
      · exact zK49
      · exact zK50
      · exact zK60
      · exact zK61
      · exact zK62
      · rw [(show opBreaks (Tx d) tx d (nI vk) = (0, faI (brkF (Tx d) tx (vk + 1) 0 d)) from opBreaks_0 (by omega) ((brkI_ge hbl).mp (Int32.not_lt.mp (by assumption))))]; first | (rw [bump_0]; exact zK59) | exact zK59
  · replace zc6 := b2i_f zc6
    refine z_aload_n X 0 dX11_breaks_7 rfl ?_
    refine z_iconst (v := 1) X dX11_breaks_8 (by decide) ?_
    refine z_callV X (c_fail (κ := κ) (n := n) (o := (o)) (im := (im)) (fo := (fo)) (k := (1)) K0 K14 (by first | assumption | omega) (by first | assumption | omega)) mk_X11_fail dX11_breaks_9 wd_260 wd_262 wd_0 rfl K0 rfl rfl rfl (Nat.le_of_ble_eq_true rfl) (Nat.le_of_ble_eq_true rfl) (Nat.le_of_ble_eq_true rfl) (by omega) (by omega) (fun q zh88 zm90 zp91 => ?_)
    obtain ⟨rfl, ze89, zn92⟩ := zp91
    subst zm90
    refine z_st (st' := [.int (lowE 1)]) rfl ?_
    have zK93 : zh88 o = some (.inr (11, [.ref (o + 1), .ref (o + 14), .ref (o + 27), .ref (o + 33), .ref (o + 42), .ref (o + 55), .ref (o + 57), .ref (o + 59), .ref (o + 61), .int im])) := by rw [ze89]; rw [va_up_ne _ _ (show o ≠ o + 61 by omega)]; exact K0
    have zK94 : zh88 (o + 1) = some (.inr (3, [.ref (o + 1 + 1), .ref (o + 1 + 7), .ref (o + 1 + 9), .ref (o + 1 + 11), .int (d 13)])) := by rw [ze89]; rw [va_up_ne _ _ (show o + 1 ≠ o + 61 by omega)]; exact K1
    have zK95 : zh88 (o + 2) = some (.inr (2, [.ref (o + 3), .ref (o + 4), .ref (o + 5), .ref (o + 6), .ref (o + 7), .int (nI len), .int (d 0), .int (d 2), .int (d 3), .int (nI nc), .int (d 10), .int cold, .int wind])) := by rw [ze89]; rw [va_up_ne _ _ (show o + 2 ≠ o + 61 by omega)]; exact K2
    have zK96 : zh88 (o + 3) = arI κ 40 (win 100 40 d) := by rw [ze89]; rw [va_up_ne _ _ (show o + 3 ≠ o + 61 by omega)]; exact K3
    have zK97 : zh88 (o + 4) = arI κ 40 (win 140 40 d) := by rw [ze89]; rw [va_up_ne _ _ (show o + 4 ≠ o + 61 by omega)]; exact K4
    have zK98 : zh88 (o + 5) = arI κ 6 (win 4 6 d) := by rw [ze89]; rw [va_up_ne _ _ (show o + 5 ≠ o + 61 by omega)]; exact K5
    have zK99 : zh88 (o + 6) = arR κ 1 6 cs := by rw [ze89]; rw [va_up_ne _ _ (show o + 6 ≠ o + 61 by omega)]; exact K6
    have zK100 : zh88 (o + 7) = arR κ 2 2 ts := by rw [ze89]; rw [va_up_ne _ _ (show o + 7 ≠ o + 61 by omega)]; exact K7
    have zK101 : zh88 (o + 27) = some (.inr (2, [.ref (o + 28), .ref (o + 29), .ref (o + 30), .ref (o + 31), .ref (o + 32), .int alen, .int anow, .int add, .int adr, .int acc, .int aon, .int acold, .int awind])) := by rw [ze89]; rw [va_up_ne _ _ (show o + 27 ≠ o + 61 by omega)]; exact K8
    have zK102 : zh88 (o + 28) = arI κ 40 af1 := by rw [ze89]; rw [va_up_ne _ _ (show o + 28 ≠ o + 61 by omega)]; exact K9
    have zK103 : zh88 (o + 29) = arI κ 40 af2 := by rw [ze89]; rw [va_up_ne _ _ (show o + 29 ≠ o + 61 by omega)]; exact K10
    have zK104 : zh88 (o + 30) = arI κ 6 af3 := by rw [ze89]; rw [va_up_ne _ _ (show o + 30 ≠ o + 61 by omega)]; exact K11
    have zK105 : zh88 (o + 31) = arR κ 1 6 ac1 := by rw [ze89]; rw [va_up_ne _ _ (show o + 31 ≠ o + 61 by omega)]; exact K12
    have zK106 : zh88 (o + 32) = arR κ 2 2 at1 := by rw [ze89]; rw [va_up_ne _ _ (show o + 32 ≠ o + 61 by omega)]; exact K13
    have zK107 : zh88 (o + 61) = arI κ 6 (bmp fo 1) := by rw [ze89]; exact va_up_self _ _ _
    have zl108 : ∀ zq : Nat, zq < (o + 76) → zq ≠ (o + 61) → zh88 zq = h zq := by intro zq hzq zn0; rw [ze89, va_up_ne _ _ (show zq ≠ o + 61 by omega)]; try rfl
    have zr109 : Zr κ (o + 76) h zh88 := (Zr.refl).trans (Zr.same (fun zq h1 => by rw [ze89, va_up_ne _ _ (show zq ≠ o + 61 by omega)]))
    refine z_iret X E dX11_breaks_12 (by omega) (by omega) ⟨alen, anow, add, adr, acc, aon, acold, awind, af1, af2, af3, ac1, at1, ?_, ?_, ?_, ?_, ?_, ?_, ?_, ?_, ?_, ?_, ?_⟩
    · rw [(show opBreaks (Tx d) tx d v = (1, 0) from if_pos (by assumption))]; first | exact congrArg (fun z => some (Value.int z)) (ansOf_0 _).symm | rfl
    · rfl
    · exact fun zq hzq zn0 zn1 zn2 zn3 zn4 zn5 zn6 => zl108 zq hzq zn6
    · exact zr109
    · exact zK101
    · exact zK102
    · exact zK103
    · exact zK104
    · exact zK105
    · exact zK106
    · rw [(show opBreaks (Tx d) tx d v = (1, 0) from if_pos (by assumption))]; first | (rw [bump_0]; exact zK107) | exact zK107
set_option maxHeartbeats 4000000 in
set_option maxRecDepth 100000 in
theorem p_falls {κ : Wc} {l : Launch} {h : Mm} {n : Nat} {o : Nat} {im : Int32} {d : Nat → Int32} {len : Nat} {nc : Nat} {cold : Int32} {wind : Int32} {cs : Nat → Option Nat} {ts : Nat → Option Nat} {alen : Int32} {anow : Int32} {add : Int32} {adr : Int32} {acc : Int32} {aon : Int32} {acold : Int32} {awind : Int32} {af1 : Nat → Int32} {af2 : Nat → Int32} {af3 : Nat → Int32} {ac1 : Nat → Option Nat} {at1 : Nat → Option Nat} {fo : Nat → Int32} {v : Int32} {tx : Nat → Nat} (K0 : h o = some (.inr (11, [.ref (o + 1), .ref (o + 14), .ref (o + 27), .ref (o + 33), .ref (o + 42), .ref (o + 55), .ref (o + 57), .ref (o + 59), .ref (o + 61), .int im]))) (K1 : h (o + 1) = some (.inr (3, [.ref (o + 1 + 1), .ref (o + 1 + 7), .ref (o + 1 + 9), .ref (o + 1 + 11), .int (d 13)]))) (K2 : h (o + 2) = some (.inr (2, [.ref (o + 3), .ref (o + 4), .ref (o + 5), .ref (o + 6), .ref (o + 7), .int (nI len), .int (d 0), .int (d 2), .int (d 3), .int (nI nc), .int (d 10), .int cold, .int wind]))) (K3 : h (o + 3) = arI κ 40 (win 100 40 d)) (K4 : h (o + 4) = arI κ 40 (win 140 40 d)) (K5 : h (o + 5) = arI κ 6 (win 4 6 d)) (K6 : h (o + 6) = arR κ 1 6 cs) (K7 : h (o + 7) = arR κ 2 2 ts) (K8 : h (o + 27) = some (.inr (2, [.ref (o + 28), .ref (o + 29), .ref (o + 30), .ref (o + 31), .ref (o + 32), .int alen, .int anow, .int add, .int adr, .int acc, .int aon, .int acold, .int awind]))) (K9 : h (o + 28) = arI κ 40 af1) (K10 : h (o + 29) = arI κ 40 af2) (K11 : h (o + 30) = arI κ 6 af3) (K12 : h (o + 31) = arR κ 1 6 ac1) (K13 : h (o + 32) = arR κ 2 2 at1) (K14 : h (o + 61) = arI κ 6 fo) (q1 : d 1 = nI len) (q2 : 1 ≤ len) (q3 : len ≤ 40) (q4 : d 11 = nI nc) (q5 : nc ≤ 6) (hTs : TsO κ (o + 76) h ts (Tx d) tx) (hCs : CsO (o + 76) h cs d nc) (hCA : CsA (o + 76) h cs) (hS : wfS d) (hC : wfC d) : Con κ l yX11_falls cX11_falls 3 (some .int) 14 0 0 [.ref o, .int v] h n (fun q h' n' => ∃ x1' : Int32, ∃ x2' : Int32, ∃ x3' : Int32, ∃ x4' : Int32, ∃ x5' : Int32, ∃ x6' : Int32, ∃ x7' : Int32, ∃ x8' : Int32, ∃ af1' : Nat → Int32, ∃ af2' : Nat → Int32, ∃ af3' : Nat → Int32, ∃ ac1' : Nat → Option Nat, ∃ at1' : Nat → Option Nat, q = some (.int (ansOf (opFalls (Tx d) tx d v))) ∧ n' = n ∧ (∀ zq : Nat, zq < (o + 76) → zq ≠ (o + 27) → zq ≠ (o + 28) → zq ≠ (o + 29) → zq ≠ (o + 30) → zq ≠ (o + 31) → zq ≠ (o + 32) → zq ≠ (o + 61) → h' zq = h zq) ∧ Zr κ (o + 76) h h' ∧ h' (o + 27) = some (.inr (2, [.ref (o + 28), .ref (o + 29), .ref (o + 30), .ref (o + 31), .ref (o + 32), .int x1', .int x2', .int x3', .int x4', .int x5', .int x6', .int x7', .int x8'])) ∧ h' (o + 28) = arI κ 40 af1' ∧ h' (o + 29) = arI κ 40 af2' ∧ h' (o + 30) = arI κ 6 af3' ∧ h' (o + 31) = arR κ 1 6 ac1' ∧ h' (o + 32) = arR κ 2 2 at1' ∧ h' (o + 61) = arI κ 6 (bump (opFalls (Tx d) tx d v) fo)) := by
  refine Con.of mk_X11_falls (Nat.le_of_ble_eq_true rfl) (fun G hG X E => ?_)
  subst hG
  refine z_ls (ls' := [(0, .ref o), (1, .int v)]) rfl ?_
  have hOk : lnOk d := lnOk_of q1 q2 q3
  refine z_iload_n X 1 dX11_falls_0 rfl ?_
  refine z_callS X (c_isAhead (κ := κ) (n := n) (v := (v))  ) mk_X11_isAhead dX11_falls_1 wd_658 wd_659 rfl rfl (Nat.le_of_ble_eq_true rfl) (Nat.le_of_ble_eq_true rfl) (Nat.le_of_ble_eq_true rfl) (by omega) (by omega) (fun q zh1 zm3 zp4 => ?_)
  obtain ⟨rfl, ze2, zn5⟩ := zp4
  subst zm3
  subst zh1
  refine z_st (st' := [.int (b2i (0 ≤ (v : Int32).toInt ∧ (v : Int32).toInt ≤ 60))]) rfl ?_
  refine z_if_ne X 13 dX11_falls_4 (by decide) (fun zc6 => ?_) (fun zc6 => ?_)
  · replace zc6 := b2i_t zc6
    obtain ⟨vk, hvk, rfl⟩ := ix_of (c := v) (len := 61) (by omega) (by omega)
    refine z_gets X 1 rfl dX11_falls_13 wd_312 ?_
    refine z_iconst (v := 2) X dX11_falls_16 (by decide) ?_
    refine z_ti (v := .int (99 - nI 0)) X 1 rfl dX11_falls_17 (vp_in_nI (n := 2) (by decide) (by decide)) (rfl) ?_
    refine z_istore_n (ls' := [(2, .int (99 - nI 0)), (0, .ref o), (1, .int (nI vk))]) X dX11_falls_18 (by decide) rfl ?_
    have L19 : ∀ (jj : Nat) (hh19 : Mm) (s : Nat) (y1 : Int32) (y2 : Int32) (y3 : Int32) (y4 : Int32) (y5 : Int32) (y6 : Int32) (y7 : Int32) (y8 : Int32) (b1 : Nat → Int32) (b2 : Nat → Int32) (b3 : Nat → Int32) (b4 : Nat → Option Nat) (b5 : Nat → Option Nat), (150 - s < jj) → (∀ zq : Nat, zq < (o + 76) → zq ≠ (o + 27) → zq ≠ (o + 28) → zq ≠ (o + 29) → zq ≠ (o + 30) → zq ≠ (o + 31) → zq ≠ (o + 32) → hh19 zq = h zq) → Zr κ (o + 76) h hh19 → hh19 (o + 27) = some (.inr (2, [.ref (o + 28), .ref (o + 29), .ref (o + 30), .ref (o + 31), .ref (o + 32), .int y1, .int y2, .int y3, .int y4, .int y5, .int y6, .int y7, .int y8])) → hh19 (o + 28) = arI κ 40 b1 → hh19 (o + 29) = arI κ 40 b2 → hh19 (o + 30) = arI κ 6 b3 → hh19 (o + 31) = arR κ 1 6 b4 → hh19 (o + 32) = arR κ 2 2 b5 → (hi : s ≤ 150) → (hR : falF (Tx d) tx d vk 150 0 = falF (Tx d) tx d vk (150 - s) s) → Z κ G 3 19 [(0, .ref o), (1, .int (nI vk)), (2, .int (99 - nI s))] [] hh19 n 0 (0) := by
      intro jj
      induction jj with
      | zero => intro hh19 s y1 y2 y3 y4 y5 y6 y7 y8 b1 b2 b3 b4 b5 hmu; exact absurd hmu (Nat.not_lt_zero _)
      | succ jj ih19 =>
        intro hh19 s y1 y2 y3 y4 y5 y6 y7 y8 b1 b2 b3 b4 b5 hmu zl_19 zr_19 zK7 zK8 zK9 zK10 zK11 zK12 hi hR
        have zK13 : hh19 o = some (.inr (11, [.ref (o + 1), .ref (o + 14), .ref (o + 27), .ref (o + 33), .ref (o + 42), .ref (o + 55), .ref (o + 57), .ref (o + 59), .ref (o + 61), .int im])) := (zl_19 o (by omega) (by omega) (by omega) (by omega) (by omega) (by omega) (by omega)).trans K0
        have zK14 : hh19 (o + 1) = some (.inr (3, [.ref (o + 1 + 1), .ref (o + 1 + 7), .ref (o + 1 + 9), .ref (o + 1 + 11), .int (d 13)])) := (zl_19 (o + 1) (by omega) (by omega) (by omega) (by omega) (by omega) (by omega) (by omega)).trans K1
        have zK15 : hh19 (o + 2) = some (.inr (2, [.ref (o + 3), .ref (o + 4), .ref (o + 5), .ref (o + 6), .ref (o + 7), .int (nI len), .int (d 0), .int (d 2), .int (d 3), .int (nI nc), .int (d 10), .int cold, .int wind])) := (zl_19 (o + 2) (by omega) (by omega) (by omega) (by omega) (by omega) (by omega) (by omega)).trans K2
        have zK16 : hh19 (o + 3) = arI κ 40 (win 100 40 d) := (zl_19 (o + 3) (by omega) (by omega) (by omega) (by omega) (by omega) (by omega) (by omega)).trans K3
        have zK17 : hh19 (o + 4) = arI κ 40 (win 140 40 d) := (zl_19 (o + 4) (by omega) (by omega) (by omega) (by omega) (by omega) (by omega) (by omega)).trans K4
        have zK18 : hh19 (o + 5) = arI κ 6 (win 4 6 d) := (zl_19 (o + 5) (by omega) (by omega) (by omega) (by omega) (by omega) (by omega) (by omega)).trans K5
        have zK19 : hh19 (o + 6) = arR κ 1 6 cs := (zl_19 (o + 6) (by omega) (by omega) (by omega) (by omega) (by omega) (by omega) (by omega)).trans K6
        have zK20 : hh19 (o + 7) = arR κ 2 2 ts := (zl_19 (o + 7) (by omega) (by omega) (by omega) (by omega) (by omega) (by omega) (by omega)).trans K7
        have zK21 : hh19 (o + 61) = arI κ 6 fo := (zl_19 (o + 61) (by omega) (by omega) (by omega) (by omega) (by omega) (by omega) (by omega)).trans K14
        have hfi := fal_i (j := s) (by omega)
        refine z_iload_n X 2 dX11_falls_19 rfl ?_
        refine z_gets X 0 rfl dX11_falls_20 wd_310 ?_
        refine z_iconst (v := 2) X dX11_falls_23 (by decide) ?_
        refine z_ti (v := .int ((-50))) X 0 rfl dX11_falls_24 (vp_in_nI (n := 2) (by decide) (by decide)) (rfl) ?_
        refine z_icmp_lt X 71 dX11_falls_25 (by decide) (fun zc22 => ?_) (fun zc22 => ?_)
        · simp only [i_lt, i_le, hfi, show (-50 : Int32).toInt = -50 by decide] at zc22
          refine z_aload_n X 0 dX11_falls_71 rfl ?_
          refine z_iconst (v := 2) X dX11_falls_72 (by decide) ?_
          refine z_callV X (c_fail (κ := κ) (n := n) (o := (o)) (im := (im)) (fo := (fo)) (k := (2)) zK13 zK21 (by first | assumption | omega) (by first | assumption | omega)) mk_X11_fail dX11_falls_73 wd_260 wd_262 wd_0 rfl zK13 rfl rfl rfl (Nat.le_of_ble_eq_true rfl) (Nat.le_of_ble_eq_true rfl) (Nat.le_of_ble_eq_true rfl) (by omega) (by omega) (fun q zh23 zm25 zp26 => ?_)
          obtain ⟨rfl, ze24, zn27⟩ := zp26
          subst zm25
          refine z_st (st' := [.int (lowE 2)]) rfl ?_
          have zK28 : zh23 (o + 27) = some (.inr (2, [.ref (o + 28), .ref (o + 29), .ref (o + 30), .ref (o + 31), .ref (o + 32), .int y1, .int y2, .int y3, .int y4, .int y5, .int y6, .int y7, .int y8])) := by rw [ze24]; rw [va_up_ne _ _ (show o + 27 ≠ o + 61 by omega)]; exact zK7
          have zK29 : zh23 (o + 28) = arI κ 40 b1 := by rw [ze24]; rw [va_up_ne _ _ (show o + 28 ≠ o + 61 by omega)]; exact zK8
          have zK30 : zh23 (o + 29) = arI κ 40 b2 := by rw [ze24]; rw [va_up_ne _ _ (show o + 29 ≠ o + 61 by omega)]; exact zK9
          have zK31 : zh23 (o + 30) = arI κ 6 b3 := by rw [ze24]; rw [va_up_ne _ _ (show o + 30 ≠ o + 61 by omega)]; exact zK10
          have zK32 : zh23 (o + 31) = arR κ 1 6 b4 := by rw [ze24]; rw [va_up_ne _ _ (show o + 31 ≠ o + 61 by omega)]; exact zK11
          have zK33 : zh23 (o + 32) = arR κ 2 2 b5 := by rw [ze24]; rw [va_up_ne _ _ (show o + 32 ≠ o + 61 by omega)]; exact zK12
          have zK34 : zh23 o = some (.inr (11, [.ref (o + 1), .ref (o + 14), .ref (o + 27), .ref (o + 33), .ref (o + 42), .ref (o + 55), .ref (o + 57), .ref (o + 59), .ref (o + 61), .int im])) := by rw [ze24]; rw [va_up_ne _ _ (show o ≠ o + 61 by omega)]; exact zK13
          have zK35 : zh23 (o + 1) = some (.inr (3, [.ref (o + 1 + 1), .ref (o + 1 + 7), .ref (o + 1 + 9), .ref (o + 1 + 11), .int (d 13)])) := by rw [ze24]; rw [va_up_ne _ _ (show o + 1 ≠ o + 61 by omega)]; exact zK14
          have zK36 : zh23 (o + 2) = some (.inr (2, [.ref (o + 3), .ref (o + 4), .ref (o + 5), .ref (o + 6), .ref (o + 7), .int (nI len), .int (d 0), .int (d 2), .int (d 3), .int (nI nc), .int (d 10), .int cold, .int wind])) := by rw [ze24]; rw [va_up_ne _ _ (show o + 2 ≠ o + 61 by omega)]; exact zK15
          have zK37 : zh23 (o + 3) = arI κ 40 (win 100 40 d) := by rw [ze24]; rw [va_up_ne _ _ (show o + 3 ≠ o + 61 by omega)]; exact zK16
          have zK38 : zh23 (o + 4) = arI κ 40 (win 140 40 d) := by rw [ze24]; rw [va_up_ne _ _ (show o + 4 ≠ o + 61 by omega)]; exact zK17
          have zK39 : zh23 (o + 5) = arI κ 6 (win 4 6 d) := by rw [ze24]; rw [va_up_ne _ _ (show o + 5 ≠ o + 61 by omega)]; exact zK18
          have zK40 : zh23 (o + 6) = arR κ 1 6 cs := by rw [ze24]; rw [va_up_ne _ _ (show o + 6 ≠ o + 61 by omega)]; exact zK19
          have zK41 : zh23 (o + 7) = arR κ 2 2 ts := by rw [ze24]; rw [va_up_ne _ _ (show o + 7 ≠ o + 61 by omega)]; exact zK20
          have zK42 : zh23 (o + 61) = arI κ 6 (bmp fo 2) := by rw [ze24]; exact va_up_self _ _ _
          have zl43 : ∀ zq : Nat, zq < (o + 76) → zq ≠ (o + 27) → zq ≠ (o + 28) → zq ≠ (o + 29) → zq ≠ (o + 30) → zq ≠ (o + 31) → zq ≠ (o + 32) → zq ≠ (o + 61) → zh23 zq = h zq := by intro zq hzq zn0 zn1 zn2 zn3 zn4 zn5 zn6; rw [ze24, va_up_ne _ _ (show zq ≠ o + 61 by omega)]; exact zl_19 zq hzq zn0 zn1 zn2 zn3 zn4 zn5
          have zr44 : Zr κ (o + 76) h zh23 := (zr_19).trans (Zr.same (fun zq h1 => by rw [ze24, va_up_ne _ _ (show zq ≠ o + 61 by omega)]))
          refine z_iret X E dX11_falls_76 (by omega) (by omega) ⟨y1, y2, y3, y4, y5, y6, y7, y8, b1, b2, b3, b4, b5, ?_, ?_, ?_, ?_, ?_, ?_, ?_, ?_, ?_, ?_, ?_⟩
          · rw [(show opFalls (Tx d) tx d (nI vk) = (2, 0) from opFalls_2 (by omega) (hR.trans (by rw [show 150 - s = 0 by omega]; rfl)))]; first | exact congrArg (fun z => some (Value.int z)) (ansOf_0 _).symm | rfl
          · rfl
          · exact fun zq hzq zn0 zn1 zn2 zn3 zn4 zn5 zn6 => zl43 zq hzq zn0 zn1 zn2 zn3 zn4 zn5 zn6
          · exact zr44
          · exact zK28
          · exact zK29
          · exact zK30
          · exact zK31
          · exact zK32
          · exact zK33
          · rw [(show opFalls (Tx d) tx d (nI vk) = (2, 0) from opFalls_2 (by omega) (hR.trans (by rw [show 150 - s = 0 by omega]; rfl)))]; first | (rw [bump_0]; exact zK42) | exact zK42
        · simp only [i_lt, i_le, hfi, show (-50 : Int32).toInt = -50 by decide] at zc22
          refine z_aload_n X 0 dX11_falls_28 rfl ?_
          refine z_get X fl_X11_22_11 dX11_falls_29 zK13 rfl ?_
          refine z_aload_n X 0 dX11_falls_32 rfl ?_
          refine z_get X fl_X11_10_11 dX11_falls_33 zK13 rfl ?_
          refine z_get X fl_X11_56_3 dX11_falls_36 zK14 rfl ?_
          refine z_callV X (c_become (κ := κ) (n := n) (i := (o + 27)) (j := (o + 1 + 1)) (f1 := (b1)) (f2 := (b2)) (f3 := (b3)) (c1 := (b4)) (t1 := (b5)) (g1 := (win 100 40 d)) (g2 := (win 140 40 d)) (g3 := (win 4 6 d)) (c2 := (cs)) (t2 := (ts)) (T := (Tx d)) (tx := (tx)) (len := (y1)) (now := (y2)) (dd := (y3)) (dr := (y4)) (cc := (y5)) (on := (y6)) (cold := (y7)) (wind := (y8)) (len2 := (nI len)) (now2 := (d 0)) (dd2 := (d 2)) (dr2 := (d 3)) (cc2 := (nI nc)) (on2 := (d 10)) (cold2 := (cold)) (wind2 := (wind)) zK7 zK8 zK9 zK10 zK11 zK12 zK15 zK16 zK17 zK18 zK19 zK20 (by first | assumption | omega) (by first | assumption | omega) (by first | assumption | omega) (CsA.mono zr_19 hCA) (TsO.mono zr_19 hTs)) mk_X2_become dX11_falls_39 wd_665 wd_666 wd_667 rfl zK7 rfl rfl rfl (Nat.le_of_ble_eq_true rfl) (Nat.le_of_ble_eq_true rfl) (Nat.le_of_ble_eq_true rfl) (by omega) (by omega) (fun q zh45 zm47 zp48 => ?_)
          obtain ⟨rfl, zn49, zf50, zr51, zK52, zK53, zK54, zK55, zK56, zK57⟩ := zp48
          subst zm47
          refine z_st (st' := []) rfl ?_
          have zK58 : zh45 o = some (.inr (11, [.ref (o + 1), .ref (o + 14), .ref (o + 27), .ref (o + 33), .ref (o + 42), .ref (o + 55), .ref (o + 57), .ref (o + 59), .ref (o + 61), .int im])) := (zf50 o (by omega) (by omega) (by omega) (by omega) (by omega) (by omega) (by omega)).trans zK13
          have zK59 : zh45 (o + 1) = some (.inr (3, [.ref (o + 1 + 1), .ref (o + 1 + 7), .ref (o + 1 + 9), .ref (o + 1 + 11), .int (d 13)])) := (zf50 (o + 1) (by omega) (by omega) (by omega) (by omega) (by omega) (by omega) (by omega)).trans zK14
          have zK60 : zh45 (o + 2) = some (.inr (2, [.ref (o + 3), .ref (o + 4), .ref (o + 5), .ref (o + 6), .ref (o + 7), .int (nI len), .int (d 0), .int (d 2), .int (d 3), .int (nI nc), .int (d 10), .int cold, .int wind])) := (zf50 (o + 2) (by omega) (by omega) (by omega) (by omega) (by omega) (by omega) (by omega)).trans zK15
          have zK61 : zh45 (o + 3) = arI κ 40 (win 100 40 d) := (zf50 (o + 3) (by omega) (by omega) (by omega) (by omega) (by omega) (by omega) (by omega)).trans zK16
          have zK62 : zh45 (o + 4) = arI κ 40 (win 140 40 d) := (zf50 (o + 4) (by omega) (by omega) (by omega) (by omega) (by omega) (by omega) (by omega)).trans zK17
          have zK63 : zh45 (o + 5) = arI κ 6 (win 4 6 d) := (zf50 (o + 5) (by omega) (by omega) (by omega) (by omega) (by omega) (by omega) (by omega)).trans zK18
          have zK64 : zh45 (o + 6) = arR κ 1 6 cs := (zf50 (o + 6) (by omega) (by omega) (by omega) (by omega) (by omega) (by omega) (by omega)).trans zK19
          have zK65 : zh45 (o + 7) = arR κ 2 2 ts := (zf50 (o + 7) (by omega) (by omega) (by omega) (by omega) (by omega) (by omega) (by omega)).trans zK20
          have zK66 : zh45 (o + 61) = arI κ 6 fo := (zf50 (o + 61) (by omega) (by omega) (by omega) (by omega) (by omega) (by omega) (by omega)).trans zK21
          have zl67 : ∀ zq : Nat, zq < (o + 76) → zq ≠ (o + 27) → zq ≠ (o + 28) → zq ≠ (o + 29) → zq ≠ (o + 30) → zq ≠ (o + 31) → zq ≠ (o + 32) → zh45 zq = h zq := by intro zq hzq zn0 zn1 zn2 zn3 zn4 zn5; rw [zf50 zq (by omega) (by omega) (by omega) (by omega) (by omega) (by omega) (by omega)]; exact zl_19 zq hzq zn0 zn1 zn2 zn3 zn4 zn5
          have zr68 : Zr κ (o + 76) h zh45 := (zr_19).trans zr51
          refine z_aload_n X 0 dX11_falls_42 rfl ?_
          refine z_get X fl_X11_22_11 dX11_falls_43 zK58 rfl ?_
          refine z_get X fl_X11_114_2 dX11_falls_46 zK52 rfl ?_
          refine z_iconst (v := 2) X dX11_falls_49 (by decide) ?_
          refine z_iload_n X 2 dX11_falls_50 rfl ?_
          refine z_iast X dX11_falls_51 zK55 (vp_in_nI (n := 2) (by omega) (by omega)) (congrArg (fun z => va_up zh45 ((o + 27) + 3) (arI κ 6 (upd ((win 4 6 d)) z (99 - nI s)))) (nI_clamp (n := 2) (by omega))) ?_
          obtain ⟨zh69, ze70⟩ : ∃ z : Mm, z = va_up zh45 ((o + 27) + 3) (arI κ 6 (upd ((win 4 6 d)) 2 (99 - nI s))) := ⟨_, rfl⟩
          refine z_heap (h' := zh69) ze70.symm ?_
          have zK71 := up_off ze70 (show o ≠ o + 30 by omega) zK58
          have zK72 := up_off ze70 (show o + 1 ≠ o + 30 by omega) zK59
          have zK73 := up_off ze70 (show o + 2 ≠ o + 30 by omega) zK60
          have zK74 := up_off ze70 (show o + 3 ≠ o + 30 by omega) zK61
          have zK75 := up_off ze70 (show o + 4 ≠ o + 30 by omega) zK62
          have zK76 := up_off ze70 (show o + 5 ≠ o + 30 by omega) zK63
          have zK77 := up_off ze70 (show o + 6 ≠ o + 30 by omega) zK64
          have zK78 := up_off ze70 (show o + 7 ≠ o + 30 by omega) zK65
          have zK79 := up_off ze70 (show o + 61 ≠ o + 30 by omega) zK66
          have zK80 := up_off ze70 (show o + 27 ≠ o + 30 by omega) zK52
          have zK81 := up_off ze70 (show o + 28 ≠ o + 30 by omega) zK53
          have zK82 := up_off ze70 (show o + 29 ≠ o + 30 by omega) zK54
          have zK83 := up_at ze70
          have zK84 := up_off ze70 (show o + 31 ≠ o + 30 by omega) zK56
          have zK85 := up_off ze70 (show o + 32 ≠ o + 30 by omega) zK57
          have zl86 : ∀ zq : Nat, zq < (o + 76) → zq ≠ (o + 27) → zq ≠ (o + 28) → zq ≠ (o + 29) → zq ≠ (o + 30) → zq ≠ (o + 31) → zq ≠ (o + 32) → zh69 zq = h zq := by intro zq hzq zn0 zn1 zn2 zn3 zn4 zn5; rw [ze70, va_up_ne _ _ (show zq ≠ o + 30 by omega)]; exact zl67 zq hzq zn0 zn1 zn2 zn3 zn4 zn5
          have zr87 : Zr κ (o + 76) h zh69 := (zr68).trans (Zr.same (fun zq h1 => by rw [ze70, va_up_ne _ _ (show zq ≠ o + 30 by omega)]))
          refine z_aload_n X 0 dX11_falls_52 rfl ?_
          refine z_get X fl_X11_22_11 dX11_falls_53 zK71 rfl ?_
          refine z_iload_n X 1 dX11_falls_56 rfl ?_
          refine z_callV X (c_hangs (κ := κ) (n := n) (i := (o + 27)) (len := (len)) (nc := (nc)) (v := (vk)) (m := (upd d 6 (99 - nI s))) (ts := (ts)) (cs := (cs)) (T := (Tx d)) (tx := (tx)) (cold := (y7)) (wind := (y8)) (zK80) ((zK81).trans (congrArg (arI κ 40) (win_off (by omega)).symm)) ((zK82).trans (congrArg (arI κ 40) (win_off (by omega)).symm)) ((zK83).trans (congrArg (arI κ 6) (win_us (b := 4) (m := d) (show 2 < 6 by omega)).symm)) zK84 zK85 (by first | assumption | omega) (TsO.mono zr87 hTs) ((CsO.mono zr87 hCs).row (fun z h1 h2 => pk_un (by omega)) q5) ((pk_un (by omega)).trans q1) (by first | assumption | omega) (by first | assumption | omega) ((pk_un (by omega)).trans q4) (by first | assumption | omega) (wfS_6 hS (by rw [i_le, hfi, show (-50 : Int32).toInt = -50 by decide]; omega) (by rw [i_le, hfi, show (99 : Int32).toInt = 99 by decide]; omega)) (wfC_upd hC (by omega)) (by first | assumption | omega)) mk_X2_hangsNotAfter dX11_falls_57 wd_698 wd_699 wd_700 rfl zK80 rfl rfl rfl (Nat.le_of_ble_eq_true rfl) (Nat.le_of_ble_eq_true rfl) (Nat.le_of_ble_eq_true rfl) (by omega) (by omega) (fun q zh98 zm100 zp101 => ?_)
          obtain ⟨ln'88, nw'89, dd'90, dr'91, cc'92, on'93, cold'94, wind'95, e1'96, e2'97, rfl, zn102, zf103, zr104, zK105, zK106, zK107⟩ := zp101
          subst zm100
          refine z_st (st' := [.int (faI (brkF (Tx d) tx (vk + 1) 0 (upd d 6 (99 - nI s))))]) rfl ?_
          have zK108 : zh98 o = some (.inr (11, [.ref (o + 1), .ref (o + 14), .ref (o + 27), .ref (o + 33), .ref (o + 42), .ref (o + 55), .ref (o + 57), .ref (o + 59), .ref (o + 61), .int im])) := (zf103 o (by omega) (by omega) (by omega) (by omega)).trans zK71
          have zK109 : zh98 (o + 1) = some (.inr (3, [.ref (o + 1 + 1), .ref (o + 1 + 7), .ref (o + 1 + 9), .ref (o + 1 + 11), .int (d 13)])) := (zf103 (o + 1) (by omega) (by omega) (by omega) (by omega)).trans zK72
          have zK110 : zh98 (o + 2) = some (.inr (2, [.ref (o + 3), .ref (o + 4), .ref (o + 5), .ref (o + 6), .ref (o + 7), .int (nI len), .int (d 0), .int (d 2), .int (d 3), .int (nI nc), .int (d 10), .int cold, .int wind])) := (zf103 (o + 2) (by omega) (by omega) (by omega) (by omega)).trans zK73
          have zK111 : zh98 (o + 3) = arI κ 40 (win 100 40 d) := (zf103 (o + 3) (by omega) (by omega) (by omega) (by omega)).trans zK74
          have zK112 : zh98 (o + 4) = arI κ 40 (win 140 40 d) := (zf103 (o + 4) (by omega) (by omega) (by omega) (by omega)).trans zK75
          have zK113 : zh98 (o + 5) = arI κ 6 (win 4 6 d) := (zf103 (o + 5) (by omega) (by omega) (by omega) (by omega)).trans zK76
          have zK114 : zh98 (o + 6) = arR κ 1 6 cs := (zf103 (o + 6) (by omega) (by omega) (by omega) (by omega)).trans zK77
          have zK115 : zh98 (o + 7) = arR κ 2 2 ts := (zf103 (o + 7) (by omega) (by omega) (by omega) (by omega)).trans zK78
          have zK116 : zh98 (o + 61) = arI κ 6 fo := (zf103 (o + 61) (by omega) (by omega) (by omega) (by omega)).trans zK79
          have zK117 : zh98 (o + 30) = arI κ 6 (upd ((win 4 6 d)) 2 (99 - nI s)) := (zf103 (o + 30) (by omega) (by omega) (by omega) (by omega)).trans zK83
          have zK118 : zh98 (o + 31) = arR κ 1 6 cs := (zf103 (o + 31) (by omega) (by omega) (by omega) (by omega)).trans zK84
          have zK119 : zh98 (o + 32) = arR κ 2 2 ts := (zf103 (o + 32) (by omega) (by omega) (by omega) (by omega)).trans zK85
          have zl120 : ∀ zq : Nat, zq < (o + 76) → zq ≠ (o + 27) → zq ≠ (o + 28) → zq ≠ (o + 29) → zq ≠ (o + 30) → zq ≠ (o + 31) → zq ≠ (o + 32) → zh98 zq = h zq := by intro zq hzq zn0 zn1 zn2 zn3 zn4 zn5; rw [zf103 zq (by omega) (by omega) (by omega) (by omega)]; exact zl86 zq hzq zn0 zn1 zn2 zn3 zn4 zn5
          have zr121 : Zr κ (o + 76) h zh98 := (zr87).trans zr104
          have hbl : ∀ zq, brkF (Tx d) tx (vk + 1) 0 (upd d 6 (99 - nI s)) = some zq → zq < 1000 := fun zq hq => (by have := brkF_le _ _ _ _ hq; omega)
          refine z_if_ge X 65 dX11_falls_60 (by decide) (fun zc122 => ?_) (fun zc122 => ?_)
          · have hbn := (brkI_ge hbl).mp zc122
            refine z_iinc (v := 99 - nI (s + 1)) (ls' := [(2, .int (99 - nI (s + 1))), (0, .ref o), (1, .int (nI vk))]) X 2 dX11_falls_65 rfl (fal_s (by omega)) (by decide) rfl ?_
            refine z_goto X 19 dX11_falls_68 (by decide) ?_
            refine z_sub (ls' := [(0, .ref o), (1, .int (nI vk)), (2, .int (99 - nI (s + 1)))]) [1, 2, 0] rfl ?_
            exact ih19 zh98 (s + 1) ln'88 nw'89 dd'90 dr'91 cc'92 on'93 cold'94 wind'95 e1'96 e2'97 (upd ((win 4 6 d)) 2 (99 - nI s)) cs ts (by omega) (by exact fun zq hzq zn0 zn1 zn2 zn3 zn4 zn5 => zl120 zq hzq zn0 zn1 zn2 zn3 zn4 zn5) (zr121) (by exact zK105) (by exact zK106) (by exact zK107) (by exact zK117) (by exact zK118) (by exact zK119) (by first | assumption | rfl | omega) (by rw [hR]; exact falF_go (by omega) hbn)
          · have hbn := (brkI_lt hbl).mp (Int32.not_le.mp zc122)
            refine z_iload_n X 2 dX11_falls_63 rfl ?_
            refine z_iret X E dX11_falls_64 (by omega) (by omega) ⟨ln'88, nw'89, dd'90, dr'91, cc'92, on'93, cold'94, wind'95, e1'96, e2'97, (upd ((win 4 6 d)) 2 (99 - nI s)), cs, ts, ?_, ?_, ?_, ?_, ?_, ?_, ?_, ?_, ?_, ?_, ?_⟩
            · rw [(show opFalls (Tx d) tx d (nI vk) = (0, 99 - nI s) from opFalls_0 (by omega) (hR.trans (falF_hit (by omega) hbn)))]; first | exact congrArg (fun z => some (Value.int z)) (ansOf_0 _).symm | rfl
            · rfl
            · exact fun zq hzq zn0 zn1 zn2 zn3 zn4 zn5 zn6 => zl120 zq hzq zn0 zn1 zn2 zn3 zn4 zn5
            · exact zr121
            · exact zK105
            · exact zK106
            · exact zK107
            · exact zK117
            · exact zK118
            · exact zK119
            · rw [(show opFalls (Tx d) tx d (nI vk) = (0, 99 - nI s) from opFalls_0 (by omega) (hR.trans (falF_hit (by omega) hbn)))]; first | (rw [bump_0]; exact zK116) | exact zK116
    refine z_sub (ls' := [(0, .ref o), (1, .int (nI vk)), (2, .int (99 - nI 0))]) [1, 2, 0] rfl ?_
    exact L19 _ h 0 alen anow add adr acc aon acold awind af1 af2 af3 ac1 at1 (Nat.lt_succ_self _) (by exact fun zq hzq zn0 zn1 zn2 zn3 zn4 zn5 => rfl) (Zr.refl) (by exact K8) (by exact K9) (by exact K10) (by exact K11) (by exact K12) (by exact K13) (by first | assumption | rfl | omega) (by rfl)
  · replace zc6 := b2i_f zc6
    refine z_aload_n X 0 dX11_falls_7 rfl ?_
    refine z_iconst (v := 1) X dX11_falls_8 (by decide) ?_
    refine z_callV X (c_fail (κ := κ) (n := n) (o := (o)) (im := (im)) (fo := (fo)) (k := (1)) K0 K14 (by first | assumption | omega) (by first | assumption | omega)) mk_X11_fail dX11_falls_9 wd_260 wd_262 wd_0 rfl K0 rfl rfl rfl (Nat.le_of_ble_eq_true rfl) (Nat.le_of_ble_eq_true rfl) (Nat.le_of_ble_eq_true rfl) (by omega) (by omega) (fun q zh123 zm125 zp126 => ?_)
    obtain ⟨rfl, ze124, zn127⟩ := zp126
    subst zm125
    refine z_st (st' := [.int (lowE 1)]) rfl ?_
    have zK128 : zh123 o = some (.inr (11, [.ref (o + 1), .ref (o + 14), .ref (o + 27), .ref (o + 33), .ref (o + 42), .ref (o + 55), .ref (o + 57), .ref (o + 59), .ref (o + 61), .int im])) := by rw [ze124]; rw [va_up_ne _ _ (show o ≠ o + 61 by omega)]; exact K0
    have zK129 : zh123 (o + 1) = some (.inr (3, [.ref (o + 1 + 1), .ref (o + 1 + 7), .ref (o + 1 + 9), .ref (o + 1 + 11), .int (d 13)])) := by rw [ze124]; rw [va_up_ne _ _ (show o + 1 ≠ o + 61 by omega)]; exact K1
    have zK130 : zh123 (o + 2) = some (.inr (2, [.ref (o + 3), .ref (o + 4), .ref (o + 5), .ref (o + 6), .ref (o + 7), .int (nI len), .int (d 0), .int (d 2), .int (d 3), .int (nI nc), .int (d 10), .int cold, .int wind])) := by rw [ze124]; rw [va_up_ne _ _ (show o + 2 ≠ o + 61 by omega)]; exact K2
    have zK131 : zh123 (o + 3) = arI κ 40 (win 100 40 d) := by rw [ze124]; rw [va_up_ne _ _ (show o + 3 ≠ o + 61 by omega)]; exact K3
    have zK132 : zh123 (o + 4) = arI κ 40 (win 140 40 d) := by rw [ze124]; rw [va_up_ne _ _ (show o + 4 ≠ o + 61 by omega)]; exact K4
    have zK133 : zh123 (o + 5) = arI κ 6 (win 4 6 d) := by rw [ze124]; rw [va_up_ne _ _ (show o + 5 ≠ o + 61 by omega)]; exact K5
    have zK134 : zh123 (o + 6) = arR κ 1 6 cs := by rw [ze124]; rw [va_up_ne _ _ (show o + 6 ≠ o + 61 by omega)]; exact K6
    have zK135 : zh123 (o + 7) = arR κ 2 2 ts := by rw [ze124]; rw [va_up_ne _ _ (show o + 7 ≠ o + 61 by omega)]; exact K7
    have zK136 : zh123 (o + 27) = some (.inr (2, [.ref (o + 28), .ref (o + 29), .ref (o + 30), .ref (o + 31), .ref (o + 32), .int alen, .int anow, .int add, .int adr, .int acc, .int aon, .int acold, .int awind])) := by rw [ze124]; rw [va_up_ne _ _ (show o + 27 ≠ o + 61 by omega)]; exact K8
    have zK137 : zh123 (o + 28) = arI κ 40 af1 := by rw [ze124]; rw [va_up_ne _ _ (show o + 28 ≠ o + 61 by omega)]; exact K9
    have zK138 : zh123 (o + 29) = arI κ 40 af2 := by rw [ze124]; rw [va_up_ne _ _ (show o + 29 ≠ o + 61 by omega)]; exact K10
    have zK139 : zh123 (o + 30) = arI κ 6 af3 := by rw [ze124]; rw [va_up_ne _ _ (show o + 30 ≠ o + 61 by omega)]; exact K11
    have zK140 : zh123 (o + 31) = arR κ 1 6 ac1 := by rw [ze124]; rw [va_up_ne _ _ (show o + 31 ≠ o + 61 by omega)]; exact K12
    have zK141 : zh123 (o + 32) = arR κ 2 2 at1 := by rw [ze124]; rw [va_up_ne _ _ (show o + 32 ≠ o + 61 by omega)]; exact K13
    have zK142 : zh123 (o + 61) = arI κ 6 (bmp fo 1) := by rw [ze124]; exact va_up_self _ _ _
    have zl143 : ∀ zq : Nat, zq < (o + 76) → zq ≠ (o + 61) → zh123 zq = h zq := by intro zq hzq zn0; rw [ze124, va_up_ne _ _ (show zq ≠ o + 61 by omega)]; try rfl
    have zr144 : Zr κ (o + 76) h zh123 := (Zr.refl).trans (Zr.same (fun zq h1 => by rw [ze124, va_up_ne _ _ (show zq ≠ o + 61 by omega)]))
    refine z_iret X E dX11_falls_12 (by omega) (by omega) ⟨alen, anow, add, adr, acc, aon, acold, awind, af1, af2, af3, ac1, at1, ?_, ?_, ?_, ?_, ?_, ?_, ?_, ?_, ?_, ?_, ?_⟩
    · rw [(show opFalls (Tx d) tx d v = (1, 0) from if_pos (by assumption))]; first | exact congrArg (fun z => some (Value.int z)) (ansOf_0 _).symm | rfl
    · rfl
    · exact fun zq hzq zn0 zn1 zn2 zn3 zn4 zn5 zn6 => zl143 zq hzq zn6
    · exact zr144
    · exact zK136
    · exact zK137
    · exact zK138
    · exact zK139
    · exact zK140
    · exact zK141
    · rw [(show opFalls (Tx d) tx d v = (1, 0) from if_pos (by assumption))]; first | (rw [bump_0]; exact zK142) | exact zK142
theorem unl_cong {f f2 g g2 : Nat → Int32} {k k2 : Nat} (h1 : ∀ j, j < k → f j = f2 j) (h2 : ∀ j, j < k2 → g j = g2 j) : unl f g k k2 = unl f2 g2 k k2 := by
  have hf : ∀ (n i : Nat), i + n ≤ min k k2 → funl f g i n = funl f2 g2 i n := by
    intro n
    induction n with
    | zero => intro i _; rfl
    | succ n ih =>
      intro i hi
      unfold funl
      rw [h1 i (by omega), h2 i (by omega), ih (i + 1) (by omega)]
  unfold unl
  rw [hf _ 0 (by omega)]
set_option maxHeartbeats 4000000 in
set_option maxRecDepth 100000 in
theorem p_check {κ : Wc} {l : Launch} {h : Mm} {n : Nat} {o : Nat} {im : Int32} {d : Nat → Int32} {len : Nat} {nc : Nat} {cold : Int32} {wind : Int32} {cs : Nat → Option Nat} {ts : Nat → Option Nat} {alen : Int32} {anow : Int32} {add : Int32} {adr : Int32} {acc : Int32} {aon : Int32} {acold : Int32} {awind : Int32} {af1 : Nat → Int32} {af2 : Nat → Int32} {af3 : Nat → Int32} {ac1 : Nat → Option Nat} {at1 : Nat → Option Nat} {nw : Nat} {wt : Nat → Int32} {rs2 : Int32} {bt2 : Int32} {g2 : Nat → Int32} {fo : Nat → Int32} {v : Int32} {tx : Nat → Nat} (K0 : h o = some (.inr (11, [.ref (o + 1), .ref (o + 14), .ref (o + 27), .ref (o + 33), .ref (o + 42), .ref (o + 55), .ref (o + 57), .ref (o + 59), .ref (o + 61), .int im]))) (K1 : h (o + 1) = some (.inr (3, [.ref (o + 1 + 1), .ref (o + 1 + 7), .ref (o + 1 + 9), .ref (o + 1 + 11), .int (d 13)]))) (K2 : h (o + 2) = some (.inr (2, [.ref (o + 3), .ref (o + 4), .ref (o + 5), .ref (o + 6), .ref (o + 7), .int (nI len), .int (d 0), .int (d 2), .int (d 3), .int (nI nc), .int (d 10), .int cold, .int wind]))) (K3 : h (o + 3) = arI κ 40 (win 100 40 d)) (K4 : h (o + 4) = arI κ 40 (win 140 40 d)) (K5 : h (o + 5) = arI κ 6 (win 4 6 d)) (K6 : h (o + 6) = arR κ 1 6 cs) (K7 : h (o + 7) = arR κ 2 2 ts) (K8 : h (o + 27) = some (.inr (2, [.ref (o + 28), .ref (o + 29), .ref (o + 30), .ref (o + 31), .ref (o + 32), .int alen, .int anow, .int add, .int adr, .int acc, .int aon, .int acold, .int awind]))) (K9 : h (o + 28) = arI κ 40 af1) (K10 : h (o + 29) = arI κ 40 af2) (K11 : h (o + 30) = arI κ 6 af3) (K12 : h (o + 31) = arR κ 1 6 ac1) (K13 : h (o + 32) = arR κ 2 2 at1) (K14 : h (o + 10) = some (.inr (6, [.ref (o + 10 + 1), .int (nI nw), .int 32]))) (K15 : h (o + 11) = arI κ 20 wt) (K16 : h (o + 57) = some (.inr (6, [.ref (o + 57 + 1), .int rs2, .int bt2]))) (K17 : h (o + 58) = arI κ 40 g2) (K18 : h (o + 61) = arI κ 6 fo) (q1 : d 1 = nI len) (q2 : 1 ≤ len) (q3 : len ≤ 40) (q4 : d 11 = nI nc) (q5 : nc ≤ 6) (hTs : TsO κ (o + 76) h ts (Tx d) tx) (hCs : CsO (o + 76) h cs d nc) (hCA : CsA (o + 76) h cs) (hS : wfS d) (hC : wfC d) (p1 : d 15 = nI nw) (p2 : nw ≤ 20) (p3 : ∀ j, j < nw → wt j = d (70 + j)) : Con κ l yX11_check cX11_check 3 (some .int) 14 0 0 [.ref o, .int v] h n (fun q h' n' => ∃ x1' : Int32, ∃ x2' : Int32, ∃ x3' : Int32, ∃ x4' : Int32, ∃ x5' : Int32, ∃ x6' : Int32, ∃ x7' : Int32, ∃ x8' : Int32, ∃ af1' : Nat → Int32, ∃ af2' : Nat → Int32, ∃ af3' : Nat → Int32, ∃ ac1' : Nat → Option Nat, ∃ at1' : Nat → Option Nat, ∃ rs2' : Int32, ∃ g2' : Nat → Int32, q = some (.int (ansOf (opCheck (Tx d) tx d nw v))) ∧ n' = n ∧ (∀ zq : Nat, zq < (o + 76) → zq ≠ (o + 27) → zq ≠ (o + 28) → zq ≠ (o + 29) → zq ≠ (o + 30) → zq ≠ (o + 31) → zq ≠ (o + 32) → zq ≠ (o + 57) → zq ≠ (o + 58) → zq ≠ (o + 10) → zq ≠ (o + 61) → h' zq = h zq) ∧ Zr κ (o + 76) h h' ∧ h' (o + 27) = some (.inr (2, [.ref (o + 28), .ref (o + 29), .ref (o + 30), .ref (o + 31), .ref (o + 32), .int x1', .int x2', .int x3', .int x4', .int x5', .int x6', .int x7', .int x8'])) ∧ h' (o + 28) = arI κ 40 af1' ∧ h' (o + 29) = arI κ 40 af2' ∧ h' (o + 30) = arI κ 6 af3' ∧ h' (o + 31) = arR κ 1 6 ac1' ∧ h' (o + 32) = arR κ 2 2 at1' ∧ h' (o + 57) = some (.inr (6, [.ref (o + 57 + 1), .int rs2', .int bt2])) ∧ h' (o + 58) = arI κ 40 g2' ∧ h' (o + 10) = some (.inr (6, [.ref (o + 10 + 1), .int (upd d 15 0 15), .int 32])) ∧ h' (o + 61) = arI κ 6 (bump (opCheck (Tx d) tx d nw v) fo)) := by
  refine Con.of mk_X11_check (Nat.le_of_ble_eq_true rfl) (fun G hG X E => ?_)
  subst hG
  refine z_ls (ls' := [(0, .ref o), (1, .int v)]) rfl ?_
  have hOk : lnOk d := lnOk_of q1 q2 q3
  refine z_iload_n X 1 dX11_check_0 rfl ?_
  refine z_callS X (c_isAhead (κ := κ) (n := n) (v := (v))  ) mk_X11_isAhead dX11_check_1 wd_658 wd_659 rfl rfl (Nat.le_of_ble_eq_true rfl) (Nat.le_of_ble_eq_true rfl) (Nat.le_of_ble_eq_true rfl) (by omega) (by omega) (fun q zh1 zm3 zp4 => ?_)
  obtain ⟨rfl, ze2, zn5⟩ := zp4
  subst zm3
  subst zh1
  refine z_st (st' := [.int (b2i (0 ≤ (v : Int32).toInt ∧ (v : Int32).toInt ≤ 60))]) rfl ?_
  refine z_if_ne X 23 dX11_check_4 (by decide) (fun zc6 => ?_) (fun zc6 => ?_)
  · replace zc6 := b2i_t zc6
    obtain ⟨vk, hvk, rfl⟩ := ix_of (c := v) (len := 61) (by omega) (by omega)
    refine z_aload_n X 0 dX11_check_23 rfl ?_
    refine z_iload_n X 1 dX11_check_24 rfl ?_
    refine z_callV X (c_goAhead (κ := κ) (n := n) (o := (o)) (im := (im)) (d := (d)) (len := (len)) (nc := (nc)) (cold := (cold)) (wind := (wind)) (cs := (cs)) (ts := (ts)) (alen := (alen)) (anow := (anow)) (add := (add)) (adr := (adr)) (acc := (acc)) (aon := (aon)) (acold := (acold)) (awind := (awind)) (af1 := (af1)) (af2 := (af2)) (af3 := (af3)) (ac1 := (ac1)) (at1 := (at1)) (tx := (tx)) (v := (vk)) K0 K1 K2 K3 K4 K5 K6 K7 K8 K9 K10 K11 K12 K13 (by first | assumption | omega) (by first | assumption | omega) (by first | assumption | omega) (by first | assumption | omega) (by first | assumption | omega) (hTs) (hCs) (hCA) (hS) (hC) (by first | assumption | omega)) mk_X11_goAhead dX11_check_25 wd_661 wd_663 wd_19 rfl K0 rfl rfl rfl (Nat.le_of_ble_eq_true rfl) (Nat.le_of_ble_eq_true rfl) (Nat.le_of_ble_eq_true rfl) (by omega) (by omega) (fun q zh9 zm11 zp12 => ?_)
    obtain ⟨cold'7, wind'8, rfl, zn13, zf14, zr15, zK16, zK17, zK18, zK19, zK20, zK21⟩ := zp12
    subst zm11
    refine z_st (st' := []) rfl ?_
    have zK22 : zh9 o = some (.inr (11, [.ref (o + 1), .ref (o + 14), .ref (o + 27), .ref (o + 33), .ref (o + 42), .ref (o + 55), .ref (o + 57), .ref (o + 59), .ref (o + 61), .int im])) := (zf14 o (by omega) (by omega) (by omega) (by omega) (by omega) (by omega) (by omega)).trans K0
    have zK23 : zh9 (o + 1) = some (.inr (3, [.ref (o + 1 + 1), .ref (o + 1 + 7), .ref (o + 1 + 9), .ref (o + 1 + 11), .int (d 13)])) := (zf14 (o + 1) (by omega) (by omega) (by omega) (by omega) (by omega) (by omega) (by omega)).trans K1
    have zK24 : zh9 (o + 2) = some (.inr (2, [.ref (o + 3), .ref (o + 4), .ref (o + 5), .ref (o + 6), .ref (o + 7), .int (nI len), .int (d 0), .int (d 2), .int (d 3), .int (nI nc), .int (d 10), .int cold, .int wind])) := (zf14 (o + 2) (by omega) (by omega) (by omega) (by omega) (by omega) (by omega) (by omega)).trans K2
    have zK25 : zh9 (o + 3) = arI κ 40 (win 100 40 d) := (zf14 (o + 3) (by omega) (by omega) (by omega) (by omega) (by omega) (by omega) (by omega)).trans K3
    have zK26 : zh9 (o + 4) = arI κ 40 (win 140 40 d) := (zf14 (o + 4) (by omega) (by omega) (by omega) (by omega) (by omega) (by omega) (by omega)).trans K4
    have zK27 : zh9 (o + 5) = arI κ 6 (win 4 6 d) := (zf14 (o + 5) (by omega) (by omega) (by omega) (by omega) (by omega) (by omega) (by omega)).trans K5
    have zK28 : zh9 (o + 6) = arR κ 1 6 cs := (zf14 (o + 6) (by omega) (by omega) (by omega) (by omega) (by omega) (by omega) (by omega)).trans K6
    have zK29 : zh9 (o + 7) = arR κ 2 2 ts := (zf14 (o + 7) (by omega) (by omega) (by omega) (by omega) (by omega) (by omega) (by omega)).trans K7
    have zK30 : zh9 (o + 10) = some (.inr (6, [.ref (o + 10 + 1), .int (nI nw), .int 32])) := (zf14 (o + 10) (by omega) (by omega) (by omega) (by omega) (by omega) (by omega) (by omega)).trans K14
    have zK31 : zh9 (o + 11) = arI κ 20 wt := (zf14 (o + 11) (by omega) (by omega) (by omega) (by omega) (by omega) (by omega) (by omega)).trans K15
    have zK32 : zh9 (o + 57) = some (.inr (6, [.ref (o + 57 + 1), .int rs2, .int bt2])) := (zf14 (o + 57) (by omega) (by omega) (by omega) (by omega) (by omega) (by omega) (by omega)).trans K16
    have zK33 : zh9 (o + 58) = arI κ 40 g2 := (zf14 (o + 58) (by omega) (by omega) (by omega) (by omega) (by omega) (by omega) (by omega)).trans K17
    have zK34 : zh9 (o + 61) = arI κ 6 fo := (zf14 (o + 61) (by omega) (by omega) (by omega) (by omega) (by omega) (by omega) (by omega)).trans K18
    have zl35 : ∀ zq : Nat, zq < (o + 76) → zq ≠ (o + 27) → zq ≠ (o + 28) → zq ≠ (o + 29) → zq ≠ (o + 30) → zq ≠ (o + 31) → zq ≠ (o + 32) → zh9 zq = h zq := by intro zq hzq zn0 zn1 zn2 zn3 zn4 zn5; rw [zf14 zq (by omega) (by omega) (by omega) (by omega) (by omega) (by omega) (by omega)]; try rfl
    have zr36 : Zr κ (o + 76) h zh9 := (Zr.refl).trans zr15
    have hEl : lnO (gbyN (Tx d) tx vk d) ≤ 40 := (gbyN_ok (T := Tx d) (tx := tx) hOk vk).2.2
    have hEl1 : 1 ≤ lnO (gbyN (Tx d) tx vk d) := (gbyN_ok (T := Tx d) (tx := tx) hOk vk).2.1
    refine z_aload_n X 0 dX11_check_28 rfl ?_
    refine z_get X fl_X11_22_11 dX11_check_29 zK22 rfl ?_
    refine z_aload_n X 0 dX11_check_32 rfl ?_
    refine z_get X fl_X11_42_11 dX11_check_33 zK22 rfl ?_
    refine z_callV X (c_ringsInto (κ := κ) (n := n) (i := (o + 27)) (len := (lnO (gbyN (Tx d) tx vk d))) (m := (gbyN (Tx d) tx vk d)) (now := ((gbyN (Tx d) tx vk d) 0)) (dd := ((gbyN (Tx d) tx vk d) 2)) (dr := ((gbyN (Tx d) tx vk d) 3)) (cc := (nI nc)) (on := (d 10)) (cold := (cold'7)) (wind := (wind'8)) (r := (o + 57)) (rs := (rs2)) (bt := (bt2)) (g := (g2)) zK16 zK17 zK32 zK33 ((gbyN_ok (T := Tx d) (tx := tx) hOk vk).2.2) (by omega)) mk_X2_ringsInto dX11_check_36 wd_643 wd_644 wd_645 rfl zK16 rfl rfl rfl (Nat.le_of_ble_eq_true rfl) (Nat.le_of_ble_eq_true rfl) (Nat.le_of_ble_eq_true rfl) (by omega) (by omega) (fun q zh38 zm40 zp41 => ?_)
    obtain ⟨g'37, rfl, ze39, zn43, zf42⟩ := zp41
    subst zm40
    refine z_st (st' := [.int (nI (rn (gbyN (Tx d) tx vk d) (lnO (gbyN (Tx d) tx vk d)) (lnO (gbyN (Tx d) tx vk d))))]) rfl ?_
    have zK44 : zh38 o = some (.inr (11, [.ref (o + 1), .ref (o + 14), .ref (o + 27), .ref (o + 33), .ref (o + 42), .ref (o + 55), .ref (o + 57), .ref (o + 59), .ref (o + 61), .int im])) := by rw [ze39]; rw [va_up_ne _ _ (show o ≠ o + 58 by omega)]; rw [va_up_ne _ _ (show o ≠ o + 57 by omega)]; exact zK22
    have zK45 : zh38 (o + 1) = some (.inr (3, [.ref (o + 1 + 1), .ref (o + 1 + 7), .ref (o + 1 + 9), .ref (o + 1 + 11), .int (d 13)])) := by rw [ze39]; rw [va_up_ne _ _ (show o + 1 ≠ o + 58 by omega)]; rw [va_up_ne _ _ (show o + 1 ≠ o + 57 by omega)]; exact zK23
    have zK46 : zh38 (o + 2) = some (.inr (2, [.ref (o + 3), .ref (o + 4), .ref (o + 5), .ref (o + 6), .ref (o + 7), .int (nI len), .int (d 0), .int (d 2), .int (d 3), .int (nI nc), .int (d 10), .int cold, .int wind])) := by rw [ze39]; rw [va_up_ne _ _ (show o + 2 ≠ o + 58 by omega)]; rw [va_up_ne _ _ (show o + 2 ≠ o + 57 by omega)]; exact zK24
    have zK47 : zh38 (o + 3) = arI κ 40 (win 100 40 d) := by rw [ze39]; rw [va_up_ne _ _ (show o + 3 ≠ o + 58 by omega)]; rw [va_up_ne _ _ (show o + 3 ≠ o + 57 by omega)]; exact zK25
    have zK48 : zh38 (o + 4) = arI κ 40 (win 140 40 d) := by rw [ze39]; rw [va_up_ne _ _ (show o + 4 ≠ o + 58 by omega)]; rw [va_up_ne _ _ (show o + 4 ≠ o + 57 by omega)]; exact zK26
    have zK49 : zh38 (o + 5) = arI κ 6 (win 4 6 d) := by rw [ze39]; rw [va_up_ne _ _ (show o + 5 ≠ o + 58 by omega)]; rw [va_up_ne _ _ (show o + 5 ≠ o + 57 by omega)]; exact zK27
    have zK50 : zh38 (o + 6) = arR κ 1 6 cs := by rw [ze39]; rw [va_up_ne _ _ (show o + 6 ≠ o + 58 by omega)]; rw [va_up_ne _ _ (show o + 6 ≠ o + 57 by omega)]; exact zK28
    have zK51 : zh38 (o + 7) = arR κ 2 2 ts := by rw [ze39]; rw [va_up_ne _ _ (show o + 7 ≠ o + 58 by omega)]; rw [va_up_ne _ _ (show o + 7 ≠ o + 57 by omega)]; exact zK29
    have zK52 : zh38 (o + 10) = some (.inr (6, [.ref (o + 10 + 1), .int (nI nw), .int 32])) := by rw [ze39]; rw [va_up_ne _ _ (show o + 10 ≠ o + 58 by omega)]; rw [va_up_ne _ _ (show o + 10 ≠ o + 57 by omega)]; exact zK30
    have zK53 : zh38 (o + 11) = arI κ 20 wt := by rw [ze39]; rw [va_up_ne _ _ (show o + 11 ≠ o + 58 by omega)]; rw [va_up_ne _ _ (show o + 11 ≠ o + 57 by omega)]; exact zK31
    have zK54 : zh38 (o + 57) = some (.inr (6, [.ref ((o + 57) + 1), .int (nI (rn (gbyN (Tx d) tx vk d) (lnO (gbyN (Tx d) tx vk d)) (lnO (gbyN (Tx d) tx vk d)))), .int bt2])) := by rw [ze39]; rw [va_up_ne _ _ (show o + 57 ≠ o + 58 by omega)]; exact va_up_self _ _ _
    have zK55 : zh38 (o + 58) = arI κ 40 g'37 := by rw [ze39]; exact va_up_self _ _ _
    have zK56 : zh38 (o + 61) = arI κ 6 fo := by rw [ze39]; rw [va_up_ne _ _ (show o + 61 ≠ o + 58 by omega)]; rw [va_up_ne _ _ (show o + 61 ≠ o + 57 by omega)]; exact zK34
    have zK57 : zh38 (o + 27) = some (.inr (2, [.ref (o + 28), .ref (o + 29), .ref (o + 30), .ref (o + 31), .ref (o + 32), .int (nI (lnO (gbyN (Tx d) tx vk d))), .int ((gbyN (Tx d) tx vk d) 0), .int ((gbyN (Tx d) tx vk d) 2), .int ((gbyN (Tx d) tx vk d) 3), .int (nI nc), .int (d 10), .int cold'7, .int wind'8])) := by rw [ze39]; rw [va_up_ne _ _ (show o + 27 ≠ o + 58 by omega)]; rw [va_up_ne _ _ (show o + 27 ≠ o + 57 by omega)]; exact zK16
    have zK58 : zh38 (o + 28) = arI κ 40 (win 100 40 (gbyN (Tx d) tx vk d)) := by rw [ze39]; rw [va_up_ne _ _ (show o + 28 ≠ o + 58 by omega)]; rw [va_up_ne _ _ (show o + 28 ≠ o + 57 by omega)]; exact zK17
    have zK59 : zh38 (o + 29) = arI κ 40 (win 140 40 (gbyN (Tx d) tx vk d)) := by rw [ze39]; rw [va_up_ne _ _ (show o + 29 ≠ o + 58 by omega)]; rw [va_up_ne _ _ (show o + 29 ≠ o + 57 by omega)]; exact zK18
    have zK60 : zh38 (o + 30) = arI κ 6 (win 4 6 d) := by rw [ze39]; rw [va_up_ne _ _ (show o + 30 ≠ o + 58 by omega)]; rw [va_up_ne _ _ (show o + 30 ≠ o + 57 by omega)]; exact zK19
    have zK61 : zh38 (o + 31) = arR κ 1 6 cs := by rw [ze39]; rw [va_up_ne _ _ (show o + 31 ≠ o + 58 by omega)]; rw [va_up_ne _ _ (show o + 31 ≠ o + 57 by omega)]; exact zK20
    have zK62 : zh38 (o + 32) = arR κ 2 2 ts := by rw [ze39]; rw [va_up_ne _ _ (show o + 32 ≠ o + 58 by omega)]; rw [va_up_ne _ _ (show o + 32 ≠ o + 57 by omega)]; exact zK21
    have zl63 : ∀ zq : Nat, zq < (o + 76) → zq ≠ (o + 27) → zq ≠ (o + 28) → zq ≠ (o + 29) → zq ≠ (o + 30) → zq ≠ (o + 31) → zq ≠ (o + 32) → zq ≠ (o + 57) → zq ≠ (o + 58) → zh38 zq = h zq := by intro zq hzq zn0 zn1 zn2 zn3 zn4 zn5 zn6 zn7; rw [ze39, va_up_ne _ _ (show zq ≠ o + 58 by omega), va_up_ne _ _ (show zq ≠ o + 57 by omega)]; exact zl35 zq hzq zn0 zn1 zn2 zn3 zn4 zn5
    have zr64 : Zr κ (o + 76) h zh38 := (zr36).trans (Zr.same (fun zq h1 => by rw [ze39, va_up_ne _ _ (show zq ≠ o + 58 by omega), va_up_ne _ _ (show zq ≠ o + 57 by omega)]))
    have hrg := zf42
    have hrn := rn_le (gbyN (Tx d) tx vk d) (lnO (gbyN (Tx d) tx vk d)) (lnO (gbyN (Tx d) tx vk d))
    have hrnq : lnO (gbyN (Tx d) tx vk d) ≤ 40 := (gbyN_ok (T := Tx d) (tx := tx) hOk vk).2.2
    refine z_pop X dX11_check_39 rfl ?_
    refine z_aload_n X 0 dX11_check_40 rfl ?_
    refine z_get X fl_X11_10_11 dX11_check_41 zK44 rfl ?_
    refine z_get X fl_X11_303_3 dX11_check_44 zK45 rfl ?_
    refine z_aload_n X 0 dX11_check_47 rfl ?_
    refine z_get X fl_X11_42_11 dX11_check_48 zK44 rfl ?_
    refine z_callV X (c_Row_firstUnlike (κ := κ) (n := n) (r := (o + 1 + 9)) (r2 := (o + 57)) (k := (nw)) (k2 := (rn (gbyN (Tx d) tx vk d) (lnO (gbyN (Tx d) tx vk d)) (lnO (gbyN (Tx d) tx vk d)))) (bt := (32)) (bt2 := (bt2)) (N := (20)) (f := (wt)) (N2 := (40)) (f2 := (g'37)) zK52 zK53 zK54 zK55 (by first | assumption | omega) (by first | assumption | omega) (by omega) (by first | assumption | omega)) mk_X6_firstUnlike dX11_check_51 wd_759 wd_760 wd_761 rfl zK52 rfl rfl rfl (Nat.le_of_ble_eq_true rfl) (Nat.le_of_ble_eq_true rfl) (Nat.le_of_ble_eq_true rfl) (by omega) (by omega) (fun q zh65 zm67 zp68 => ?_)
    obtain ⟨rfl, ze66, zn69⟩ := zp68
    subst zm67
    subst zh65
    refine z_st (st' := [.int (unl wt g'37 nw (rn (gbyN (Tx d) tx vk d) (lnO (gbyN (Tx d) tx vk d)) (lnO (gbyN (Tx d) tx vk d))))]) rfl ?_
    refine z_istore_n (ls' := [(2, .int (unl wt g'37 nw (rn (gbyN (Tx d) tx vk d) (lnO (gbyN (Tx d) tx vk d)) (lnO (gbyN (Tx d) tx vk d))))), (0, .ref o), (1, .int (nI vk))]) X dX11_check_54 (by decide) rfl ?_
    refine z_aload_n X 1 dX11_check_55 rfl ?_
    refine z_get X fl_X11_10_11 dX11_check_56 zK44 rfl ?_
    refine z_get X fl_X11_303_3 dX11_check_59 zK45 rfl ?_
    refine z_callV X (c_Row_clear (κ := κ) (n := n) (r := (o + 1 + 9)) (sz := (nI nw)) (bt := (32)) zK52 ) mk_X6_clear dX11_check_62 wd_583 wd_584 wd_585 rfl zK52 rfl rfl rfl (Nat.le_of_ble_eq_true rfl) (Nat.le_of_ble_eq_true rfl) (Nat.le_of_ble_eq_true rfl) (by omega) (by omega) (fun q zh70 zm72 zp73 => ?_)
    obtain ⟨rfl, ze71, zn74⟩ := zp73
    subst zm72
    refine z_st (st' := []) rfl ?_
    have zK75 : zh70 o = some (.inr (11, [.ref (o + 1), .ref (o + 14), .ref (o + 27), .ref (o + 33), .ref (o + 42), .ref (o + 55), .ref (o + 57), .ref (o + 59), .ref (o + 61), .int im])) := by rw [ze71]; rw [va_up_ne _ _ (show o ≠ o + 10 by omega)]; exact zK44
    have zK76 : zh70 (o + 1) = some (.inr (3, [.ref (o + 1 + 1), .ref (o + 1 + 7), .ref (o + 1 + 9), .ref (o + 1 + 11), .int (d 13)])) := by rw [ze71]; rw [va_up_ne _ _ (show o + 1 ≠ o + 10 by omega)]; exact zK45
    have zK77 : zh70 (o + 2) = some (.inr (2, [.ref (o + 3), .ref (o + 4), .ref (o + 5), .ref (o + 6), .ref (o + 7), .int (nI len), .int (d 0), .int (d 2), .int (d 3), .int (nI nc), .int (d 10), .int cold, .int wind])) := by rw [ze71]; rw [va_up_ne _ _ (show o + 2 ≠ o + 10 by omega)]; exact zK46
    have zK78 : zh70 (o + 3) = arI κ 40 (win 100 40 d) := by rw [ze71]; rw [va_up_ne _ _ (show o + 3 ≠ o + 10 by omega)]; exact zK47
    have zK79 : zh70 (o + 4) = arI κ 40 (win 140 40 d) := by rw [ze71]; rw [va_up_ne _ _ (show o + 4 ≠ o + 10 by omega)]; exact zK48
    have zK80 : zh70 (o + 5) = arI κ 6 (win 4 6 d) := by rw [ze71]; rw [va_up_ne _ _ (show o + 5 ≠ o + 10 by omega)]; exact zK49
    have zK81 : zh70 (o + 6) = arR κ 1 6 cs := by rw [ze71]; rw [va_up_ne _ _ (show o + 6 ≠ o + 10 by omega)]; exact zK50
    have zK82 : zh70 (o + 7) = arR κ 2 2 ts := by rw [ze71]; rw [va_up_ne _ _ (show o + 7 ≠ o + 10 by omega)]; exact zK51
    have zK83 : zh70 (o + 10) = some (.inr (6, [.ref ((o + 1 + 9) + 1), .int 0, .int 32])) := by rw [ze71]; exact va_up_self _ _ _
    have zK84 : zh70 (o + 11) = arI κ 20 wt := by rw [ze71]; rw [va_up_ne _ _ (show o + 11 ≠ o + 10 by omega)]; exact zK53
    have zK85 : zh70 (o + 57) = some (.inr (6, [.ref ((o + 57) + 1), .int (nI (rn (gbyN (Tx d) tx vk d) (lnO (gbyN (Tx d) tx vk d)) (lnO (gbyN (Tx d) tx vk d)))), .int bt2])) := by rw [ze71]; rw [va_up_ne _ _ (show o + 57 ≠ o + 10 by omega)]; exact zK54
    have zK86 : zh70 (o + 58) = arI κ 40 g'37 := by rw [ze71]; rw [va_up_ne _ _ (show o + 58 ≠ o + 10 by omega)]; exact zK55
    have zK87 : zh70 (o + 61) = arI κ 6 fo := by rw [ze71]; rw [va_up_ne _ _ (show o + 61 ≠ o + 10 by omega)]; exact zK56
    have zK88 : zh70 (o + 27) = some (.inr (2, [.ref (o + 28), .ref (o + 29), .ref (o + 30), .ref (o + 31), .ref (o + 32), .int (nI (lnO (gbyN (Tx d) tx vk d))), .int ((gbyN (Tx d) tx vk d) 0), .int ((gbyN (Tx d) tx vk d) 2), .int ((gbyN (Tx d) tx vk d) 3), .int (nI nc), .int (d 10), .int cold'7, .int wind'8])) := by rw [ze71]; rw [va_up_ne _ _ (show o + 27 ≠ o + 10 by omega)]; exact zK57
    have zK89 : zh70 (o + 28) = arI κ 40 (win 100 40 (gbyN (Tx d) tx vk d)) := by rw [ze71]; rw [va_up_ne _ _ (show o + 28 ≠ o + 10 by omega)]; exact zK58
    have zK90 : zh70 (o + 29) = arI κ 40 (win 140 40 (gbyN (Tx d) tx vk d)) := by rw [ze71]; rw [va_up_ne _ _ (show o + 29 ≠ o + 10 by omega)]; exact zK59
    have zK91 : zh70 (o + 30) = arI κ 6 (win 4 6 d) := by rw [ze71]; rw [va_up_ne _ _ (show o + 30 ≠ o + 10 by omega)]; exact zK60
    have zK92 : zh70 (o + 31) = arR κ 1 6 cs := by rw [ze71]; rw [va_up_ne _ _ (show o + 31 ≠ o + 10 by omega)]; exact zK61
    have zK93 : zh70 (o + 32) = arR κ 2 2 ts := by rw [ze71]; rw [va_up_ne _ _ (show o + 32 ≠ o + 10 by omega)]; exact zK62
    have zl94 : ∀ zq : Nat, zq < (o + 76) → zq ≠ (o + 27) → zq ≠ (o + 28) → zq ≠ (o + 29) → zq ≠ (o + 30) → zq ≠ (o + 31) → zq ≠ (o + 32) → zq ≠ (o + 57) → zq ≠ (o + 58) → zq ≠ (o + 10) → zh70 zq = h zq := by intro zq hzq zn0 zn1 zn2 zn3 zn4 zn5 zn6 zn7 zn8; rw [ze71, va_up_ne _ _ (show zq ≠ o + 10 by omega)]; exact zl63 zq hzq zn0 zn1 zn2 zn3 zn4 zn5 zn6 zn7
    have zr95 : Zr κ (o + 76) h zh70 := (zr64).trans (Zr.same (fun zq h1 => by rw [ze71, va_up_ne _ _ (show zq ≠ o + 10 by omega)]))
    refine z_iconst (v := 1) X dX11_check_65 (by decide) ?_
    refine z_iload_n X 0 dX11_check_66 rfl ?_
    refine z_iadd X dX11_check_67 ?_
    have hchk : chk (fun k => d (70 + k)) nw (gbyN (Tx d) tx vk (upd d 15 0)) = 1 + (unl wt g'37 nw (rn (gbyN (Tx d) tx vk d) (lnO (gbyN (Tx d) tx vk d)) (lnO (gbyN (Tx d) tx vk d)))) := by (rw [← chk_Ag (gbyN_Ag (Ag_15 d) vk)]; unfold chk; exact congrArg (fun z => 1 + z) (unl_cong (fun j hj => (p3 j hj).symm) (fun j hj => (rgOk_at hrg hj).symm)))
    refine z_iret X E dX11_check_68 (by omega) (by omega) ⟨(nI (lnO (gbyN (Tx d) tx vk d))), ((gbyN (Tx d) tx vk d) 0), ((gbyN (Tx d) tx vk d) 2), ((gbyN (Tx d) tx vk d) 3), (nI nc), (d 10), cold'7, wind'8, (win 100 40 (gbyN (Tx d) tx vk d)), (win 140 40 (gbyN (Tx d) tx vk d)), (win 4 6 d), cs, ts, (nI (rn (gbyN (Tx d) tx vk d) (lnO (gbyN (Tx d) tx vk d)) (lnO (gbyN (Tx d) tx vk d)))), g'37, ?_, ?_, ?_, ?_, ?_, ?_, ?_, ?_, ?_, ?_, ?_, ?_, ?_, ?_⟩
    · rw [(opCheck_0 (T := Tx d) (tx := tx) (d := d) (nw := nw) (by omega)).trans (congrArg (fun z => (0, z)) hchk)]; first | exact congrArg (fun z => some (Value.int z)) (ansOf_0 _).symm | rfl
    · rfl
    · exact fun zq hzq zn0 zn1 zn2 zn3 zn4 zn5 zn6 zn7 zn8 zn9 => zl94 zq hzq zn0 zn1 zn2 zn3 zn4 zn5 zn6 zn7 zn8
    · exact zr95
    · exact zK88
    · exact zK89
    · exact zK90
    · exact zK91
    · exact zK92
    · exact zK93
    · exact zK85
    · exact zK86
    · rw [pk_us]; exact zK83
    · rw [(opCheck_0 (T := Tx d) (tx := tx) (d := d) (nw := nw) (by omega)).trans (congrArg (fun z => (0, z)) hchk)]; first | (rw [bump_0]; exact zK87) | exact zK87
  · replace zc6 := b2i_f zc6
    refine z_aload_n X 0 dX11_check_7 rfl ?_
    refine z_get X fl_X11_10_11 dX11_check_8 K0 rfl ?_
    refine z_get X fl_X11_303_3 dX11_check_11 K1 rfl ?_
    refine z_callV X (c_Row_clear (κ := κ) (n := n) (r := (o + 1 + 9)) (sz := (nI nw)) (bt := (32)) K14 ) mk_X6_clear dX11_check_14 wd_583 wd_584 wd_585 rfl K14 rfl rfl rfl (Nat.le_of_ble_eq_true rfl) (Nat.le_of_ble_eq_true rfl) (Nat.le_of_ble_eq_true rfl) (by omega) (by omega) (fun q zh96 zm98 zp99 => ?_)
    obtain ⟨rfl, ze97, zn100⟩ := zp99
    subst zm98
    refine z_st (st' := []) rfl ?_
    have zK101 : zh96 o = some (.inr (11, [.ref (o + 1), .ref (o + 14), .ref (o + 27), .ref (o + 33), .ref (o + 42), .ref (o + 55), .ref (o + 57), .ref (o + 59), .ref (o + 61), .int im])) := by rw [ze97]; rw [va_up_ne _ _ (show o ≠ o + 10 by omega)]; exact K0
    have zK102 : zh96 (o + 1) = some (.inr (3, [.ref (o + 1 + 1), .ref (o + 1 + 7), .ref (o + 1 + 9), .ref (o + 1 + 11), .int (d 13)])) := by rw [ze97]; rw [va_up_ne _ _ (show o + 1 ≠ o + 10 by omega)]; exact K1
    have zK103 : zh96 (o + 2) = some (.inr (2, [.ref (o + 3), .ref (o + 4), .ref (o + 5), .ref (o + 6), .ref (o + 7), .int (nI len), .int (d 0), .int (d 2), .int (d 3), .int (nI nc), .int (d 10), .int cold, .int wind])) := by rw [ze97]; rw [va_up_ne _ _ (show o + 2 ≠ o + 10 by omega)]; exact K2
    have zK104 : zh96 (o + 3) = arI κ 40 (win 100 40 d) := by rw [ze97]; rw [va_up_ne _ _ (show o + 3 ≠ o + 10 by omega)]; exact K3
    have zK105 : zh96 (o + 4) = arI κ 40 (win 140 40 d) := by rw [ze97]; rw [va_up_ne _ _ (show o + 4 ≠ o + 10 by omega)]; exact K4
    have zK106 : zh96 (o + 5) = arI κ 6 (win 4 6 d) := by rw [ze97]; rw [va_up_ne _ _ (show o + 5 ≠ o + 10 by omega)]; exact K5
    have zK107 : zh96 (o + 6) = arR κ 1 6 cs := by rw [ze97]; rw [va_up_ne _ _ (show o + 6 ≠ o + 10 by omega)]; exact K6
    have zK108 : zh96 (o + 7) = arR κ 2 2 ts := by rw [ze97]; rw [va_up_ne _ _ (show o + 7 ≠ o + 10 by omega)]; exact K7
    have zK109 : zh96 (o + 27) = some (.inr (2, [.ref (o + 28), .ref (o + 29), .ref (o + 30), .ref (o + 31), .ref (o + 32), .int alen, .int anow, .int add, .int adr, .int acc, .int aon, .int acold, .int awind])) := by rw [ze97]; rw [va_up_ne _ _ (show o + 27 ≠ o + 10 by omega)]; exact K8
    have zK110 : zh96 (o + 28) = arI κ 40 af1 := by rw [ze97]; rw [va_up_ne _ _ (show o + 28 ≠ o + 10 by omega)]; exact K9
    have zK111 : zh96 (o + 29) = arI κ 40 af2 := by rw [ze97]; rw [va_up_ne _ _ (show o + 29 ≠ o + 10 by omega)]; exact K10
    have zK112 : zh96 (o + 30) = arI κ 6 af3 := by rw [ze97]; rw [va_up_ne _ _ (show o + 30 ≠ o + 10 by omega)]; exact K11
    have zK113 : zh96 (o + 31) = arR κ 1 6 ac1 := by rw [ze97]; rw [va_up_ne _ _ (show o + 31 ≠ o + 10 by omega)]; exact K12
    have zK114 : zh96 (o + 32) = arR κ 2 2 at1 := by rw [ze97]; rw [va_up_ne _ _ (show o + 32 ≠ o + 10 by omega)]; exact K13
    have zK115 : zh96 (o + 10) = some (.inr (6, [.ref ((o + 1 + 9) + 1), .int 0, .int 32])) := by rw [ze97]; exact va_up_self _ _ _
    have zK116 : zh96 (o + 11) = arI κ 20 wt := by rw [ze97]; rw [va_up_ne _ _ (show o + 11 ≠ o + 10 by omega)]; exact K15
    have zK117 : zh96 (o + 57) = some (.inr (6, [.ref (o + 57 + 1), .int rs2, .int bt2])) := by rw [ze97]; rw [va_up_ne _ _ (show o + 57 ≠ o + 10 by omega)]; exact K16
    have zK118 : zh96 (o + 58) = arI κ 40 g2 := by rw [ze97]; rw [va_up_ne _ _ (show o + 58 ≠ o + 10 by omega)]; exact K17
    have zK119 : zh96 (o + 61) = arI κ 6 fo := by rw [ze97]; rw [va_up_ne _ _ (show o + 61 ≠ o + 10 by omega)]; exact K18
    have zl120 : ∀ zq : Nat, zq < (o + 76) → zq ≠ (o + 10) → zh96 zq = h zq := by intro zq hzq zn0; rw [ze97, va_up_ne _ _ (show zq ≠ o + 10 by omega)]; try rfl
    have zr121 : Zr κ (o + 76) h zh96 := (Zr.refl).trans (Zr.same (fun zq h1 => by rw [ze97, va_up_ne _ _ (show zq ≠ o + 10 by omega)]))
    refine z_aload_n X 0 dX11_check_17 rfl ?_
    refine z_iconst (v := 1) X dX11_check_18 (by decide) ?_
    refine z_callV X (c_fail (κ := κ) (n := n) (o := (o)) (im := (im)) (fo := (fo)) (k := (1)) zK101 zK119 (by first | assumption | omega) (by first | assumption | omega)) mk_X11_fail dX11_check_19 wd_260 wd_262 wd_0 rfl zK101 rfl rfl rfl (Nat.le_of_ble_eq_true rfl) (Nat.le_of_ble_eq_true rfl) (Nat.le_of_ble_eq_true rfl) (by omega) (by omega) (fun q zh122 zm124 zp125 => ?_)
    obtain ⟨rfl, ze123, zn126⟩ := zp125
    subst zm124
    refine z_st (st' := [.int (lowE 1)]) rfl ?_
    have zK127 : zh122 o = some (.inr (11, [.ref (o + 1), .ref (o + 14), .ref (o + 27), .ref (o + 33), .ref (o + 42), .ref (o + 55), .ref (o + 57), .ref (o + 59), .ref (o + 61), .int im])) := by rw [ze123]; rw [va_up_ne _ _ (show o ≠ o + 61 by omega)]; exact zK101
    have zK128 : zh122 (o + 1) = some (.inr (3, [.ref (o + 1 + 1), .ref (o + 1 + 7), .ref (o + 1 + 9), .ref (o + 1 + 11), .int (d 13)])) := by rw [ze123]; rw [va_up_ne _ _ (show o + 1 ≠ o + 61 by omega)]; exact zK102
    have zK129 : zh122 (o + 2) = some (.inr (2, [.ref (o + 3), .ref (o + 4), .ref (o + 5), .ref (o + 6), .ref (o + 7), .int (nI len), .int (d 0), .int (d 2), .int (d 3), .int (nI nc), .int (d 10), .int cold, .int wind])) := by rw [ze123]; rw [va_up_ne _ _ (show o + 2 ≠ o + 61 by omega)]; exact zK103
    have zK130 : zh122 (o + 3) = arI κ 40 (win 100 40 d) := by rw [ze123]; rw [va_up_ne _ _ (show o + 3 ≠ o + 61 by omega)]; exact zK104
    have zK131 : zh122 (o + 4) = arI κ 40 (win 140 40 d) := by rw [ze123]; rw [va_up_ne _ _ (show o + 4 ≠ o + 61 by omega)]; exact zK105
    have zK132 : zh122 (o + 5) = arI κ 6 (win 4 6 d) := by rw [ze123]; rw [va_up_ne _ _ (show o + 5 ≠ o + 61 by omega)]; exact zK106
    have zK133 : zh122 (o + 6) = arR κ 1 6 cs := by rw [ze123]; rw [va_up_ne _ _ (show o + 6 ≠ o + 61 by omega)]; exact zK107
    have zK134 : zh122 (o + 7) = arR κ 2 2 ts := by rw [ze123]; rw [va_up_ne _ _ (show o + 7 ≠ o + 61 by omega)]; exact zK108
    have zK135 : zh122 (o + 27) = some (.inr (2, [.ref (o + 28), .ref (o + 29), .ref (o + 30), .ref (o + 31), .ref (o + 32), .int alen, .int anow, .int add, .int adr, .int acc, .int aon, .int acold, .int awind])) := by rw [ze123]; rw [va_up_ne _ _ (show o + 27 ≠ o + 61 by omega)]; exact zK109
    have zK136 : zh122 (o + 28) = arI κ 40 af1 := by rw [ze123]; rw [va_up_ne _ _ (show o + 28 ≠ o + 61 by omega)]; exact zK110
    have zK137 : zh122 (o + 29) = arI κ 40 af2 := by rw [ze123]; rw [va_up_ne _ _ (show o + 29 ≠ o + 61 by omega)]; exact zK111
    have zK138 : zh122 (o + 30) = arI κ 6 af3 := by rw [ze123]; rw [va_up_ne _ _ (show o + 30 ≠ o + 61 by omega)]; exact zK112
    have zK139 : zh122 (o + 31) = arR κ 1 6 ac1 := by rw [ze123]; rw [va_up_ne _ _ (show o + 31 ≠ o + 61 by omega)]; exact zK113
    have zK140 : zh122 (o + 32) = arR κ 2 2 at1 := by rw [ze123]; rw [va_up_ne _ _ (show o + 32 ≠ o + 61 by omega)]; exact zK114
    have zK141 : zh122 (o + 10) = some (.inr (6, [.ref ((o + 1 + 9) + 1), .int 0, .int 32])) := by rw [ze123]; rw [va_up_ne _ _ (show o + 10 ≠ o + 61 by omega)]; exact zK115
    have zK142 : zh122 (o + 11) = arI κ 20 wt := by rw [ze123]; rw [va_up_ne _ _ (show o + 11 ≠ o + 61 by omega)]; exact zK116
    have zK143 : zh122 (o + 57) = some (.inr (6, [.ref (o + 57 + 1), .int rs2, .int bt2])) := by rw [ze123]; rw [va_up_ne _ _ (show o + 57 ≠ o + 61 by omega)]; exact zK117
    have zK144 : zh122 (o + 58) = arI κ 40 g2 := by rw [ze123]; rw [va_up_ne _ _ (show o + 58 ≠ o + 61 by omega)]; exact zK118
    have zK145 : zh122 (o + 61) = arI κ 6 (bmp fo 1) := by rw [ze123]; exact va_up_self _ _ _
    have zl146 : ∀ zq : Nat, zq < (o + 76) → zq ≠ (o + 10) → zq ≠ (o + 61) → zh122 zq = h zq := by intro zq hzq zn0 zn1; rw [ze123, va_up_ne _ _ (show zq ≠ o + 61 by omega)]; exact zl120 zq hzq zn0
    have zr147 : Zr κ (o + 76) h zh122 := (zr121).trans (Zr.same (fun zq h1 => by rw [ze123, va_up_ne _ _ (show zq ≠ o + 61 by omega)]))
    refine z_iret X E dX11_check_22 (by omega) (by omega) ⟨alen, anow, add, adr, acc, aon, acold, awind, af1, af2, af3, ac1, at1, rs2, g2, ?_, ?_, ?_, ?_, ?_, ?_, ?_, ?_, ?_, ?_, ?_, ?_, ?_, ?_⟩
    · rw [(show opCheck (Tx d) tx d nw v = (1, 0) from if_pos (by assumption))]; first | exact congrArg (fun z => some (Value.int z)) (ansOf_0 _).symm | rfl
    · rfl
    · exact fun zq hzq zn0 zn1 zn2 zn3 zn4 zn5 zn6 zn7 zn8 zn9 => zl146 zq hzq zn8 zn9
    · exact zr147
    · exact zK135
    · exact zK136
    · exact zK137
    · exact zK138
    · exact zK139
    · exact zK140
    · exact zK143
    · exact zK144
    · rw [pk_us]; exact zK141
    · rw [(show opCheck (Tx d) tx d nw v = (1, 0) from if_pos (by assumption))]; first | (rw [bump_0]; exact zK145) | exact zK145
