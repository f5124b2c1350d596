theorem gby_of {T : Nat → Nat → Int32} {tx : Nat → Nat} {m mm : Nat → Int32} {len nc : Nat} {wt st : Int32} (q1 : m 1 = nI len) (q3 : len ≤ 40) (q4 : m 11 = nI nc) (q5 : nc ≤ 6) (hL : gbL (cldR T tx m) len nc len (m, watR T tx m, watR T tx m * m 5) = (mm, wt, st)) (h0 : mm 0 = m 0) : gby T tx m = upd (gbE len (mm, wt, st)) 0 (m 0 + 1) := by
  rw [gby_eq q1 q3 q4 q5 hL, h0]
theorem wt_z {wt : Int32} (h : wt ≤ 0) (h1 : 0 ≤ wt.toInt) : wt = 0 := by
  rw [i_le, show (0 : Int32).toInt = 0 by decide] at h
  exact eq0_of (by omega)
theorem add_nn {a b : Int32} (h1 : 0 ≤ a.toInt) (h2 : a.toInt ≤ 999999) (h3 : 0 ≤ b.toInt) (h4 : b.toInt ≤ 999999) : 0 ≤ (a + b).toInt := by
  rw [i_add] <;> omega
theorem wt_pos {wt : Int32} (h : ¬ wt ≤ 0) : ¬ wt = 0 := fun q => h (by rw [q]; decide)
set_option maxHeartbeats 4000000 in
set_option maxRecDepth 100000 in
theorem c_pass {κ : Wc} {l : Launch} {h : Mm} {n : Nat} {i : Nat} {len : Nat} {nc : Nat} {zb : Nat} {m : Nat → Int32} {ts : Nat → Option Nat} {cs : Nat → Option Nat} {T : Nat → Nat → Int32} {tx : Nat → Nat} {s7 : Int32} {w : Int32} {now : Int32} {dd : Int32} {dr : Int32} {on : Int32} {cold : Int32} {wind : Int32} (K0 : h i = some (.inr (2, [.ref (i + 1), .ref (i + 2), .ref (i + 3), .ref (i + 4), .ref (i + 5), .int (nI len), .int now, .int dd, .int dr, .int (nI nc), .int on, .int cold, .int wind]))) (K1 : h (i + 1) = arI κ 40 (win 100 40 m)) (K2 : h (i + 2) = arI κ 40 (win 140 40 m)) (K3 : h (i + 3) = arI κ 6 (upd (win 4 6 m) 3 s7)) (K4 : h (i + 4) = arR κ 1 6 cs) (K5 : h (i + 5) = arR κ 2 2 ts) (hz : i + 5 < zb) (hTs : TsO κ zb h ts T tx) (hCs : CsO zb h cs m nc) (q1 : m 1 = nI len) (q2 : 1 ≤ len) (q3 : len ≤ 40) (q4 : m 11 = nI nc) (q5 : nc ≤ 6) (hn : m 0 = now) (hon : m 10 = on) (hd : m 2 = dd) (hr : m 3 = dr) (hw : m 7 = w) (hS : wfS m) (hC : wfC m) : Con κ l yX2_pass cX2_pass 7 none 10 0 0 [.ref i, .int w] h n (fun q h' n' => ∃ cold' : Int32, ∃ wind' : Int32, q = none ∧ n' = n ∧ (∀ zq : Nat, zq < zb → zq ≠ i → zq ≠ (i + 1) → zq ≠ (i + 2) → h' zq = h zq) ∧ Zr κ zb h h' ∧ h' i = some (.inr (2, [.ref (i + 1), .ref (i + 2), .ref (i + 3), .ref (i + 4), .ref (i + 5), .int (gby T tx m 1), .int (gby T tx m 0), .int (gby T tx m 2), .int (gby T tx m 3), .int (nI nc), .int on, .int cold', .int wind'])) ∧ h' (i + 1) = arI κ 40 (win 100 40 (gby T tx m)) ∧ h' (i + 2) = arI κ 40 (win 140 40 (gby T tx m))) := by
  refine Con.of mk_X2_pass (Nat.le_of_ble_eq_true rfl) (fun G hG X E => ?_)
  subst hG
  refine z_ls (ls' := [(0, .ref i), (1, .int w)]) rfl ?_
  refine z_aload_n X 0 dX2_pass_0 rfl ?_
  refine z_iload_n X 1 dX2_pass_1 rfl ?_
  refine z_callV X (c_feel (κ := κ) (n := n) (i := (i)) (m := (m)) (ts := (ts)) (T := (T)) (tx := (tx)) (s7 := (s7)) (w := (w)) (len := (nI len)) (now := (now)) (dd := (dd)) (dr := (dr)) (cc := (nI nc)) (on := (on)) (cold := (cold)) (wind := (wind)) K0 K3 K5 (by first | assumption | omega) (hTs) (hS) (hn)) mk_X2_feel dX2_pass_2 wd_604 wd_437 wd_438 rfl K0 rfl rfl rfl (Nat.le_of_ble_eq_true rfl) (Nat.le_of_ble_eq_true rfl) (Nat.le_of_ble_eq_true rfl) (by omega) (by omega) (fun q zh1 zm3 zp4 => ?_)
  obtain ⟨rfl, zn5, zf6, zr7, zK8⟩ := zp4
  subst zm3
  refine z_st (st' := []) rfl ?_
  have zK9 : zh1 (i + 1) = arI κ 40 (win 100 40 m) := (zf6 (i + 1) (by omega) (by omega)).trans K1
  have zK10 : zh1 (i + 2) = arI κ 40 (win 140 40 m) := (zf6 (i + 2) (by omega) (by omega)).trans K2
  have zK11 : zh1 (i + 3) = arI κ 6 (upd (win 4 6 m) 3 s7) := (zf6 (i + 3) (by omega) (by omega)).trans K3
  have zK12 : zh1 (i + 4) = arR κ 1 6 cs := (zf6 (i + 4) (by omega) (by omega)).trans K4
  have zK13 : zh1 (i + 5) = arR κ 2 2 ts := (zf6 (i + 5) (by omega) (by omega)).trans K5
  have zl14 : ∀ zq : Nat, zq < zb → zq ≠ i → zh1 zq = h zq := by intro zq hzq zn0; rw [zf6 zq (by omega) (by omega)]; try rfl
  have zr15 : Zr κ zb h zh1 := (Zr.refl).trans zr7
  refine z_aload_n X 0 dX2_pass_5 rfl ?_
  refine z_iconst (v := 0) X dX2_pass_6 (by decide) ?_
  refine z_aload_n X 0 dX2_pass_7 rfl ?_
  refine z_get X fl_X2_49_2 dX2_pass_8 zK8 rfl ?_
  refine z_aload_n X 0 dX2_pass_11 rfl ?_
  refine z_get X fl_X2_18_2 dX2_pass_12 zK8 rfl ?_
  refine z_iconst (v := 0) X dX2_pass_15 (by decide) ?_
  refine z_iald2 (v := m 4) X dX2_pass_16 zK11 (vp_in_nI (n := 0) (by omega) (by omega)) (((congrArg (upd (win 4 6 m) 3 s7) (nI_clamp (n := 0) (by omega))).trans (pk_un (show 0 ≠ 3 by omega))).trans (win_at (k := 0) (by omega))) ?_
  refine z_aload_n X 0 dX2_pass_17 rfl ?_
  refine z_get X fl_X2_18_2 dX2_pass_18 zK8 rfl ?_
  refine z_iconst (v := 2) X dX2_pass_21 (by decide) ?_
  refine z_iald2 (v := m 6) X dX2_pass_22 zK11 (vp_in_nI (n := 2) (by omega) (by omega)) (((congrArg (upd (win 4 6 m) 3 s7) (nI_clamp (n := 2) (by omega))).trans (pk_un (show 2 ≠ 3 by omega))).trans (win_at (k := 2) (by omega))) ?_
  refine z_callV X (c_given_0 (κ := κ) (n := n) (i := (i)) (m := (upd m 7 s7)) (ts := (ts)) (T := (T)) (tx := (tx)) (len := (nI len)) (now := (now)) (dd := (dd)) (dr := (dr)) (cc := (nI nc)) (on := (on)) (cold := (cldR T tx m)) (wind := (w)) (t := (now)) (w := (m 4)) (c := (m 6)) zK8 ((zK11).trans (congrArg (arI κ 6) (win_us (m := m) (x := s7) (show 3 < 6 by omega)).symm)) zK13 (by first | assumption | omega) (TsO.mono zr15 hTs) ((show 0 ≤ upd m 7 s7 4 from hS.1)) ((show upd m 7 s7 4 ≤ 9999 from hS.2.1))) mk_X2_given dX2_pass_23 wd_440 wd_441 wd_442 rfl zK8 rfl rfl rfl (Nat.le_of_ble_eq_true rfl) (Nat.le_of_ble_eq_true rfl) (Nat.le_of_ble_eq_true rfl) (by omega) (by omega) (fun q zh16 zm18 zp19 => ?_)
  obtain ⟨rfl, zn20, zf21, zr22⟩ := zp19
  subst zm18
  refine z_st (st' := [.int (gvn T tx 0 now (m 4) (m 6) ((upd m 7 s7) 4))]) rfl ?_
  have zK23 : zh16 (i + 1) = arI κ 40 (win 100 40 m) := (zf21 (i + 1) (by omega)).trans zK9
  have zK24 : zh16 (i + 2) = arI κ 40 (win 140 40 m) := (zf21 (i + 2) (by omega)).trans zK10
  have zK25 : zh16 (i + 3) = arI κ 6 (upd (win 4 6 m) 3 s7) := (zf21 (i + 3) (by omega)).trans zK11
  have zK26 : zh16 (i + 4) = arR κ 1 6 cs := (zf21 (i + 4) (by omega)).trans zK12
  have zK27 : zh16 (i + 5) = arR κ 2 2 ts := (zf21 (i + 5) (by omega)).trans zK13
  have zK28 : zh16 i = some (.inr (2, [.ref (i + 1), .ref (i + 2), .ref (i + 3), .ref (i + 4), .ref (i + 5), .int ((nI len)), .int now, .int dd, .int dr, .int ((nI nc)), .int on, .int (cldR T tx m), .int w])) := (zf21 i (by omega)).trans zK8
  have zl29 : ∀ zq : Nat, zq < zb → zq ≠ i → zh16 zq = h zq := by intro zq hzq zn0; rw [zf21 zq (by omega)]; exact zl14 zq hzq zn0
  have zr30 : Zr κ zb h zh16 := (zr15).trans zr22
  refine z_toe (y := watR T tx m) (by rw [← hn]; rfl) ?_
  refine z_istore_n (ls' := [(2, .int (watR T tx m)), (0, .ref i), (1, .int w)]) X dX2_pass_26 (by decide) rfl ?_
  refine z_iload_n X 0 dX2_pass_27 rfl ?_
  refine z_aload_n X 1 dX2_pass_28 rfl ?_
  refine z_get X fl_X2_18_2 dX2_pass_29 zK28 rfl ?_
  refine z_iconst (v := 1) X dX2_pass_32 (by decide) ?_
  refine z_iald2 (v := m 5) X dX2_pass_33 zK25 (vp_in_nI (n := 1) (by omega) (by omega)) (((congrArg (upd (win 4 6 m) 3 s7) (nI_clamp (n := 1) (by omega))).trans (pk_un (show 1 ≠ 3 by omega))).trans (win_at (k := 1) (by omega))) ?_
  refine z_imul X dX2_pass_34 ?_
  refine z_istore_n (ls' := [(3, .int ((watR T tx m) * (m 5))), (2, .int (watR T tx m)), (0, .ref i), (1, .int w)]) X dX2_pass_35 (by decide) rfl ?_
  refine z_iconst (v := 0) X dX2_pass_36 (by decide) ?_
  refine z_istore (ls' := [(4, .int 0), (3, .int ((watR T tx m) * (m 5))), (2, .int (watR T tx m)), (0, .ref i), (1, .int w)]) X dX2_pass_37 (by decide) rfl ?_
  have L39 : ∀ (jj : Nat) (hh39 : Mm) (c : Nat) (mm : Nat → Int32) (wt : Int32) (st : Int32), (len - c < jj) → (∀ zq : Nat, zq < zb → zq ≠ i → zq ≠ (i + 1) → zq ≠ (i + 2) → hh39 zq = h zq) → Zr κ zb h hh39 → hh39 i = some (.inr (2, [.ref (i + 1), .ref (i + 2), .ref (i + 3), .ref (i + 4), .ref (i + 5), .int (nI len), .int now, .int dd, .int dr, .int (nI nc), .int on, .int (cldR T tx m), .int w])) → hh39 (i + 1) = arI κ 40 (win 100 40 mm) → hh39 (i + 2) = arI κ 40 (win 140 40 mm) → (hc : c ≤ len) → (hL : gbL (cldR T tx m) len nc c (m, watR T tx m, watR T tx m * m 5) = (mm, wt, st)) → Z κ G 7 39 [(0, .ref i), (1, .int w), (2, .int wt), (3, .int st), (4, .int (nI c))] [] hh39 n 0 (0) := by
    intro jj
    induction jj with
    | zero => intro hh39 c mm wt st hmu; exact absurd hmu (Nat.not_lt_zero _)
    | succ jj ih39 =>
      intro hh39 c mm wt st hmu zl_39 zr_39 zK31 zK32 zK33 hc hL
      have zK34 : hh39 (i + 3) = arI κ 6 (upd (win 4 6 m) 3 s7) := (zl_39 (i + 3) (by omega) (by omega) (by omega) (by omega)).trans K3
      have zK35 : hh39 (i + 4) = arR κ 1 6 cs := (zl_39 (i + 4) (by omega) (by omega) (by omega) (by omega)).trans K4
      have zK36 : hh39 (i + 5) = arR κ 2 2 ts := (zl_39 (i + 5) (by omega) (by omega) (by omega) (by omega)).trans K5
      have hgq : GxO (mm, wt, st) := by (rw [← hL]; exact GxO_L (GxO_0 hS hC) c (by omega))
      have hgx : wfC mm ∧ 0 ≤ wt.toInt ∧ wt.toInt ≤ 9999 ∧ 0 ≤ st.toInt ∧ st.toInt ≤ 999999 := hgq
      have hof : ∀ z, z < 100 → mm z = m z := fun z hz => (congrArg (fun y : GX => y.1 z) hL).symm.trans (gbL_off (x := (m, watR T tx m, watR T tx m * m 5)) (by omega) c (by omega))
      refine z_iload X 4 dX2_pass_39 rfl ?_
      refine z_aload_n X 0 dX2_pass_41 rfl ?_
      refine z_get X fl_X2_45_2 dX2_pass_42 zK31 rfl ?_
      refine z_icmp_ge X 146 dX2_pass_45 (by decide) (fun zc37 => ?_) (fun zc37 => ?_)
      · try replace zc37 := (nI_leI (a := len) (b := c) (by omega) (by omega)).mp zc37
        have hLE := gbL_out hL hgx.1 q3 hc (Or.inl (by omega))
        refine z_aload_n X 0 dX2_pass_146 rfl ?_
        refine z_iload_n X 2 dX2_pass_147 rfl ?_
        refine z_iload_n X 3 dX2_pass_148 rfl ?_
        refine z_callV X (c_leave (κ := κ) (n := n) (i := (i)) (len := (len)) (m := (mm)) (st := (upd (win 4 6 m) 3 s7)) (w := (wt)) (s := (st)) (now := (now)) (dd := (dd)) (dr := (dr)) (cc := (nI nc)) (on := (on)) (cold := (cldR T tx m)) (wind := (w)) zK31 zK32 zK33 zK34 ((hof 1 (by omega)).trans q1) (by first | assumption | omega) ((hof 2 (by omega)).trans hd) ((hof 3 (by omega)).trans hr) (((pk_un (by omega)).trans (win_at (by omega))).trans (hof 8 (by omega)).symm) (hgx.2.1) (hgx.2.2.1) (hgx.2.2.2.1)) mk_X2_leave dX2_pass_149 wd_613 wd_615 wd_18 rfl zK31 rfl rfl rfl (Nat.le_of_ble_eq_true rfl) (Nat.le_of_ble_eq_true rfl) (Nat.le_of_ble_eq_true rfl) (by omega) (by omega) (fun q zh38 zm40 zp41 => ?_)
        obtain ⟨rfl, ze39, zn42⟩ := zp41
        subst zm40
        refine z_st (st' := []) rfl ?_
        have zK43 : zh38 i = some (.inr (2, [.ref (i + 1), .ref (i + 2), .ref (i + 3), .ref (i + 4), .ref (i + 5), .int (gbE len (mm, wt, st) 1), .int now, .int (gbE len (mm, wt, st) 2), .int (gbE len (mm, wt, st) 3), .int ((nI nc)), .int on, .int ((cldR T tx m)), .int w])) := by rw [ze39]; rw [va_up_ne _ _ (show i ≠ i + 2 by omega)]; rw [va_up_ne _ _ (show i ≠ i + 1 by omega)]; exact va_up_self _ _ _
        have zK44 : zh38 (i + 1) = arI κ 40 (win 100 40 (gbE len (mm, wt, st))) := by rw [ze39]; rw [va_up_ne _ _ (show i + 1 ≠ i + 2 by omega)]; exact va_up_self _ _ _
        have zK45 : zh38 (i + 2) = arI κ 40 (win 140 40 (gbE len (mm, wt, st))) := by rw [ze39]; exact va_up_self _ _ _
        have zK46 : zh38 (i + 3) = arI κ 6 (upd (win 4 6 m) 3 s7) := by rw [ze39]; rw [va_up_ne _ _ (show i + 3 ≠ i + 2 by omega)]; rw [va_up_ne _ _ (show i + 3 ≠ i + 1 by omega)]; rw [va_up_ne _ _ (show i + 3 ≠ i by omega)]; exact zK34
        have zK47 : zh38 (i + 4) = arR κ 1 6 cs := by rw [ze39]; rw [va_up_ne _ _ (show i + 4 ≠ i + 2 by omega)]; rw [va_up_ne _ _ (show i + 4 ≠ i + 1 by omega)]; rw [va_up_ne _ _ (show i + 4 ≠ i by omega)]; exact zK35
        have zK48 : zh38 (i + 5) = arR κ 2 2 ts := by rw [ze39]; rw [va_up_ne _ _ (show i + 5 ≠ i + 2 by omega)]; rw [va_up_ne _ _ (show i + 5 ≠ i + 1 by omega)]; rw [va_up_ne _ _ (show i + 5 ≠ i by omega)]; exact zK36
        have zl49 : ∀ zq : Nat, zq < zb → zq ≠ i → zq ≠ (i + 1) → zq ≠ (i + 2) → zh38 zq = h zq := by intro zq hzq zn0 zn1 zn2; rw [ze39, va_up_ne _ _ (show zq ≠ i + 2 by omega), va_up_ne _ _ (show zq ≠ i + 1 by omega), va_up_ne _ _ (show zq ≠ i by omega)]; exact zl_39 zq hzq zn0 zn1 zn2
        have zr50 : Zr κ zb h zh38 := (zr_39).trans (Zr.same (fun zq h1 => by rw [ze39, va_up_ne _ _ (show zq ≠ i + 2 by omega), va_up_ne _ _ (show zq ≠ i + 1 by omega), va_up_ne _ _ (show zq ≠ i by omega)]))
        refine z_aload_n X 0 dX2_pass_152 rfl ?_
        refine z_dup X dX2_pass_153 rfl ?_
        refine z_get X fl_X2_49_2 dX2_pass_154 zK43 rfl ?_
        refine z_iconst (v := 1) X dX2_pass_157 (by decide) ?_
        refine z_iadd X dX2_pass_158 ?_
        refine z_put X fp_X2_49_2 dX2_pass_159 zK43 (by first | rfl | decide) (by first | rfl | decide) (Nat.le_of_ble_eq_true rfl) rfl ?_
        obtain ⟨zh51, ze52⟩ : ∃ z : Mm, z = va_up zh38 i (some (.inr (2, [.ref (i + 1), .ref (i + 2), .ref (i + 3), .ref (i + 4), .ref (i + 5), .int (gbE len (mm, wt, st) 1), .int (now + 1), .int (gbE len (mm, wt, st) 2), .int (gbE len (mm, wt, st) 3), .int ((nI nc)), .int on, .int ((cldR T tx m)), .int w]))) := ⟨_, rfl⟩
        refine z_heap (h' := zh51) ze52.symm ?_
        have zK53 := up_at ze52
        have zK54 := up_off ze52 (show i + 1 ≠ i by omega) zK44
        have zK55 := up_off ze52 (show i + 2 ≠ i by omega) zK45
        have zK56 := up_off ze52 (show i + 3 ≠ i by omega) zK46
        have zK57 := up_off ze52 (show i + 4 ≠ i by omega) zK47
        have zK58 := up_off ze52 (show i + 5 ≠ i by omega) zK48
        have zl59 : ∀ zq : Nat, zq < zb → zq ≠ i → zq ≠ (i + 1) → zq ≠ (i + 2) → zh51 zq = h zq := by intro zq hzq zn0 zn1 zn2; rw [ze52, va_up_ne _ _ (show zq ≠ i by omega)]; exact zl49 zq hzq zn0 zn1 zn2
        have zr60 : Zr κ zb h zh51 := (zr50).trans (Zr.same (fun zq h1 => by rw [ze52, va_up_ne _ _ (show zq ≠ i by omega)]))
        have hGy := gby_of q1 q3 q4 q5 hLE (hof 0 (by omega))
        refine z_vret X E dX2_pass_162 (by omega) (by omega) ⟨cldR T tx m, w, ?_, ?_, ?_, ?_, ?_, ?_, ?_⟩
        · rfl
        · rfl
        · exact fun zq hzq zn0 zn1 zn2 => zl59 zq hzq zn0 zn1 zn2
        · exact zr60
        · rw [hGy, show upd (gbE len (mm, wt, st)) 0 (m 0 + 1) 1 = gbE len (mm, wt, st) 1 from pk_un (by omega), show upd (gbE len (mm, wt, st)) 0 (m 0 + 1) 2 = gbE len (mm, wt, st) 2 from pk_un (by omega), show upd (gbE len (mm, wt, st)) 0 (m 0 + 1) 3 = gbE len (mm, wt, st) 3 from pk_un (by omega), show upd (gbE len (mm, wt, st)) 0 (m 0 + 1) 0 = now + 1 from pk_us.trans (by rw [hn])]; exact zK53
        · rw [hGy, win_off (by omega)]; exact zK54
        · rw [hGy, win_off (by omega)]; exact zK55
      · try replace zc37 := mt (nI_leI (a := len) (b := c) (by omega) (by omega)).mpr zc37
        refine z_iload_n X 2 dX2_pass_48 rfl ?_
        refine z_if_le X 146 dX2_pass_49 (by decide) (fun zc61 => ?_) (fun zc61 => ?_)
        · have hLE := gbL_out hL hgx.1 q3 hc (Or.inr (wt_z zc61 hgx.2.1))
          refine z_aload_n X 0 dX2_pass_146 rfl ?_
          refine z_iload_n X 2 dX2_pass_147 rfl ?_
          refine z_iload_n X 3 dX2_pass_148 rfl ?_
          refine z_callV X (c_leave (κ := κ) (n := n) (i := (i)) (len := (len)) (m := (mm)) (st := (upd (win 4 6 m) 3 s7)) (w := (wt)) (s := (st)) (now := (now)) (dd := (dd)) (dr := (dr)) (cc := (nI nc)) (on := (on)) (cold := (cldR T tx m)) (wind := (w)) zK31 zK32 zK33 zK34 ((hof 1 (by omega)).trans q1) (by first | assumption | omega) ((hof 2 (by omega)).trans hd) ((hof 3 (by omega)).trans hr) (((pk_un (by omega)).trans (win_at (by omega))).trans (hof 8 (by omega)).symm) (hgx.2.1) (hgx.2.2.1) (hgx.2.2.2.1)) mk_X2_leave dX2_pass_149 wd_613 wd_615 wd_18 rfl zK31 rfl rfl rfl (Nat.le_of_ble_eq_true rfl) (Nat.le_of_ble_eq_true rfl) (Nat.le_of_ble_eq_true rfl) (by omega) (by omega) (fun q zh62 zm64 zp65 => ?_)
          obtain ⟨rfl, ze63, zn66⟩ := zp65
          subst zm64
          refine z_st (st' := []) rfl ?_
          have zK67 : zh62 i = some (.inr (2, [.ref (i + 1), .ref (i + 2), .ref (i + 3), .ref (i + 4), .ref (i + 5), .int (gbE len (mm, wt, st) 1), .int now, .int (gbE len (mm, wt, st) 2), .int (gbE len (mm, wt, st) 3), .int ((nI nc)), .int on, .int ((cldR T tx m)), .int w])) := by rw [ze63]; rw [va_up_ne _ _ (show i ≠ i + 2 by omega)]; rw [va_up_ne _ _ (show i ≠ i + 1 by omega)]; exact va_up_self _ _ _
          have zK68 : zh62 (i + 1) = arI κ 40 (win 100 40 (gbE len (mm, wt, st))) := by rw [ze63]; rw [va_up_ne _ _ (show i + 1 ≠ i + 2 by omega)]; exact va_up_self _ _ _
          have zK69 : zh62 (i + 2) = arI κ 40 (win 140 40 (gbE len (mm, wt, st))) := by rw [ze63]; exact va_up_self _ _ _
          have zK70 : zh62 (i + 3) = arI κ 6 (upd (win 4 6 m) 3 s7) := by rw [ze63]; rw [va_up_ne _ _ (show i + 3 ≠ i + 2 by omega)]; rw [va_up_ne _ _ (show i + 3 ≠ i + 1 by omega)]; rw [va_up_ne _ _ (show i + 3 ≠ i by omega)]; exact zK34
          have zK71 : zh62 (i + 4) = arR κ 1 6 cs := by rw [ze63]; rw [va_up_ne _ _ (show i + 4 ≠ i + 2 by omega)]; rw [va_up_ne _ _ (show i + 4 ≠ i + 1 by omega)]; rw [va_up_ne _ _ (show i + 4 ≠ i by omega)]; exact zK35
          have zK72 : zh62 (i + 5) = arR κ 2 2 ts := by rw [ze63]; rw [va_up_ne _ _ (show i + 5 ≠ i + 2 by omega)]; rw [va_up_ne _ _ (show i + 5 ≠ i + 1 by omega)]; rw [va_up_ne _ _ (show i + 5 ≠ i by omega)]; exact zK36
          have zl73 : ∀ zq : Nat, zq < zb → zq ≠ i → zq ≠ (i + 1) → zq ≠ (i + 2) → zh62 zq = h zq := by intro zq hzq zn0 zn1 zn2; rw [ze63, va_up_ne _ _ (show zq ≠ i + 2 by omega), va_up_ne _ _ (show zq ≠ i + 1 by omega), va_up_ne _ _ (show zq ≠ i by omega)]; exact zl_39 zq hzq zn0 zn1 zn2
          have zr74 : Zr κ zb h zh62 := (zr_39).trans (Zr.same (fun zq h1 => by rw [ze63, va_up_ne _ _ (show zq ≠ i + 2 by omega), va_up_ne _ _ (show zq ≠ i + 1 by omega), va_up_ne _ _ (show zq ≠ i by omega)]))
          refine z_aload_n X 0 dX2_pass_152 rfl ?_
          refine z_dup X dX2_pass_153 rfl ?_
          refine z_get X fl_X2_49_2 dX2_pass_154 zK67 rfl ?_
          refine z_iconst (v := 1) X dX2_pass_157 (by decide) ?_
          refine z_iadd X dX2_pass_158 ?_
          refine z_put X fp_X2_49_2 dX2_pass_159 zK67 (by first | rfl | decide) (by first | rfl | decide) (Nat.le_of_ble_eq_true rfl) rfl ?_
          obtain ⟨zh75, ze76⟩ : ∃ z : Mm, z = va_up zh62 i (some (.inr (2, [.ref (i + 1), .ref (i + 2), .ref (i + 3), .ref (i + 4), .ref (i + 5), .int (gbE len (mm, wt, st) 1), .int (now + 1), .int (gbE len (mm, wt, st) 2), .int (gbE len (mm, wt, st) 3), .int ((nI nc)), .int on, .int ((cldR T tx m)), .int w]))) := ⟨_, rfl⟩
          refine z_heap (h' := zh75) ze76.symm ?_
          have zK77 := up_at ze76
          have zK78 := up_off ze76 (show i + 1 ≠ i by omega) zK68
          have zK79 := up_off ze76 (show i + 2 ≠ i by omega) zK69
          have zK80 := up_off ze76 (show i + 3 ≠ i by omega) zK70
          have zK81 := up_off ze76 (show i + 4 ≠ i by omega) zK71
          have zK82 := up_off ze76 (show i + 5 ≠ i by omega) zK72
          have zl83 : ∀ zq : Nat, zq < zb → zq ≠ i → zq ≠ (i + 1) → zq ≠ (i + 2) → zh75 zq = h zq := by intro zq hzq zn0 zn1 zn2; rw [ze76, va_up_ne _ _ (show zq ≠ i by omega)]; exact zl73 zq hzq zn0 zn1 zn2
          have zr84 : Zr κ zb h zh75 := (zr74).trans (Zr.same (fun zq h1 => by rw [ze76, va_up_ne _ _ (show zq ≠ i by omega)]))
          have hGy := gby_of q1 q3 q4 q5 hLE (hof 0 (by omega))
          refine z_vret X E dX2_pass_162 (by omega) (by omega) ⟨cldR T tx m, w, ?_, ?_, ?_, ?_, ?_, ?_, ?_⟩
          · rfl
          · rfl
          · exact fun zq hzq zn0 zn1 zn2 => zl83 zq hzq zn0 zn1 zn2
          · exact zr84
          · rw [hGy, show upd (gbE len (mm, wt, st)) 0 (m 0 + 1) 1 = gbE len (mm, wt, st) 1 from pk_un (by omega), show upd (gbE len (mm, wt, st)) 0 (m 0 + 1) 2 = gbE len (mm, wt, st) 2 from pk_un (by omega), show upd (gbE len (mm, wt, st)) 0 (m 0 + 1) 3 = gbE len (mm, wt, st) 3 from pk_un (by omega), show upd (gbE len (mm, wt, st)) 0 (m 0 + 1) 0 = now + 1 from pk_us.trans (by rw [hn])]; exact zK77
          · rw [hGy, win_off (by omega)]; exact zK78
          · rw [hGy, win_off (by omega)]; exact zK79
        · have hib := ice_b (v := frT mm len nc c wt st (cldR T tx m)) hgx.2.1
          have hg2 : wt.toInt ≤ 9999 := hgx.2.2.1
          have hsb := stays_ok (ice := held (frT mm len nc c wt st (cldR T tx m)) 0 wt) hgx.2.1 hgx.2.2.1 hgx.2.2.2.1 hgx.2.2.2.2 hib.1 hib.2
          have hg3 : st.toInt ≤ 999999 := hgx.2.2.2.2
          have hm1 := hgx.1 c (by omega)
          refine z_iconst (v := 0) X dX2_pass_52 (by decide) ?_
          refine z_aload_n X 0 dX2_pass_53 rfl ?_
          refine z_iload X 4 dX2_pass_54 rfl ?_
          refine z_iload_n X 2 dX2_pass_56 rfl ?_
          refine z_iload_n X 3 dX2_pass_57 rfl ?_
          refine z_callV X (c_frozenAt (κ := κ) (n := n) (i := (i)) (len := (len)) (nc := (nc)) (m := (mm)) (cs := (cs)) (c := (c)) (w := (wt)) (s := (st)) (now := (now)) (dd := (dd)) (dr := (dr)) (on := (on)) (cold := (cldR T tx m)) (wind := (w)) zK31 zK32 zK35 (by first | assumption | omega) ((CsO.mono zr_39 hCs).row (fun z h1 h2 => hof z (by omega)) q5) (by omega) (by first | assumption | omega) (by first | assumption | omega) ((hof 0 (by omega)).trans hn) ((hof 10 (by omega)).trans hon) ((hof 7 (by omega)).trans hw)) mk_X2_frozenAt dX2_pass_58 wd_605 wd_607 wd_17 rfl zK31 rfl rfl rfl (Nat.le_of_ble_eq_true rfl) (Nat.le_of_ble_eq_true rfl) (Nat.le_of_ble_eq_true rfl) (by omega) (by omega) (fun q zh85 zm87 zp88 => ?_)
          obtain ⟨rfl, ze86, zn89⟩ := zp88
          subst zm87
          subst zh85
          refine z_st (st' := [.int (frT mm len nc c wt st (cldR T tx m)), .int 0]) rfl ?_
          refine z_iload_n X 2 dX2_pass_61 rfl ?_
          refine z_mmin X dX2_pass_62 wd_464 wd_296 wd_63 wd_297 (Nat.le_of_ble_eq_true rfl) (Nat.le_of_ble_eq_true rfl) (Nat.le_of_ble_eq_true rfl) (Nat.le_of_ble_eq_true rfl) ?_
          refine z_mmax X dX2_pass_65 wd_465 wd_173 wd_63 wd_174 (Nat.le_of_ble_eq_true rfl) (Nat.le_of_ble_eq_true rfl) (Nat.le_of_ble_eq_true rfl) (Nat.le_of_ble_eq_true rfl) ?_
          refine z_toe (y := held (frT mm len nc c wt st (cldR T tx m)) 0 wt) (held_mm (by rw [i_le, show (0 : Int32).toInt = 0 by decide]; exact hgx.2.1)) ?_
          refine z_istore (ls' := [(5, .int (held (frT mm len nc c wt st (cldR T tx m)) 0 wt)), (0, .ref i), (1, .int w), (2, .int wt), (3, .int st), (4, .int (nI c))]) X dX2_pass_68 (by decide) rfl ?_
          refine z_iload_n X 4 dX2_pass_70 rfl ?_
          refine z_i2l X dX2_pass_71 rfl ?_
          refine z_iload X 0 dX2_pass_72 rfl ?_
          refine z_i2l X dX2_pass_74 rfl ?_
          refine z_lmul X dX2_pass_75 ?_
          refine z_ldc2 X dX2_pass_76 wd_610 ?_
          refine z_iload_n X 3 dX2_pass_79 rfl ?_
          refine z_i2l X dX2_pass_80 rfl ?_
          refine z_lmul X dX2_pass_81 ?_
          refine z_ldiv X dX2_pass_82 (l2w_ne (wt_pos (by assumption))) ?_
          refine z_l2i X dX2_pass_83 rfl ?_
          refine z_toe (y := staysR wt st (held (frT mm len nc c wt st (cldR T tx m)) 0 wt)) (by rw [staysR, if_neg (wt_pos (by assumption))]) ?_
          refine z_istore (ls' := [(6, .int (staysR wt st (held (frT mm len nc c wt st (cldR T tx m)) 0 wt))), (5, .int (held (frT mm len nc c wt st (cldR T tx m)) 0 wt)), (0, .ref i), (1, .int w), (2, .int wt), (3, .int st), (4, .int (nI c))]) X dX2_pass_84 (by decide) rfl ?_
          refine z_aload_n X 2 dX2_pass_86 rfl ?_
          refine z_get X fl_X2_9_2 dX2_pass_87 zK31 rfl ?_
          refine z_iload X 6 dX2_pass_90 rfl ?_
          refine z_aload_n X 2 dX2_pass_92 rfl ?_
          refine z_get X fl_X2_9_2 dX2_pass_93 zK31 rfl ?_
          refine z_iload X 6 dX2_pass_96 rfl ?_
          refine z_iald2 (v := mm (100 + c)) X dX2_pass_98 zK32 (vp_in_nI (n := c) (by omega) (by omega)) ((congrArg (win 100 40 mm) (nI_clamp (n := c) (by omega))).trans (win_at (k := c) (by omega))) ?_
          refine z_iload X 1 dX2_pass_99 rfl ?_
          refine z_iadd X dX2_pass_101 ?_
          refine z_ldc X dX2_pass_102 wd_611 ?_
          refine z_mmin X dX2_pass_104 wd_464 wd_296 wd_63 wd_297 (Nat.le_of_ble_eq_true rfl) (Nat.le_of_ble_eq_true rfl) (Nat.le_of_ble_eq_true rfl) (Nat.le_of_ble_eq_true rfl) ?_
          refine z_toe (y := held (mm (100 + c) + held (frT mm len nc c wt st (cldR T tx m)) 0 wt) 0 99999) (min_held (add_nn hm1.1 (by omega) hib.1 (by omega)) (by decide)) ?_
          refine z_iast X dX2_pass_107 zK32 (vp_in_nI (n := c) (by omega) (by omega)) (congrArg (fun z => va_up hh39 (i + 1) (arI κ 40 (upd (win 100 40 mm) z (held (mm (100 + c) + held (frT mm len nc c wt st (cldR T tx m)) 0 wt) 0 99999)))) (nI_clamp (n := c) (by omega))) ?_
          obtain ⟨zh90, ze91⟩ : ∃ z : Mm, z = va_up hh39 (i + 1) (arI κ 40 (upd (win 100 40 mm) c (held (mm (100 + c) + held (frT mm len nc c wt st (cldR T tx m)) 0 wt) 0 99999))) := ⟨_, rfl⟩
          refine z_heap (h' := zh90) ze91.symm ?_
          have zK92 := up_off ze91 (show i ≠ i + 1 by omega) zK31
          have zK93 := up_at ze91
          have zK94 := up_off ze91 (show i + 2 ≠ i + 1 by omega) zK33
          have zK95 := up_off ze91 (show i + 3 ≠ i + 1 by omega) zK34
          have zK96 := up_off ze91 (show i + 4 ≠ i + 1 by omega) zK35
          have zK97 := up_off ze91 (show i + 5 ≠ i + 1 by omega) zK36
          have zl98 : ∀ zq : Nat, zq < zb → zq ≠ i → zq ≠ (i + 1) → zq ≠ (i + 2) → zh90 zq = h zq := by intro zq hzq zn0 zn1 zn2; rw [ze91, va_up_ne _ _ (show zq ≠ i + 1 by omega)]; exact zl_39 zq hzq zn0 zn1 zn2
          have zr99 : Zr κ zb h zh90 := (zr_39).trans (Zr.same (fun zq h1 => by rw [ze91, va_up_ne _ _ (show zq ≠ i + 1 by omega)]))
          refine z_aload_n X 2 dX2_pass_108 rfl ?_
          refine z_get X fl_X2_15_2 dX2_pass_109 zK92 rfl ?_
          refine z_iload X 6 dX2_pass_112 rfl ?_
          refine z_aload_n X 2 dX2_pass_114 rfl ?_
          refine z_get X fl_X2_15_2 dX2_pass_115 zK92 rfl ?_
          refine z_iload X 6 dX2_pass_118 rfl ?_
          refine z_iald2 (v := mm (140 + c)) X dX2_pass_120 zK94 (vp_in_nI (n := c) (by omega) (by omega)) ((congrArg (win 140 40 mm) (nI_clamp (n := c) (by omega))).trans (win_at (k := c) (by omega))) ?_
          refine z_iload X 0 dX2_pass_121 rfl ?_
          refine z_iadd X dX2_pass_123 ?_
          refine z_ldc X dX2_pass_124 wd_612 ?_
          refine z_mmin X dX2_pass_126 wd_464 wd_296 wd_63 wd_297 (Nat.le_of_ble_eq_true rfl) (Nat.le_of_ble_eq_true rfl) (Nat.le_of_ble_eq_true rfl) (Nat.le_of_ble_eq_true rfl) ?_
          refine z_toe (y := held (mm (140 + c) + staysR wt st (held (frT mm len nc c wt st (cldR T tx m)) 0 wt)) 0 999999) (min_held (add_nn hm1.2.2.1 (by omega) hsb.1 (by omega)) (by decide)) ?_
          refine z_iast X dX2_pass_129 zK94 (vp_in_nI (n := c) (by omega) (by omega)) (congrArg (fun z => va_up zh90 (i + 2) (arI κ 40 (upd (win 140 40 mm) z (held (mm (140 + c) + staysR wt st (held (frT mm len nc c wt st (cldR T tx m)) 0 wt)) 0 999999)))) (nI_clamp (n := c) (by omega))) ?_
          obtain ⟨zh100, ze101⟩ : ∃ z : Mm, z = va_up zh90 (i + 2) (arI κ 40 (upd (win 140 40 mm) c (held (mm (140 + c) + staysR wt st (held (frT mm len nc c wt st (cldR T tx m)) 0 wt)) 0 999999))) := ⟨_, rfl⟩
          refine z_heap (h' := zh100) ze101.symm ?_
          have zK102 := up_off ze101 (show i ≠ i + 2 by omega) zK92
          have zK103 := up_off ze101 (show i + 1 ≠ i + 2 by omega) zK93
          have zK104 := up_at ze101
          have zK105 := up_off ze101 (show i + 3 ≠ i + 2 by omega) zK95
          have zK106 := up_off ze101 (show i + 4 ≠ i + 2 by omega) zK96
          have zK107 := up_off ze101 (show i + 5 ≠ i + 2 by omega) zK97
          have zl108 : ∀ zq : Nat, zq < zb → zq ≠ i → zq ≠ (i + 1) → zq ≠ (i + 2) → zh100 zq = h zq := by intro zq hzq zn0 zn1 zn2; rw [ze101, va_up_ne _ _ (show zq ≠ i + 2 by omega)]; exact zl98 zq hzq zn0 zn1 zn2
          have zr109 : Zr κ zb h zh100 := (zr99).trans (Zr.same (fun zq h1 => by rw [ze101, va_up_ne _ _ (show zq ≠ i + 2 by omega)]))
          refine z_iload_n X 4 dX2_pass_130 rfl ?_
          refine z_iload X 1 dX2_pass_131 rfl ?_
          refine z_isub X dX2_pass_133 ?_
          refine z_istore_n (ls' := [(2, .int (wt - (held (frT mm len nc c wt st (cldR T tx m)) 0 wt))), (6, .int (staysR wt st (held (frT mm len nc c wt st (cldR T tx m)) 0 wt))), (5, .int (held (frT mm len nc c wt st (cldR T tx m)) 0 wt)), (0, .ref i), (1, .int w), (3, .int st), (4, .int (nI c))]) X dX2_pass_134 (by decide) rfl ?_
          refine z_iload_n X 5 dX2_pass_135 rfl ?_
          refine z_iload X 1 dX2_pass_136 rfl ?_
          refine z_isub X dX2_pass_138 ?_
          refine z_istore_n (ls' := [(3, .int (st - (staysR wt st (held (frT mm len nc c wt st (cldR T tx m)) 0 wt)))), (2, .int (wt - (held (frT mm len nc c wt st (cldR T tx m)) 0 wt))), (6, .int (staysR wt st (held (frT mm len nc c wt st (cldR T tx m)) 0 wt))), (5, .int (held (frT mm len nc c wt st (cldR T tx m)) 0 wt)), (0, .ref i), (1, .int w), (4, .int (nI c))]) X dX2_pass_139 (by decide) rfl ?_
          refine z_iinc (v := nI (c + 1)) (ls' := [(4, .int (nI (c + 1))), (3, .int (st - (staysR wt st (held (frT mm len nc c wt st (cldR T tx m)) 0 wt)))), (2, .int (wt - (held (frT mm len nc c wt st (cldR T tx m)) 0 wt))), (6, .int (staysR wt st (held (frT mm len nc c wt st (cldR T tx m)) 0 wt))), (5, .int (held (frT mm len nc c wt st (cldR T tx m)) 0 wt)), (0, .ref i), (1, .int w)]) X 6 dX2_pass_140 rfl (nI_1 (c)) (by decide) rfl ?_
          refine z_goto X 39 dX2_pass_143 (by decide) ?_
          refine z_sub (ls' := [(0, .ref i), (1, .int w), (2, .int (wt - (held (frT mm len nc c wt st (cldR T tx m)) 0 wt))), (3, .int (st - (staysR wt st (held (frT mm len nc c wt st (cldR T tx m)) 0 wt)))), (4, .int (nI (c + 1)))]) [5, 6, 2, 1, 0] rfl ?_
          exact ih39 zh100 (c + 1) (upd (upd mm (100 + c) (held (mm (100 + c) + held (frT mm len nc c wt st (cldR T tx m)) 0 wt) 0 99999)) (140 + c) (held (mm (140 + c) + staysR wt st (held (frT mm len nc c wt st (cldR T tx m)) 0 wt)) 0 999999)) (wt - (held (frT mm len nc c wt st (cldR T tx m)) 0 wt)) (st - (staysR wt st (held (frT mm len nc c wt st (cldR T tx m)) 0 wt))) (by omega) (by exact fun zq hzq zn0 zn1 zn2 => zl108 zq hzq zn0 zn1 zn2) (zr109) (by exact zK102) (by rw [win_off (by omega), win_us (by omega)]; exact zK103) (by rw [win_us (by omega), win_off (by omega)]; exact zK104) (by first | assumption | rfl | omega) (by exact gbL_s hL rfl)
  refine z_sub (ls' := [(0, .ref i), (1, .int w), (2, .int (watR T tx m)), (3, .int ((watR T tx m) * (m 5))), (4, .int 0)]) [3, 4, 2, 1, 0] rfl ?_
  exact L39 _ zh16 0 m (watR T tx m) ((watR T tx m) * (m 5)) (Nat.lt_succ_self _) (by exact fun zq hzq zn0 zn1 zn2 => zl29 zq hzq zn0) (zr30) (by exact zK28) (by exact zK23) (by exact zK24) (by first | assumption | rfl | omega) (by rfl)
set_option maxHeartbeats 4000000 in
set_option maxRecDepth 100000 in
theorem c_go {κ : Wc} {l : Launch} {h : Mm} {n : Nat} {i : Nat} {len : Nat} {nc : Nat} {zb : Nat} {v : Nat} {m : Nat → Int32} {ts : Nat → Option Nat} {cs : Nat → Option Nat} {T : Nat → Nat → Int32} {tx : Nat → Nat} {cold : Int32} {wind : Int32} (K0 : h i = some (.inr (2, [.ref (i + 1), .ref (i + 2), .ref (i + 3), .ref (i + 4), .ref (i + 5), .int (nI len), .int (m 0), .int (m 2), .int (m 3), .int (nI nc), .int (m 10), .int cold, .int wind]))) (K1 : h (i + 1) = arI κ 40 (win 100 40 m)) (K2 : h (i + 2) = arI κ 40 (win 140 40 m)) (K3 : h (i + 3) = arI κ 6 (win 4 6 m)) (K4 : h (i + 4) = arR κ 1 6 cs) (K5 : h (i + 5) = arR κ 2 2 ts) (hz : i + 5 < zb) (hTs : TsO κ zb h ts T tx) (hCs : CsO zb h cs m nc) (q1 : m 1 = nI len) (q2 : 1 ≤ len) (q3 : len ≤ 40) (q4 : m 11 = nI nc) (q5 : nc ≤ 6) (hS : wfS m) (hC : wfC m) (q6 : v ≤ 100) : Con κ l yX2_go cX2_go 3 none 11 0 0 [.ref i, .int (nI v)] h n (fun q h' n' => ∃ cold' : Int32, ∃ wind' : Int32, q = none ∧ n' = n ∧ (∀ zq : Nat, zq < zb → zq ≠ i → zq ≠ (i + 1) → zq ≠ (i + 2) → h' zq = h zq) ∧ Zr κ zb h h' ∧ h' i = some (.inr (2, [.ref (i + 1), .ref (i + 2), .ref (i + 3), .ref (i + 4), .ref (i + 5), .int (nI (lnO (gbyN T tx v m))), .int ((gbyN T tx v m) 0), .int ((gbyN T tx v m) 2), .int ((gbyN T tx v m) 3), .int (nI nc), .int (m 10), .int cold', .int wind'])) ∧ h' (i + 1) = arI κ 40 (win 100 40 (gbyN T tx v m)) ∧ h' (i + 2) = arI κ 40 (win 140 40 (gbyN T tx v m))) := by
  refine Con.of mk_X2_go (Nat.le_of_ble_eq_true rfl) (fun G hG X E => ?_)
  subst hG
  refine z_ls (ls' := [(0, .ref i), (1, .int (nI v))]) rfl ?_
  have hOk : lnOk m := lnOk_of q1 q2 q3
  refine z_iconst (v := 0) X dX2_go_0 (by decide) ?_
  refine z_istore_n (ls' := [(2, .int 0), (0, .ref i), (1, .int (nI v))]) X dX2_go_1 (by decide) rfl ?_
  have L2 : ∀ (jj : Nat) (hh2 : Mm) (k : Nat) (cold3 : Int32) (wind3 : Int32), (v - k < jj) → (∀ zq : Nat, zq < zb → zq ≠ i → zq ≠ (i + 1) → zq ≠ (i + 2) → hh2 zq = h zq) → Zr κ zb h hh2 → hh2 i = some (.inr (2, [.ref (i + 1), .ref (i + 2), .ref (i + 3), .ref (i + 4), .ref (i + 5), .int (nI (lnO (gbyN T tx k m))), .int ((gbyN T tx k m) 0), .int ((gbyN T tx k m) 2), .int ((gbyN T tx k m) 3), .int (nI nc), .int (m 10), .int cold3, .int wind3])) → hh2 (i + 1) = arI κ 40 (win 100 40 (gbyN T tx k m)) → hh2 (i + 2) = arI κ 40 (win 140 40 (gbyN T tx k m)) → (hk : k ≤ v) → Z κ G 3 2 [(0, .ref i), (1, .int (nI v)), (2, .int (nI k))] [] hh2 n 0 (0) := by
    intro jj
    induction jj with
    | zero => intro hh2 k cold3 wind3 hmu; exact absurd hmu (Nat.not_lt_zero _)
    | succ jj ih2 =>
      intro hh2 k cold3 wind3 hmu zl_2 zr_2 zK1 zK2 zK3 hk
      have zK4 : hh2 (i + 3) = arI κ 6 (win 4 6 m) := (zl_2 (i + 3) (by omega) (by omega) (by omega) (by omega)).trans K3
      have zK5 : hh2 (i + 4) = arR κ 1 6 cs := (zl_2 (i + 4) (by omega) (by omega) (by omega) (by omega)).trans K4
      have zK6 : hh2 (i + 5) = arR κ 2 2 ts := (zl_2 (i + 5) (by omega) (by omega) (by omega) (by omega)).trans K5
      refine z_iload_n X 2 dX2_go_2 rfl ?_
      refine z_iload_n X 1 dX2_go_3 rfl ?_
      refine z_icmp_ge X 23 dX2_go_4 (by decide) (fun zc7 => ?_) (fun zc7 => ?_)
      · try replace zc7 := (nI_leI (a := v) (b := k) (by omega) (by omega)).mp zc7
        have hkv : k = v := by omega
        subst hkv
        refine z_vret X E dX2_go_23 (by omega) (by omega) ⟨cold3, wind3, ?_, ?_, ?_, ?_, ?_, ?_, ?_⟩
        · rfl
        · rfl
        · exact fun zq hzq zn0 zn1 zn2 => zl_2 zq hzq zn0 zn1 zn2
        · exact zr_2
        · exact zK1
        · exact zK2
        · exact zK3
      · try replace zc7 := mt (nI_leI (a := v) (b := k) (by omega) (by omega)).mpr zc7
        refine z_aload_n X 0 dX2_go_7 rfl ?_
        refine z_aload_n X 0 dX2_go_8 rfl ?_
        refine z_get X fl_X2_18_2 dX2_go_9 zK1 rfl ?_
        refine z_iconst (v := 3) X dX2_go_12 (by decide) ?_
        refine z_iald2 (v := m 7) X dX2_go_13 zK4 (vp_in_nI (n := 3) (by omega) (by omega)) ((congrArg (win 4 6 m) (nI_clamp (n := 3) (by omega))).trans (win_at (k := 3) (by omega))) ?_
        refine z_toe (y := (gbyN T tx k m) 7) ((gbyN_off (T := T) (tx := tx) hOk (by omega) k).symm) ?_
        refine z_callV X (c_pass (κ := κ) (n := n) (i := (i)) (len := (lnO (gbyN T tx k m))) (nc := (nc)) (m := (gbyN T tx k m)) (ts := (ts)) (cs := (cs)) (T := (T)) (tx := (tx)) (s7 := ((gbyN T tx k m) 7)) (w := ((gbyN T tx k m) 7)) (now := ((gbyN T tx k m) 0)) (dd := ((gbyN T tx k m) 2)) (dr := ((gbyN T tx k m) 3)) (on := (m 10)) (cold := (cold3)) (wind := (wind3)) zK1 zK2 zK3 ((zK4).trans (congrArg (arI κ 6) ((win_ext (fun z hz => ((fun {zz} hq => gbyN_off (T := T) (tx := tx) (m := m) (q := zz) hOk hq k) (by omega)).symm)).trans (win_self (m := gbyN T tx k m) (show 3 < 6 by omega)).symm))) zK5 zK6 (by first | assumption | omega) (TsO.mono zr_2 hTs) ((CsO.mono zr_2 hCs).row (fun z h1 h2 => (fun {zz} hq => gbyN_off (T := T) (tx := tx) (m := m) (q := zz) hOk hq k) (by omega)) q5) ((gbyN_ok (T := T) (tx := tx) hOk k).1) ((gbyN_ok (T := T) (tx := tx) hOk k).2.1) ((gbyN_ok (T := T) (tx := tx) hOk k).2.2) (((fun {zz} hq => gbyN_off (T := T) (tx := tx) (m := m) (q := zz) hOk hq k) (by omega)).trans q4) (by first | assumption | omega) (rfl) ((fun {zz} hq => gbyN_off (T := T) (tx := tx) (m := m) (q := zz) hOk hq k) (by omega)) (rfl) (rfl) (rfl) ((wf_gbyN (T := T) (tx := tx) hOk hS hC k).1) ((wf_gbyN (T := T) (tx := tx) hOk hS hC k).2)) mk_X2_pass dX2_go_14 wd_600 wd_601 wd_602 rfl zK1 rfl rfl rfl (Nat.le_of_ble_eq_true rfl) (Nat.le_of_ble_eq_true rfl) (Nat.le_of_ble_eq_true rfl) (by omega) (by omega) (fun q zh10 zm12 zp13 => ?_)
        obtain ⟨cold'8, wind'9, rfl, zn14, zf15, zr16, zK17, zK18, zK19⟩ := zp13
        subst zm12
        refine z_st (st' := []) rfl ?_
        have zK20 : zh10 (i + 3) = arI κ 6 (win 4 6 m) := (zf15 (i + 3) (by omega) (by omega) (by omega) (by omega)).trans zK4
        have zK21 : zh10 (i + 4) = arR κ 1 6 cs := (zf15 (i + 4) (by omega) (by omega) (by omega) (by omega)).trans zK5
        have zK22 : zh10 (i + 5) = arR κ 2 2 ts := (zf15 (i + 5) (by omega) (by omega) (by omega) (by omega)).trans zK6
        have zl23 : ∀ zq : Nat, zq < zb → zq ≠ i → zq ≠ (i + 1) → zq ≠ (i + 2) → zh10 zq = h zq := by intro zq hzq zn0 zn1 zn2; rw [zf15 zq (by omega) (by omega) (by omega) (by omega)]; exact zl_2 zq hzq zn0 zn1 zn2
        have zr24 : Zr κ zb h zh10 := (zr_2).trans zr16
        refine z_iinc (v := nI (k + 1)) (ls' := [(2, .int (nI (k + 1))), (0, .ref i), (1, .int (nI v))]) X 2 dX2_go_17 rfl (nI_1 (k)) (by decide) rfl ?_
        refine z_goto X 2 dX2_go_20 (by decide) ?_
        refine z_sub (ls' := [(0, .ref i), (1, .int (nI v)), (2, .int (nI (k + 1)))]) [1, 2, 0] rfl ?_
        exact ih2 zh10 (k + 1) cold'8 wind'9 (by omega) (by exact fun zq hzq zn0 zn1 zn2 => zl23 zq hzq zn0 zn1 zn2) (zr24) (by rw [← (gbyN_ok (T := T) (tx := tx) hOk (k + 1)).1]; exact zK17) (by exact zK18) (by exact zK19) (by first | assumption | rfl | omega)
  refine z_sub (ls' := [(0, .ref i), (1, .int (nI v)), (2, .int 0)]) [1, 2, 0] rfl ?_
  exact L2 _ h 0 cold wind (Nat.lt_succ_self _) (by exact fun zq hzq zn0 zn1 zn2 => rfl) (Zr.refl) (by rw [show lnO (gbyN T tx 0 m) = len from lnO_of q1 q3]; exact K0) (by exact K1) (by exact K2) (by first | assumption | rfl | omega)
theorem brkF_end {T : Nat → Nat → Int32} {tx : Nat → Nat} {v i : Nat} {m : Nat → Int32} (hi : i = v) (h : ¬ m 9 < massR m (lnO m)) : brkF T tx (v + 1 - i) i m = none := by
  subst hi
  rw [show i + 1 - i = 0 + 1 by omega]
  exact if_neg h
set_option maxHeartbeats 4000000 in
set_option maxRecDepth 100000 in
theorem c_hangs {κ : Wc} {l : Launch} {h : Mm} {n : Nat} {i : Nat} {len : Nat} {nc : Nat} {zb : Nat} {v : Nat} {m : Nat → Int32} {ts : Nat → Option Nat} {cs : Nat → Option Nat} {T : Nat → Nat → Int32} {tx : Nat → Nat} {cold : Int32} {wind : Int32} (K0 : h i = some (.inr (2, [.ref (i + 1), .ref (i + 2), .ref (i + 3), .ref (i + 4), .ref (i + 5), .int (nI len), .int (m 0), .int (m 2), .int (m 3), .int (nI nc), .int (m 10), .int cold, .int wind]))) (K1 : h (i + 1) = arI κ 40 (win 100 40 m)) (K2 : h (i + 2) = arI κ 40 (win 140 40 m)) (K3 : h (i + 3) = arI κ 6 (win 4 6 m)) (K4 : h (i + 4) = arR κ 1 6 cs) (K5 : h (i + 5) = arR κ 2 2 ts) (hz : i + 5 < zb) (hTs : TsO κ zb h ts T tx) (hCs : CsO zb h cs m nc) (q1 : m 1 = nI len) (q2 : 1 ≤ len) (q3 : len ≤ 40) (q4 : m 11 = nI nc) (q5 : nc ≤ 6) (hS : wfS m) (hC : wfC m) (q6 : v ≤ 100) : Con κ l yX2_hangsNotAfter cX2_hangsNotAfter 3 (some .int) 11 0 0 [.ref i, .int (nI v)] h n (fun q h' n' => ∃ ln' : Int32, ∃ nw' : Int32, ∃ dd' : Int32, ∃ dr' : Int32, ∃ cc' : Int32, ∃ on' : Int32, ∃ cold' : Int32, ∃ wind' : Int32, ∃ e1' : Nat → Int32, ∃ e2' : Nat → Int32, q = some (.int (faI (brkF T tx (v + 1) 0 m))) ∧ n' = n ∧ (∀ zq : Nat, zq < zb → zq ≠ i → zq ≠ (i + 1) → zq ≠ (i + 2) → h' zq = h zq) ∧ Zr κ zb h h' ∧ h' i = some (.inr (2, [.ref (i + 1), .ref (i + 2), .ref (i + 3), .ref (i + 4), .ref (i + 5), .int ln', .int nw', .int dd', .int dr', .int cc', .int on', .int cold', .int wind'])) ∧ h' (i + 1) = arI κ 40 e1' ∧ h' (i + 2) = arI κ 40 e2') := by
  refine Con.of mk_X2_hangsNotAfter (Nat.le_of_ble_eq_true rfl) (fun G hG X E => ?_)
  subst hG
  refine z_ls (ls' := [(0, .ref i), (1, .int (nI v))]) rfl ?_
  have hOk : lnOk m := lnOk_of q1 q2 q3
  refine z_iconst (v := 0) X dX2_hangsNotAfter_0 (by decide) ?_
  refine z_istore_n (ls' := [(2, .int 0), (0, .ref i), (1, .int (nI v))]) X dX2_hangsNotAfter_1 (by decide) rfl ?_
  have L2 : ∀ (jj : Nat) (hh2 : Mm) (k : Nat) (mm : Nat → Int32) (cold3 : Int32) (wind3 : Int32), (v + 1 - k < jj) → (∀ zq : Nat, zq < zb → zq ≠ i → zq ≠ (i + 1) → zq ≠ (i + 2) → hh2 zq = h zq) → Zr κ zb h hh2 → hh2 i = some (.inr (2, [.ref (i + 1), .ref (i + 2), .ref (i + 3), .ref (i + 4), .ref (i + 5), .int (nI (lnO mm)), .int (mm 0), .int (mm 2), .int (mm 3), .int (nI nc), .int (m 10), .int cold3, .int wind3])) → hh2 (i + 1) = arI κ 40 (win 100 40 mm) → hh2 (i + 2) = arI κ 40 (win 140 40 mm) → (hk : k ≤ v + 1) → (hmk : lnOk mm) → (hwf : wfS mm ∧ wfC mm) → (hoff : ∀ {z : Nat}, (4 ≤ z ∧ z < 100 ∨ 180 ≤ z) → mm z = m z) → (hR : brkF T tx (v + 1) 0 m = brkF T tx (v + 1 - k) k mm) → Z κ G 3 2 [(0, .ref i), (1, .int (nI v)), (2, .int (nI k))] [] hh2 n 0 (0) := by
    intro jj
    induction jj with
    | zero => intro hh2 k mm cold3 wind3 hmu; exact absurd hmu (Nat.not_lt_zero _)
    | succ jj ih2 =>
      intro hh2 k mm cold3 wind3 hmu zl_2 zr_2 zK1 zK2 zK3 hk hmk hwf hoff hR
      have zK4 : hh2 (i + 3) = arI κ 6 (win 4 6 m) := (zl_2 (i + 3) (by omega) (by omega) (by omega) (by omega)).trans K3
      have zK5 : hh2 (i + 4) = arR κ 1 6 cs := (zl_2 (i + 4) (by omega) (by omega) (by omega) (by omega)).trans K4
      have zK6 : hh2 (i + 5) = arR κ 2 2 ts := (zl_2 (i + 5) (by omega) (by omega) (by omega) (by omega)).trans K5
      refine z_iload_n X 2 dX2_hangsNotAfter_2 rfl ?_
      refine z_iload_n X 1 dX2_hangsNotAfter_3 rfl ?_
      refine z_icmp_gt X 43 dX2_hangsNotAfter_4 (by decide) (fun zc7 => ?_) (fun zc7 => ?_)
      · try replace zc7 := (nI_ltI (a := v) (b := k) (by omega) (by omega)).mp zc7
        refine z_iconst (v := -1) X dX2_hangsNotAfter_43 (by decide) ?_
        refine z_iret X E dX2_hangsNotAfter_44 (by omega) (by omega) ⟨(nI (lnO mm)), (mm 0), (mm 2), (mm 3), (nI nc), (m 10), cold3, wind3, (win 100 40 mm), (win 140 40 mm), ?_, ?_, ?_, ?_, ?_, ?_, ?_⟩
        · rw [hR, show v + 1 - k = 0 by omega]; first | done | rfl
        · rfl
        · exact fun zq hzq zn0 zn1 zn2 => zl_2 zq hzq zn0 zn1 zn2
        · exact zr_2
        · exact zK1
        · exact zK2
        · exact zK3
      · try replace zc7 := mt (nI_ltI (a := v) (b := k) (by omega) (by omega)).mpr zc7
        refine z_aload_n X 0 dX2_hangsNotAfter_7 rfl ?_
        refine z_callV X (c_massOfAll (κ := κ) (n := n) (i := (i)) (len := (lnO mm)) (m := (mm)) (now := (mm 0)) (dd := (mm 2)) (dr := (mm 3)) (cc := (nI nc)) (on := (m 10)) (cold := (cold3)) (wind := (wind3)) zK1 zK2 zK3 (hmk.2.2)) mk_X2_massOfAll dX2_hangsNotAfter_8 wd_702 wd_632 wd_633 rfl zK1 rfl rfl rfl (Nat.le_of_ble_eq_true rfl) (Nat.le_of_ble_eq_true rfl) (Nat.le_of_ble_eq_true rfl) (by omega) (by omega) (fun q zh8 zm10 zp11 => ?_)
        obtain ⟨rfl, ze9, zn12⟩ := zp11
        subst zm10
        subst zh8
        refine z_st (st' := [.int (massR mm (lnO mm))]) rfl ?_
        refine z_aload_n X 0 dX2_hangsNotAfter_11 rfl ?_
        refine z_get X fl_X2_18_2 dX2_hangsNotAfter_12 zK1 rfl ?_
        refine z_iconst (v := 5) X dX2_hangsNotAfter_15 (by decide) ?_
        refine z_iald2 (v := m 9) X dX2_hangsNotAfter_16 zK4 (vp_in_nI (n := 5) (by omega) (by omega)) ((congrArg (win 4 6 m) (nI_clamp (n := 5) (by omega))).trans (win_at (k := 5) (by omega))) ?_
        refine z_toe (y := mm 9) ((hoff (by omega)).symm) ?_
        refine z_icmp_le X 22 dX2_hangsNotAfter_17 (by decide) (fun zc13 => ?_) (fun zc13 => ?_)
        · have hbr := Int32.not_lt.mpr zc13
          refine z_iload_n X 2 dX2_hangsNotAfter_22 rfl ?_
          refine z_iload_n X 1 dX2_hangsNotAfter_23 rfl ?_
          refine z_icmp_ge X 37 dX2_hangsNotAfter_24 (by decide) (fun zc14 => ?_) (fun zc14 => ?_)
          · try replace zc14 := (nI_leI (a := v) (b := k) (by omega) (by omega)).mp zc14
            refine z_iinc (v := nI (k + 1)) (ls' := [(2, .int (nI (k + 1))), (0, .ref i), (1, .int (nI v))]) X 2 dX2_hangsNotAfter_37 rfl (nI_1 (k)) (by decide) rfl ?_
            refine z_goto X 2 dX2_hangsNotAfter_40 (by decide) ?_
            refine z_sub (ls' := [(0, .ref i), (1, .int (nI v)), (2, .int (nI (k + 1)))]) [1, 2, 0] rfl ?_
            exact ih2 hh2 (k + 1) mm cold3 wind3 (by omega) (by exact fun zq hzq zn0 zn1 zn2 => zl_2 zq hzq zn0 zn1 zn2) (zr_2) (by exact zK1) (by exact zK2) (by exact zK3) (by first | assumption | rfl | omega) (by exact hmk) (by exact hwf) (by exact hoff) (by rw [hR, brkF_end (by omega) hbr, show v + 1 - (k + 1) = 0 by omega]; rfl)
          · try replace zc14 := mt (nI_leI (a := v) (b := k) (by omega) (by omega)).mpr zc14
            refine z_aload_n X 0 dX2_hangsNotAfter_27 rfl ?_
            refine z_aload_n X 0 dX2_hangsNotAfter_28 rfl ?_
            refine z_get X fl_X2_18_2 dX2_hangsNotAfter_29 zK1 rfl ?_
            refine z_iconst (v := 3) X dX2_hangsNotAfter_32 (by decide) ?_
            refine z_iald2 (v := m 7) X dX2_hangsNotAfter_33 zK4 (vp_in_nI (n := 3) (by omega) (by omega)) ((congrArg (win 4 6 m) (nI_clamp (n := 3) (by omega))).trans (win_at (k := 3) (by omega))) ?_
            refine z_toe (y := mm 7) ((hoff (by omega)).symm) ?_
            refine z_callV X (c_pass (κ := κ) (n := n) (i := (i)) (len := (lnO (mm))) (nc := (nc)) (m := (mm)) (ts := (ts)) (cs := (cs)) (T := (T)) (tx := (tx)) (s7 := (mm 7)) (w := (mm 7)) (now := (mm 0)) (dd := (mm 2)) (dr := (mm 3)) (on := (m 10)) (cold := (cold3)) (wind := (wind3)) zK1 zK2 zK3 ((zK4).trans (congrArg (arI κ 6) ((win_ext (fun z hz => (hoff (by omega)).symm)).trans (win_self (m := mm) (show 3 < 6 by omega)).symm))) zK5 zK6 (by first | assumption | omega) (TsO.mono zr_2 hTs) ((CsO.mono zr_2 hCs).row (fun z h1 h2 => hoff (by omega)) q5) ((hmk).1) ((hmk).2.1) ((hmk).2.2) ((hoff (by omega)).trans q4) (by first | assumption | omega) (rfl) (hoff (by omega)) (rfl) (rfl) (rfl) ((hwf).1) ((hwf).2)) mk_X2_pass dX2_hangsNotAfter_34 wd_600 wd_601 wd_602 rfl zK1 rfl rfl rfl (Nat.le_of_ble_eq_true rfl) (Nat.le_of_ble_eq_true rfl) (Nat.le_of_ble_eq_true rfl) (by omega) (by omega) (fun q zh17 zm19 zp20 => ?_)
            obtain ⟨cold'15, wind'16, rfl, zn21, zf22, zr23, zK24, zK25, zK26⟩ := zp20
            subst zm19
            refine z_st (st' := []) rfl ?_
            have zK27 : zh17 (i + 3) = arI κ 6 (win 4 6 m) := (zf22 (i + 3) (by omega) (by omega) (by omega) (by omega)).trans zK4
            have zK28 : zh17 (i + 4) = arR κ 1 6 cs := (zf22 (i + 4) (by omega) (by omega) (by omega) (by omega)).trans zK5
            have zK29 : zh17 (i + 5) = arR κ 2 2 ts := (zf22 (i + 5) (by omega) (by omega) (by omega) (by omega)).trans zK6
            have zl30 : ∀ zq : Nat, zq < zb → zq ≠ i → zq ≠ (i + 1) → zq ≠ (i + 2) → zh17 zq = h zq := by intro zq hzq zn0 zn1 zn2; rw [zf22 zq (by omega) (by omega) (by omega) (by omega)]; exact zl_2 zq hzq zn0 zn1 zn2
            have zr31 : Zr κ zb h zh17 := (zr_2).trans zr23
            skip
            refine z_iinc (v := nI (k + 1)) (ls' := [(2, .int (nI (k + 1))), (0, .ref i), (1, .int (nI v))]) X 2 dX2_hangsNotAfter_37 rfl (nI_1 (k)) (by decide) rfl ?_
            refine z_goto X 2 dX2_hangsNotAfter_40 (by decide) ?_
            refine z_sub (ls' := [(0, .ref i), (1, .int (nI v)), (2, .int (nI (k + 1)))]) [1, 2, 0] rfl ?_
            exact ih2 zh17 (k + 1) (gby T tx mm) cold'15 wind'16 (by omega) (by exact fun zq hzq zn0 zn1 zn2 => zl30 zq hzq zn0 zn1 zn2) (zr31) (by rw [← (lnOk_gby (T := T) (tx := tx) hmk).1]; exact zK24) (by exact zK25) (by exact zK26) (by first | assumption | rfl | omega) (by exact lnOk_gby hmk) (by exact ⟨wfS_gby hmk hwf.1, wfC_gby hmk hwf.1 hwf.2⟩) (by intro z hz; exact (gby_off hmk.1 hmk.2.2 hz).trans (hoff hz)) (by rw [hR]; exact brkF_go (by omega) hbr)
        · have hbr := Int32.not_le.mp zc13
          refine z_iload_n X 2 dX2_hangsNotAfter_20 rfl ?_
          refine z_iret X E dX2_hangsNotAfter_21 (by omega) (by omega) ⟨(nI (lnO mm)), (mm 0), (mm 2), (mm 3), (nI nc), (m 10), cold3, wind3, (win 100 40 mm), (win 140 40 mm), ?_, ?_, ?_, ?_, ?_, ?_, ?_⟩
          · rw [hR, brkF_hit (by omega) hbr]; first | done | rfl
          · rfl
          · exact fun zq hzq zn0 zn1 zn2 => zl_2 zq hzq zn0 zn1 zn2
          · exact zr_2
          · exact zK1
          · exact zK2
          · exact zK3
  refine z_sub (ls' := [(0, .ref i), (1, .int (nI v)), (2, .int 0)]) [1, 2, 0] rfl ?_
  exact L2 _ h 0 m cold wind (Nat.lt_succ_self _) (by exact fun zq hzq zn0 zn1 zn2 => rfl) (Zr.refl) (by rw [lnO_of q1 q3]; exact K0) (by exact K1) (by exact K2) (by first | assumption | rfl | omega) (by exact hOk) (by exact ⟨hS, hC⟩) (by intro z _; rfl) (by rfl)
