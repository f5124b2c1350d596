theorem nI3 (nb : Nat) : nI (3 * nb + 1 + 1 + 1) = nI (3 * (nb + 1)) := congrArg nI (by omega)
theorem dBox_0 {d : Nat → Int32} {nb : Nat} {c w s : Int32} (h : -50 ≤ c.toInt ∧ c.toInt ≤ 99 ∧ 0 ≤ w.toInt ∧ w.toInt ≤ 99 ∧ 0 ≤ s.toInt ∧ s.toInt ≤ 99) (hb : ¬ nb = 5) : dBox d nb c w s = upd (upd (upd (upd d (40 + 3 * nb) c) (40 + 3 * nb + 1) w) (40 + 3 * nb + 2) s) 12 (nI (nb + 1)) ∧ opBox nb c w s = (0, nI nb) := ⟨(if_neg (fun q => q h)).trans (if_neg hb), (if_neg (fun q => q h)).trans (if_neg hb)⟩
theorem dBox_e {d : Nat → Int32} {nb : Nat} {c w s : Int32} (h : ¬ (-50 ≤ c.toInt ∧ c.toInt ≤ 99 ∧ 0 ≤ w.toInt ∧ w.toInt ≤ 99 ∧ 0 ≤ s.toInt ∧ s.toInt ≤ 99)) : dBox d nb c w s = d ∧ opBox nb c w s = (1, 0) := ⟨if_pos h, if_pos h⟩
theorem dBox_f {d : Nat → Int32} {nb : Nat} {c w s : Int32} (h : -50 ≤ c.toInt ∧ c.toInt ≤ 99 ∧ 0 ≤ w.toInt ∧ w.toInt ≤ 99 ∧ 0 ≤ s.toInt ∧ s.toInt ≤ 99) (hb : nb = 5) : dBox d nb c w s = d ∧ opBox nb c w s = (4, 0) := ⟨(if_neg (fun q => q h)).trans (if_pos hb), (if_neg (fun q => q h)).trans (if_pos hb)⟩
theorem mayB_2 {v : Int32} : mayB 2 v ↔ -50 ≤ v.toInt ∧ v.toInt ≤ 99 := by
  unfold mayB
  rw [show (2 : Int32).toInt = 2 by decide]
  omega
theorem mayB_3 {v : Int32} : mayB 3 v ↔ 0 ≤ v.toInt ∧ v.toInt ≤ 99 := by
  unfold mayB
  rw [show (3 : Int32).toInt = 3 by decide]
  omega
theorem mayB_1 {v : Int32} : mayB 1 v ↔ 0 ≤ v.toInt ∧ v.toInt ≤ 99 := by
  unfold mayB
  rw [show (1 : Int32).toInt = 1 by decide]
  omega
set_option maxHeartbeats 4000000 in
set_option maxRecDepth 100000 in
theorem p_box {κ : Wc} {l : Launch} {h : Mm} {n : Nat} {o : Nat} {im : Int32} {d : Nat → Int32} {nb : Nat} {bx : Nat → Int32} {fo : Nat → Int32} {c : Int32} {w : Int32} {s : Int32} (K0 : h o = some (.inr (11, [.ref (o + 1), .ref (o + 14), .ref (o + 27), .ref (o + 33), .ref (o + 42), .ref (o + 55), .ref (o + 57), .ref (o + 59), .ref (o + 61), .int im]))) (K1 : h (o + 1) = some (.inr (3, [.ref (o + 1 + 1), .ref (o + 1 + 7), .ref (o + 1 + 9), .ref (o + 1 + 11), .int (d 13)]))) (K2 : h (o + 12) = some (.inr (6, [.ref (o + 12 + 1), .int (nI (3 * nb)), .int 32]))) (K3 : h (o + 13) = arI κ 15 bx) (K4 : h (o + 61) = arI κ 6 fo) (p1 : d 12 = nI nb) (p2 : nb ≤ 5) (p3 : ∀ j, j < 3 * nb → bx j = d (40 + j)) : Con κ l yX11_box cX11_box 5 (some .int) 4 0 0 [.ref o, .int c, .int w, .int s] h n (fun q h' n' => ∃ nb2' : Nat, ∃ bx' : Nat → Int32, q = some (.int (ansOf (opBox nb c w s))) ∧ n' = n ∧ (∀ zq : Nat, zq < (o + 76) → zq ≠ (o + 12) → zq ≠ (o + 13) → zq ≠ (o + 61) → h' zq = h zq) ∧ Zr κ (o + 76) h h' ∧ h' (o + 12) = some (.inr (6, [.ref (o + 12 + 1), .int (nI (3 * nb2')), .int 32])) ∧ h' (o + 13) = arI κ 15 bx' ∧ h' (o + 61) = arI κ 6 (bump (opBox nb c w s) fo) ∧ ((dBox d nb c w s) 12 = nI nb2' ∧ nb2' ≤ 5 ∧ ∀ j, j < 3 * nb2' → bx' j = dBox d nb c w s (40 + j))) := by
  refine Con.of mk_X11_box (Nat.le_of_ble_eq_true rfl) (fun G hG X E => ?_)
  subst hG
  refine z_ls (ls' := [(0, .ref o), (1, .int c), (2, .int w), (3, .int s)]) rfl ?_
  refine z_iconst (v := 2) X dX11_box_0 (by decide) ?_
  refine z_iload_n X 1 dX11_box_1 rfl ?_
  refine z_callS X (c_isSetting (κ := κ) (n := n) (w := (2)) (v := (c))  ) mk_X11_isSetting dX11_box_2 wd_307 wd_308 rfl rfl (Nat.le_of_ble_eq_true rfl) (Nat.le_of_ble_eq_true rfl) (Nat.le_of_ble_eq_true rfl) (by omega) (by omega) (fun q zh1 zm3 zp4 => ?_)
  obtain ⟨rfl, ze2, zn5⟩ := zp4
  subst zm3
  subst zh1
  refine z_st (st' := [.int (b2i (mayB 2 c))]) rfl ?_
  refine z_if_eq X 24 dX11_box_5 (by decide) (fun zc6 => ?_) (fun zc6 => ?_)
  · replace zc6 := b2i_f zc6
    have hm2 := zc6
    refine z_aload_n X 0 dX11_box_24 rfl ?_
    refine z_iconst (v := 1) X dX11_box_25 (by decide) ?_
    refine z_callV X (c_fail (κ := κ) (n := n) (o := (o)) (im := (im)) (fo := (fo)) (k := (1)) K0 K4 (by first | assumption | omega) (by first | assumption | omega)) mk_X11_fail dX11_box_26 wd_260 wd_262 wd_0 rfl K0 rfl rfl rfl (Nat.le_of_ble_eq_true rfl) (Nat.le_of_ble_eq_true rfl) (Nat.le_of_ble_eq_true rfl) (by omega) (by omega) (fun q zh7 zm9 zp10 => ?_)
    obtain ⟨rfl, ze8, zn11⟩ := zp10
    subst zm9
    refine z_st (st' := [.int (lowE 1)]) rfl ?_
    have zK12 : zh7 o = some (.inr (11, [.ref (o + 1), .ref (o + 14), .ref (o + 27), .ref (o + 33), .ref (o + 42), .ref (o + 55), .ref (o + 57), .ref (o + 59), .ref (o + 61), .int im])) := by rw [ze8]; rw [va_up_ne _ _ (show o ≠ o + 61 by omega)]; exact K0
    have zK13 : zh7 (o + 1) = some (.inr (3, [.ref (o + 1 + 1), .ref (o + 1 + 7), .ref (o + 1 + 9), .ref (o + 1 + 11), .int (d 13)])) := by rw [ze8]; rw [va_up_ne _ _ (show o + 1 ≠ o + 61 by omega)]; exact K1
    have zK14 : zh7 (o + 12) = some (.inr (6, [.ref (o + 12 + 1), .int (nI (3 * nb)), .int 32])) := by rw [ze8]; rw [va_up_ne _ _ (show o + 12 ≠ o + 61 by omega)]; exact K2
    have zK15 : zh7 (o + 13) = arI κ 15 bx := by rw [ze8]; rw [va_up_ne _ _ (show o + 13 ≠ o + 61 by omega)]; exact K3
    have zK16 : zh7 (o + 61) = arI κ 6 (bmp fo 1) := by rw [ze8]; exact va_up_self _ _ _
    have zl17 : ∀ zq : Nat, zq < (o + 76) → zq ≠ (o + 61) → zh7 zq = h zq := by intro zq hzq zn0; rw [ze8, va_up_ne _ _ (show zq ≠ o + 61 by omega)]; try rfl
    have zr18 : Zr κ (o + 76) h zh7 := (Zr.refl).trans (Zr.same (fun zq h1 => by rw [ze8, va_up_ne _ _ (show zq ≠ o + 61 by omega)]))
    refine z_iret X E dX11_box_29 (by omega) (by omega) ⟨nb, bx, ?_, ?_, ?_, ?_, ?_, ?_, ?_, ?_⟩
    · rw [(dBox_e (d := d) (nb := nb) (fun zq => (by (first | exact hm2 (mayB_2.mpr ⟨zq.1, zq.2.1⟩) | exact hm3 (mayB_3.mpr ⟨zq.2.2.1, zq.2.2.2.1⟩) | exact hm1 (mayB_1.mpr zq.2.2.2.2))))).2]; first | exact congrArg (fun z => some (Value.int z)) (ansOf_0 _).symm | rfl
    · rfl
    · exact fun zq hzq zn0 zn1 zn2 => zl17 zq hzq zn2
    · exact zr18
    · exact zK14
    · exact zK15
    · rw [(dBox_e (d := d) (nb := nb) (fun zq => (by (first | exact hm2 (mayB_2.mpr ⟨zq.1, zq.2.1⟩) | exact hm3 (mayB_3.mpr ⟨zq.2.2.1, zq.2.2.2.1⟩) | exact hm1 (mayB_1.mpr zq.2.2.2.2))))).2]; first | (rw [bump_0]; exact zK16) | exact zK16
    · rw [(dBox_e (d := d) (nb := nb) (fun zq => (by (first | exact hm2 (mayB_2.mpr ⟨zq.1, zq.2.1⟩) | exact hm3 (mayB_3.mpr ⟨zq.2.2.1, zq.2.2.2.1⟩) | exact hm1 (mayB_1.mpr zq.2.2.2.2))))).1]; exact ⟨p1, p2, p3⟩
  · replace zc6 := b2i_t zc6
    refine z_iconst (v := 3) X dX11_box_8 (by decide) ?_
    refine z_iload_n X 2 dX11_box_9 rfl ?_
    refine z_callS X (c_isSetting (κ := κ) (n := n) (w := (3)) (v := (w))  ) mk_X11_isSetting dX11_box_10 wd_307 wd_308 rfl rfl (Nat.le_of_ble_eq_true rfl) (Nat.le_of_ble_eq_true rfl) (Nat.le_of_ble_eq_true rfl) (by omega) (by omega) (fun q zh19 zm21 zp22 => ?_)
    obtain ⟨rfl, ze20, zn23⟩ := zp22
    subst zm21
    subst zh19
    refine z_st (st' := [.int (b2i (mayB 3 w))]) rfl ?_
    refine z_if_eq X 24 dX11_box_13 (by decide) (fun zc24 => ?_) (fun zc24 => ?_)
    · replace zc24 := b2i_f zc24
      have hm3 := zc24
      refine z_aload_n X 0 dX11_box_24 rfl ?_
      refine z_iconst (v := 1) X dX11_box_25 (by decide) ?_
      refine z_callV X (c_fail (κ := κ) (n := n) (o := (o)) (im := (im)) (fo := (fo)) (k := (1)) K0 K4 (by first | assumption | omega) (by first | assumption | omega)) mk_X11_fail dX11_box_26 wd_260 wd_262 wd_0 rfl K0 rfl rfl rfl (Nat.le_of_ble_eq_true rfl) (Nat.le_of_ble_eq_true rfl) (Nat.le_of_ble_eq_true rfl) (by omega) (by omega) (fun q zh25 zm27 zp28 => ?_)
      obtain ⟨rfl, ze26, zn29⟩ := zp28
      subst zm27
      refine z_st (st' := [.int (lowE 1)]) rfl ?_
      have zK30 : zh25 o = some (.inr (11, [.ref (o + 1), .ref (o + 14), .ref (o + 27), .ref (o + 33), .ref (o + 42), .ref (o + 55), .ref (o + 57), .ref (o + 59), .ref (o + 61), .int im])) := by rw [ze26]; rw [va_up_ne _ _ (show o ≠ o + 61 by omega)]; exact K0
      have zK31 : zh25 (o + 1) = some (.inr (3, [.ref (o + 1 + 1), .ref (o + 1 + 7), .ref (o + 1 + 9), .ref (o + 1 + 11), .int (d 13)])) := by rw [ze26]; rw [va_up_ne _ _ (show o + 1 ≠ o + 61 by omega)]; exact K1
      have zK32 : zh25 (o + 12) = some (.inr (6, [.ref (o + 12 + 1), .int (nI (3 * nb)), .int 32])) := by rw [ze26]; rw [va_up_ne _ _ (show o + 12 ≠ o + 61 by omega)]; exact K2
      have zK33 : zh25 (o + 13) = arI κ 15 bx := by rw [ze26]; rw [va_up_ne _ _ (show o + 13 ≠ o + 61 by omega)]; exact K3
      have zK34 : zh25 (o + 61) = arI κ 6 (bmp fo 1) := by rw [ze26]; exact va_up_self _ _ _
      have zl35 : ∀ zq : Nat, zq < (o + 76) → zq ≠ (o + 61) → zh25 zq = h zq := by intro zq hzq zn0; rw [ze26, va_up_ne _ _ (show zq ≠ o + 61 by omega)]; try rfl
      have zr36 : Zr κ (o + 76) h zh25 := (Zr.refl).trans (Zr.same (fun zq h1 => by rw [ze26, va_up_ne _ _ (show zq ≠ o + 61 by omega)]))
      refine z_iret X E dX11_box_29 (by omega) (by omega) ⟨nb, bx, ?_, ?_, ?_, ?_, ?_, ?_, ?_, ?_⟩
      · rw [(dBox_e (d := d) (nb := nb) (fun zq => (by (first | exact hm2 (mayB_2.mpr ⟨zq.1, zq.2.1⟩) | exact hm3 (mayB_3.mpr ⟨zq.2.2.1, zq.2.2.2.1⟩) | exact hm1 (mayB_1.mpr zq.2.2.2.2))))).2]; first | exact congrArg (fun z => some (Value.int z)) (ansOf_0 _).symm | rfl
      · rfl
      · exact fun zq hzq zn0 zn1 zn2 => zl35 zq hzq zn2
      · exact zr36
      · exact zK32
      · exact zK33
      · rw [(dBox_e (d := d) (nb := nb) (fun zq => (by (first | exact hm2 (mayB_2.mpr ⟨zq.1, zq.2.1⟩) | exact hm3 (mayB_3.mpr ⟨zq.2.2.1, zq.2.2.2.1⟩) | exact hm1 (mayB_1.mpr zq.2.2.2.2))))).2]; first | (rw [bump_0]; exact zK34) | exact zK34
      · rw [(dBox_e (d := d) (nb := nb) (fun zq => (by (first | exact hm2 (mayB_2.mpr ⟨zq.1, zq.2.1⟩) | exact hm3 (mayB_3.mpr ⟨zq.2.2.1, zq.2.2.2.1⟩) | exact hm1 (mayB_1.mpr zq.2.2.2.2))))).1]; exact ⟨p1, p2, p3⟩
    · replace zc24 := b2i_t zc24
      refine z_iconst (v := 1) X dX11_box_16 (by decide) ?_
      refine z_iload_n X 3 dX11_box_17 rfl ?_
      refine z_callS X (c_isSetting (κ := κ) (n := n) (w := (1)) (v := (s))  ) mk_X11_isSetting dX11_box_18 wd_307 wd_308 rfl rfl (Nat.le_of_ble_eq_true rfl) (Nat.le_of_ble_eq_true rfl) (Nat.le_of_ble_eq_true rfl) (by omega) (by omega) (fun q zh37 zm39 zp40 => ?_)
      obtain ⟨rfl, ze38, zn41⟩ := zp40
      subst zm39
      subst zh37
      refine z_st (st' := [.int (b2i (mayB 1 s))]) rfl ?_
      refine z_if_ne X 30 dX11_box_21 (by decide) (fun zc42 => ?_) (fun zc42 => ?_)
      · replace zc42 := b2i_t zc42
        have hbx : -50 ≤ c.toInt ∧ c.toInt ≤ 99 ∧ 0 ≤ w.toInt ∧ w.toInt ≤ 99 ∧ 0 ≤ s.toInt ∧ s.toInt ≤ 99 := ⟨(mayB_2.mp (by assumption)).1, (mayB_2.mp (by assumption)).2, (mayB_3.mp (by assumption)).1, (mayB_3.mp (by assumption)).2, mayB_1.mp (by assumption)⟩
        refine z_aload_n X 0 dX11_box_30 rfl ?_
        refine z_get X fl_X11_10_11 dX11_box_31 K0 rfl ?_
        refine z_callV X (c_boxCount (κ := κ) (n := n) (k := (o + 1)) (z := (d 13)) K1 K2 (by first | assumption | omega)) mk_X3_boxCount dX11_box_34 wd_741 wd_742 wd_743 rfl K1 rfl rfl rfl (Nat.le_of_ble_eq_true rfl) (Nat.le_of_ble_eq_true rfl) (Nat.le_of_ble_eq_true rfl) (by omega) (by omega) (fun q zh43 zm45 zp46 => ?_)
        obtain ⟨rfl, ze44, zn47⟩ := zp46
        subst zm45
        subst zh43
        refine z_st (st' := [.int (nI nb)]) rfl ?_
        refine z_istore (ls' := [(4, .int (nI nb)), (0, .ref o), (1, .int c), (2, .int w), (3, .int s)]) X dX11_box_37 (by decide) rfl ?_
        refine z_iload X 0 dX11_box_39 rfl ?_
        refine z_iconst (v := 5) X dX11_box_41 (by decide) ?_
        refine z_icmp_lt X 51 dX11_box_42 (by decide) (fun zc48 => ?_) (fun zc48 => ?_)
        · try replace zc48 := (nI_ltI (a := nb) (b := 5) (by omega) (by omega)).mp zc48
          refine z_aload_n X 1 dX11_box_51 rfl ?_
          refine z_get X fl_X11_10_11 dX11_box_52 K0 rfl ?_
          refine z_get X fl_X11_244_3 dX11_box_55 K1 rfl ?_
          refine z_iload_n X 2 dX11_box_58 rfl ?_
          refine z_callV X (c_Row_add (κ := κ) (n := n) (r := (o + 1 + 11)) (k := (3 * nb)) (bt := (32)) (v := (c)) (N := (15)) (f := (bx)) K2 K3 (by omega) (by first | assumption | omega)) mk_X6_add dX11_box_59 wd_500 wd_501 wd_502 rfl K2 rfl rfl rfl (Nat.le_of_ble_eq_true rfl) (Nat.le_of_ble_eq_true rfl) (Nat.le_of_ble_eq_true rfl) (by omega) (by omega) (fun q zh49 zm51 zp52 => ?_)
          obtain ⟨rfl, ze50, zn53⟩ := zp52
          subst zm51
          refine z_st (st' := []) rfl ?_
          have zK54 : zh49 o = some (.inr (11, [.ref (o + 1), .ref (o + 14), .ref (o + 27), .ref (o + 33), .ref (o + 42), .ref (o + 55), .ref (o + 57), .ref (o + 59), .ref (o + 61), .int im])) := by rw [ze50]; rw [va_up_ne _ _ (show o ≠ o + 13 by omega)]; rw [va_up_ne _ _ (show o ≠ o + 12 by omega)]; exact K0
          have zK55 : zh49 (o + 1) = some (.inr (3, [.ref (o + 1 + 1), .ref (o + 1 + 7), .ref (o + 1 + 9), .ref (o + 1 + 11), .int (d 13)])) := by rw [ze50]; rw [va_up_ne _ _ (show o + 1 ≠ o + 13 by omega)]; rw [va_up_ne _ _ (show o + 1 ≠ o + 12 by omega)]; exact K1
          have zK56 : zh49 (o + 12) = some (.inr (6, [.ref ((o + 1 + 11) + 1), .int (nI ((3 * nb) + 1)), .int 32])) := by rw [ze50]; rw [va_up_ne _ _ (show o + 12 ≠ o + 13 by omega)]; exact va_up_self _ _ _
          have zK57 : zh49 (o + 13) = arI κ 15 (upd bx (3 * nb) c) := by rw [ze50]; exact va_up_self _ _ _
          have zK58 : zh49 (o + 61) = arI κ 6 fo := by rw [ze50]; rw [va_up_ne _ _ (show o + 61 ≠ o + 13 by omega)]; rw [va_up_ne _ _ (show o + 61 ≠ o + 12 by omega)]; exact K4
          have zl59 : ∀ zq : Nat, zq < (o + 76) → zq ≠ (o + 12) → zq ≠ (o + 13) → zh49 zq = h zq := by intro zq hzq zn0 zn1; rw [ze50, va_up_ne _ _ (show zq ≠ o + 13 by omega), va_up_ne _ _ (show zq ≠ o + 12 by omega)]; try rfl
          have zr60 : Zr κ (o + 76) h zh49 := (Zr.refl).trans (Zr.same (fun zq h1 => by rw [ze50, va_up_ne _ _ (show zq ≠ o + 13 by omega), va_up_ne _ _ (show zq ≠ o + 12 by omega)]))
          refine z_aload_n X 1 dX11_box_62 rfl ?_
          refine z_get X fl_X11_10_11 dX11_box_63 zK54 rfl ?_
          refine z_get X fl_X11_244_3 dX11_box_66 zK55 rfl ?_
          refine z_iload_n X 3 dX11_box_69 rfl ?_
          refine z_callV X (c_Row_add (κ := κ) (n := n) (r := (o + 1 + 11)) (k := ((3 * nb) + 1)) (bt := (32)) (v := (w)) (N := (15)) (f := (upd bx (3 * nb) c)) zK56 zK57 (by omega) (by first | assumption | omega)) mk_X6_add dX11_box_70 wd_500 wd_501 wd_502 rfl zK56 rfl rfl rfl (Nat.le_of_ble_eq_true rfl) (Nat.le_of_ble_eq_true rfl) (Nat.le_of_ble_eq_true rfl) (by omega) (by omega) (fun q zh61 zm63 zp64 => ?_)
          obtain ⟨rfl, ze62, zn65⟩ := zp64
          subst zm63
          refine z_st (st' := []) rfl ?_
          have zK66 : zh61 o = some (.inr (11, [.ref (o + 1), .ref (o + 14), .ref (o + 27), .ref (o + 33), .ref (o + 42), .ref (o + 55), .ref (o + 57), .ref (o + 59), .ref (o + 61), .int im])) := by rw [ze62]; rw [va_up_ne _ _ (show o ≠ o + 13 by omega)]; rw [va_up_ne _ _ (show o ≠ o + 12 by omega)]; exact zK54
          have zK67 : zh61 (o + 1) = some (.inr (3, [.ref (o + 1 + 1), .ref (o + 1 + 7), .ref (o + 1 + 9), .ref (o + 1 + 11), .int (d 13)])) := by rw [ze62]; rw [va_up_ne _ _ (show o + 1 ≠ o + 13 by omega)]; rw [va_up_ne _ _ (show o + 1 ≠ o + 12 by omega)]; exact zK55
          have zK68 : zh61 (o + 12) = some (.inr (6, [.ref ((o + 1 + 11) + 1), .int (nI (((3 * nb) + 1) + 1)), .int 32])) := by rw [ze62]; rw [va_up_ne _ _ (show o + 12 ≠ o + 13 by omega)]; exact va_up_self _ _ _
          have zK69 : zh61 (o + 13) = arI κ 15 (upd (upd bx (3 * nb) c) ((3 * nb) + 1) w) := by rw [ze62]; exact va_up_self _ _ _
          have zK70 : zh61 (o + 61) = arI κ 6 fo := by rw [ze62]; rw [va_up_ne _ _ (show o + 61 ≠ o + 13 by omega)]; rw [va_up_ne _ _ (show o + 61 ≠ o + 12 by omega)]; exact zK58
          have zl71 : ∀ zq : Nat, zq < (o + 76) → zq ≠ (o + 12) → zq ≠ (o + 13) → zh61 zq = h zq := by intro zq hzq zn0 zn1; rw [ze62, va_up_ne _ _ (show zq ≠ o + 13 by omega), va_up_ne _ _ (show zq ≠ o + 12 by omega)]; exact zl59 zq hzq zn0 zn1
          have zr72 : Zr κ (o + 76) h zh61 := (zr60).trans (Zr.same (fun zq h1 => by rw [ze62, va_up_ne _ _ (show zq ≠ o + 13 by omega), va_up_ne _ _ (show zq ≠ o + 12 by omega)]))
          refine z_aload_n X 1 dX11_box_73 rfl ?_
          refine z_get X fl_X11_10_11 dX11_box_74 zK66 rfl ?_
          refine z_get X fl_X11_244_3 dX11_box_77 zK67 rfl ?_
          refine z_iload_n X 4 dX11_box_80 rfl ?_
          refine z_callV X (c_Row_add (κ := κ) (n := n) (r := (o + 1 + 11)) (k := (((3 * nb) + 1) + 1)) (bt := (32)) (v := (s)) (N := (15)) (f := (upd (upd bx (3 * nb) c) ((3 * nb) + 1) w)) zK68 zK69 (by omega) (by first | assumption | omega)) mk_X6_add dX11_box_81 wd_500 wd_501 wd_502 rfl zK68 rfl rfl rfl (Nat.le_of_ble_eq_true rfl) (Nat.le_of_ble_eq_true rfl) (Nat.le_of_ble_eq_true rfl) (by omega) (by omega) (fun q zh73 zm75 zp76 => ?_)
          obtain ⟨rfl, ze74, zn77⟩ := zp76
          subst zm75
          refine z_st (st' := []) rfl ?_
          have zK78 : zh73 o = some (.inr (11, [.ref (o + 1), .ref (o + 14), .ref (o + 27), .ref (o + 33), .ref (o + 42), .ref (o + 55), .ref (o + 57), .ref (o + 59), .ref (o + 61), .int im])) := by rw [ze74]; rw [va_up_ne _ _ (show o ≠ o + 13 by omega)]; rw [va_up_ne _ _ (show o ≠ o + 12 by omega)]; exact zK66
          have zK79 : zh73 (o + 1) = some (.inr (3, [.ref (o + 1 + 1), .ref (o + 1 + 7), .ref (o + 1 + 9), .ref (o + 1 + 11), .int (d 13)])) := by rw [ze74]; rw [va_up_ne _ _ (show o + 1 ≠ o + 13 by omega)]; rw [va_up_ne _ _ (show o + 1 ≠ o + 12 by omega)]; exact zK67
          have zK80 : zh73 (o + 12) = some (.inr (6, [.ref ((o + 1 + 11) + 1), .int (nI ((((3 * nb) + 1) + 1) + 1)), .int 32])) := by rw [ze74]; rw [va_up_ne _ _ (show o + 12 ≠ o + 13 by omega)]; exact va_up_self _ _ _
          have zK81 : zh73 (o + 13) = arI κ 15 (upd (upd (upd bx (3 * nb) c) ((3 * nb) + 1) w) (((3 * nb) + 1) + 1) s) := by rw [ze74]; exact va_up_self _ _ _
          have zK82 : zh73 (o + 61) = arI κ 6 fo := by rw [ze74]; rw [va_up_ne _ _ (show o + 61 ≠ o + 13 by omega)]; rw [va_up_ne _ _ (show o + 61 ≠ o + 12 by omega)]; exact zK70
          have zl83 : ∀ zq : Nat, zq < (o + 76) → zq ≠ (o + 12) → zq ≠ (o + 13) → zh73 zq = h zq := by intro zq hzq zn0 zn1; rw [ze74, va_up_ne _ _ (show zq ≠ o + 13 by omega), va_up_ne _ _ (show zq ≠ o + 12 by omega)]; exact zl71 zq hzq zn0 zn1
          have zr84 : Zr κ (o + 76) h zh73 := (zr72).trans (Zr.same (fun zq h1 => by rw [ze74, va_up_ne _ _ (show zq ≠ o + 13 by omega), va_up_ne _ _ (show zq ≠ o + 12 by omega)]))
          refine z_iload X 0 dX11_box_84 rfl ?_
          refine z_iret X E dX11_box_86 (by omega) (by omega) ⟨(nb + 1), (upd (upd (upd bx (3 * nb) c) (3 * nb + 1) w) (3 * nb + 1 + 1) s), ?_, ?_, ?_, ?_, ?_, ?_, ?_, ?_⟩
          · rw [(dBox_0 (d := d) hbx (by omega)).2]; first | exact congrArg (fun z => some (Value.int z)) (ansOf_0 _).symm | rfl
          · rfl
          · exact fun zq hzq zn0 zn1 zn2 => zl83 zq hzq zn0 zn1
          · exact zr84
          · rw [← nI3]; exact zK80
          · exact zK81
          · rw [(dBox_0 (d := d) hbx (by omega)).2]; first | (rw [bump_0]; exact zK82) | exact zK82
          · rw [(dBox_0 (d := d) hbx (by omega)).1]; refine ⟨pk_us, by omega, ?_⟩; intro z hz; (by_cases e1 : z = 3 * nb + 1 + 1); (rw [e1, pk_us]; exact ((pk_un (by omega)).trans pk_us).symm); (rw [pk_un e1]); (by_cases e2 : z = 3 * nb + 1); (rw [e2, pk_us]; exact ((pk_un (by omega)).trans ((pk_un (by omega)).trans pk_us)).symm); (rw [pk_un e2]); (by_cases e3 : z = 3 * nb); (rw [e3, pk_us]; exact ((pk_un (by omega)).trans ((pk_un (by omega)).trans ((pk_un (by omega)).trans pk_us))).symm); (rw [pk_un e3]; exact (p3 z (by omega)).trans ((pk_un (by omega)).trans ((pk_un (by omega)).trans ((pk_un (by omega)).trans (pk_un (by omega))))).symm)
        · try replace zc48 := mt (nI_ltI (a := nb) (b := 5) (by omega) (by omega)).mpr zc48
          refine z_aload_n X 1 dX11_box_45 rfl ?_
          refine z_iconst (v := 4) X dX11_box_46 (by decide) ?_
          refine z_callV X (c_fail (κ := κ) (n := n) (o := (o)) (im := (im)) (fo := (fo)) (k := (4)) K0 K4 (by first | assumption | omega) (by first | assumption | omega)) mk_X11_fail dX11_box_47 wd_260 wd_262 wd_0 rfl K0 rfl rfl rfl (Nat.le_of_ble_eq_true rfl) (Nat.le_of_ble_eq_true rfl) (Nat.le_of_ble_eq_true rfl) (by omega) (by omega) (fun q zh85 zm87 zp88 => ?_)
          obtain ⟨rfl, ze86, zn89⟩ := zp88
          subst zm87
          refine z_st (st' := [.int (lowE 4)]) rfl ?_
          have zK90 : zh85 o = some (.inr (11, [.ref (o + 1), .ref (o + 14), .ref (o + 27), .ref (o + 33), .ref (o + 42), .ref (o + 55), .ref (o + 57), .ref (o + 59), .ref (o + 61), .int im])) := by rw [ze86]; rw [va_up_ne _ _ (show o ≠ o + 61 by omega)]; exact K0
          have zK91 : zh85 (o + 1) = some (.inr (3, [.ref (o + 1 + 1), .ref (o + 1 + 7), .ref (o + 1 + 9), .ref (o + 1 + 11), .int (d 13)])) := by rw [ze86]; rw [va_up_ne _ _ (show o + 1 ≠ o + 61 by omega)]; exact K1
          have zK92 : zh85 (o + 12) = some (.inr (6, [.ref (o + 12 + 1), .int (nI (3 * nb)), .int 32])) := by rw [ze86]; rw [va_up_ne _ _ (show o + 12 ≠ o + 61 by omega)]; exact K2
          have zK93 : zh85 (o + 13) = arI κ 15 bx := by rw [ze86]; rw [va_up_ne _ _ (show o + 13 ≠ o + 61 by omega)]; exact K3
          have zK94 : zh85 (o + 61) = arI κ 6 (bmp fo 4) := by rw [ze86]; exact va_up_self _ _ _
          have zl95 : ∀ zq : Nat, zq < (o + 76) → zq ≠ (o + 61) → zh85 zq = h zq := by intro zq hzq zn0; rw [ze86, va_up_ne _ _ (show zq ≠ o + 61 by omega)]; try rfl
          have zr96 : Zr κ (o + 76) h zh85 := (Zr.refl).trans (Zr.same (fun zq h1 => by rw [ze86, va_up_ne _ _ (show zq ≠ o + 61 by omega)]))
          refine z_iret X E dX11_box_50 (by omega) (by omega) ⟨nb, bx, ?_, ?_, ?_, ?_, ?_, ?_, ?_, ?_⟩
          · rw [(dBox_f (d := d) hbx (by omega)).2]; first | exact congrArg (fun z => some (Value.int z)) (ansOf_0 _).symm | rfl
          · rfl
          · exact fun zq hzq zn0 zn1 zn2 => zl95 zq hzq zn2
          · exact zr96
          · exact zK92
          · exact zK93
          · rw [(dBox_f (d := d) hbx (by omega)).2]; first | (rw [bump_0]; exact zK94) | exact zK94
          · rw [(dBox_f (d := d) hbx (by omega)).1]; exact ⟨p1, p2, p3⟩
      · replace zc42 := b2i_f zc42
        have hm1 := zc42
        refine z_aload_n X 0 dX11_box_24 rfl ?_
        refine z_iconst (v := 1) X dX11_box_25 (by decide) ?_
        refine z_callV X (c_fail (κ := κ) (n := n) (o := (o)) (im := (im)) (fo := (fo)) (k := (1)) K0 K4 (by first | assumption | omega) (by first | assumption | omega)) mk_X11_fail dX11_box_26 wd_260 wd_262 wd_0 rfl K0 rfl rfl rfl (Nat.le_of_ble_eq_true rfl) (Nat.le_of_ble_eq_true rfl) (Nat.le_of_ble_eq_true rfl) (by omega) (by omega) (fun q zh97 zm99 zp100 => ?_)
        obtain ⟨rfl, ze98, zn101⟩ := zp100
        subst zm99
        refine z_st (st' := [.int (lowE 1)]) rfl ?_
        have zK102 : zh97 o = some (.inr (11, [.ref (o + 1), .ref (o + 14), .ref (o + 27), .ref (o + 33), .ref (o + 42), .ref (o + 55), .ref (o + 57), .ref (o + 59), .ref (o + 61), .int im])) := by rw [ze98]; rw [va_up_ne _ _ (show o ≠ o + 61 by omega)]; exact K0
        have zK103 : zh97 (o + 1) = some (.inr (3, [.ref (o + 1 + 1), .ref (o + 1 + 7), .ref (o + 1 + 9), .ref (o + 1 + 11), .int (d 13)])) := by rw [ze98]; rw [va_up_ne _ _ (show o + 1 ≠ o + 61 by omega)]; exact K1
        have zK104 : zh97 (o + 12) = some (.inr (6, [.ref (o + 12 + 1), .int (nI (3 * nb)), .int 32])) := by rw [ze98]; rw [va_up_ne _ _ (show o + 12 ≠ o + 61 by omega)]; exact K2
        have zK105 : zh97 (o + 13) = arI κ 15 bx := by rw [ze98]; rw [va_up_ne _ _ (show o + 13 ≠ o + 61 by omega)]; exact K3
        have zK106 : zh97 (o + 61) = arI κ 6 (bmp fo 1) := by rw [ze98]; exact va_up_self _ _ _
        have zl107 : ∀ zq : Nat, zq < (o + 76) → zq ≠ (o + 61) → zh97 zq = h zq := by intro zq hzq zn0; rw [ze98, va_up_ne _ _ (show zq ≠ o + 61 by omega)]; try rfl
        have zr108 : Zr κ (o + 76) h zh97 := (Zr.refl).trans (Zr.same (fun zq h1 => by rw [ze98, va_up_ne _ _ (show zq ≠ o + 61 by omega)]))
        refine z_iret X E dX11_box_29 (by omega) (by omega) ⟨nb, bx, ?_, ?_, ?_, ?_, ?_, ?_, ?_, ?_⟩
        · rw [(dBox_e (d := d) (nb := nb) (fun zq => (by (first | exact hm2 (mayB_2.mpr ⟨zq.1, zq.2.1⟩) | exact hm3 (mayB_3.mpr ⟨zq.2.2.1, zq.2.2.2.1⟩) | exact hm1 (mayB_1.mpr zq.2.2.2.2))))).2]; first | exact congrArg (fun z => some (Value.int z)) (ansOf_0 _).symm | rfl
        · rfl
        · exact fun zq hzq zn0 zn1 zn2 => zl107 zq hzq zn2
        · exact zr108
        · exact zK104
        · exact zK105
        · rw [(dBox_e (d := d) (nb := nb) (fun zq => (by (first | exact hm2 (mayB_2.mpr ⟨zq.1, zq.2.1⟩) | exact hm3 (mayB_3.mpr ⟨zq.2.2.1, zq.2.2.2.1⟩) | exact hm1 (mayB_1.mpr zq.2.2.2.2))))).2]; first | (rw [bump_0]; exact zK106) | exact zK106
        · rw [(dBox_e (d := d) (nb := nb) (fun zq => (by (first | exact hm2 (mayB_2.mpr ⟨zq.1, zq.2.1⟩) | exact hm3 (mayB_3.mpr ⟨zq.2.2.1, zq.2.2.2.1⟩) | exact hm1 (mayB_1.mpr zq.2.2.2.2))))).1]; exact ⟨p1, p2, p3⟩
theorem b255_32 : ∀ i, i < 32 → (255#32).getLsbD i = decide (i < 8) := by decide
theorem b255_64 : ∀ i, i < 64 → (255#64).getLsbD i = decide (i < 8) := by decide
theorem bv_byte (x : BitVec 64) (s : Nat) (hs : s ≤ 56) : (x >>> s).signExtend 32 &&& 255#32 = ((x.sshiftRight s) &&& 255#64).signExtend 32 := by
  apply BitVec.eq_of_getLsbD_eq
  intro i hi
  rw [BitVec.getLsbD_and, BitVec.getLsbD_signExtend, BitVec.getLsbD_signExtend, BitVec.getLsbD_and, BitVec.getLsbD_ushiftRight, BitVec.getLsbD_sshiftRight, b255_32 i hi, b255_64 i (by omega)]
  by_cases h8 : i < 8
  · have e1 : decide (i < 8) = true := by simp [h8]
    have e2 : decide (i < 32) = true := by simp [hi]
    have e3 : i < 64 := by omega
    have e4 : s + i < 64 := by omega
    have e5 : ¬ 64 ≤ i := by omega
    simp [e1, hi, e3, e4, e5]
  · have e1 : decide (i < 8) = false := by simp [h8]
    have e3 : i < 64 := by omega
    simp [e1, hi, e3]
theorem byte_eq (w : Int64) {k : Nat} (h : k < 8) : (w.toUInt64 >>> ((nI (8 * k)).toInt64.toUInt64 &&& Int64.toUInt64 63)).toInt64.toInt32 &&& 255 = fdB w k := by
  unfold fdB
  have h8 : k = 0 ∨ k = 1 ∨ k = 2 ∨ k = 3 ∨ k = 4 ∨ k = 5 ∨ k = 6 ∨ k = 7 := by omega
  rcases h8 with rfl | rfl | rfl | rfl | rfl | rfl | rfl | rfl
  · exact Int32.toBitVec_inj.mp (bv_byte w.toBitVec 0 (by decide))
  · exact Int32.toBitVec_inj.mp (bv_byte w.toBitVec 8 (by decide))
  · exact Int32.toBitVec_inj.mp (bv_byte w.toBitVec 16 (by decide))
  · exact Int32.toBitVec_inj.mp (bv_byte w.toBitVec 24 (by decide))
  · exact Int32.toBitVec_inj.mp (bv_byte w.toBitVec 32 (by decide))
  · exact Int32.toBitVec_inj.mp (bv_byte w.toBitVec 40 (by decide))
  · exact Int32.toBitVec_inj.mp (bv_byte w.toBitVec 48 (by decide))
  · exact Int32.toBitVec_inj.mp (bv_byte w.toBitVec 56 (by decide))
