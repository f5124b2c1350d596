set_option maxHeartbeats 4000000 in
set_option maxRecDepth 100000 in
theorem p_cell {κ : Wc} {l : Launch} {h : Mm} {n : Nat} {o : Nat} {im : Int32} {d : Nat → Int32} {len : Nat} {nc : Nat} {cold : Int32} {wind : Int32} {fo : Nat → Int32} {c : Int32} {w : Int32} (K0 : h o = some (.inr (11, [.ref (o + 1), .ref (o + 14), .ref (o + 27), .ref (o + 33), .ref (o + 42), .ref (o + 55), .ref (o + 57), .ref (o + 59), .ref (o + 61), .int im]))) (K1 : h (o + 1) = some (.inr (3, [.ref (o + 1 + 1), .ref (o + 1 + 7), .ref (o + 1 + 9), .ref (o + 1 + 11), .int (d 13)]))) (K2 : h (o + 2) = some (.inr (2, [.ref (o + 3), .ref (o + 4), .ref (o + 5), .ref (o + 6), .ref (o + 7), .int (nI len), .int (d 0), .int (d 2), .int (d 3), .int (nI nc), .int (d 10), .int cold, .int wind]))) (K3 : h (o + 3) = arI κ 40 (win 100 40 d)) (K4 : h (o + 4) = arI κ 40 (win 140 40 d)) (K5 : h (o + 61) = arI κ 6 fo) (q1 : d 1 = nI len) (q2 : 1 ≤ len) (q3 : len ≤ 40) : Con κ l yX11_cell cX11_cell 4 (some .int) 5 0 0 [.ref o, .int c, .int w] h n (fun q h' n' => q = some (.int (ansOf (opCell d len c w))) ∧ n' = n ∧ (∀ zq : Nat, zq < (o + 76) → zq ≠ (o + 61) → h' zq = h zq) ∧ Zr κ (o + 76) h h' ∧ h' (o + 61) = arI κ 6 (bump (opCell d len c w) fo)) := by
  refine Con.of mk_X11_cell (Nat.le_of_ble_eq_true rfl) (fun G hG X E => ?_)
  subst hG
  refine z_ls (ls' := [(0, .ref o), (1, .int c), (2, .int w)]) rfl ?_
  refine z_aload_n X 0 dX11_cell_0 rfl ?_
  refine z_get X fl_X11_10_11 dX11_cell_1 K0 rfl ?_
  refine z_get X fl_X11_56_3 dX11_cell_4 K1 rfl ?_
  refine z_astore_n (ls' := [(3, .ref (o + 1 + 1)), (0, .ref o), (1, .int c), (2, .int w)]) X dX11_cell_7 (by decide) rfl ?_
  refine z_aload_n X 0 dX11_cell_8 rfl ?_
  refine z_iload_n X 2 dX11_cell_9 rfl ?_
  refine z_callV X (c_has (κ := κ) (n := n) (i := (o + 1 + 1)) (len := (len)) (now := (d 0)) (dd := (d 2)) (dr := (d 3)) (cc := (nI nc)) (on := (d 10)) (cold := (cold)) (wind := (wind)) (c := (c)) K2 (by first | assumption | omega)) mk_X2_has dX11_cell_10 wd_252 wd_253 wd_254 rfl K2 rfl rfl rfl (Nat.le_of_ble_eq_true rfl) (Nat.le_of_ble_eq_true rfl) (Nat.le_of_ble_eq_true rfl) (by omega) (by omega) (fun q zh1 zm3 zp4 => ?_)
  obtain ⟨rfl, ze2, zn5⟩ := zp4
  subst zm3
  subst zh1
  refine z_st (st' := [.int (b2i (0 ≤ (c : Int32).toInt ∧ (c : Int32).toInt ≤ ((len : Nat) : Int) - 1))]) rfl ?_
  refine z_if_eq X 25 dX11_cell_13 (by decide) (fun zc6 => ?_) (fun zc6 => ?_)
  · replace zc6 := b2i_f zc6
    refine z_aload_n X 1 dX11_cell_25 rfl ?_
    refine z_iconst (v := 1) X dX11_cell_26 (by decide) ?_
    refine z_callV X (c_fail (κ := κ) (n := n) (o := (o)) (im := (im)) (fo := (fo)) (k := (1)) K0 K5 (by first | assumption | omega) (by first | assumption | omega)) mk_X11_fail dX11_cell_27 wd_260 wd_262 wd_0 rfl K0 rfl rfl rfl (Nat.le_of_ble_eq_true rfl) (Nat.le_of_ble_eq_true rfl) (Nat.le_of_ble_eq_true rfl) (by omega) (by omega) (fun q zh7 zm9 zp10 => ?_)
    obtain ⟨rfl, ze8, zn11⟩ := zp10
    subst zm9
    refine z_st (st' := [.int (lowE 1)]) rfl ?_
    have zK12 : zh7 o = some (.inr (11, [.ref (o + 1), .ref (o + 14), .ref (o + 27), .ref (o + 33), .ref (o + 42), .ref (o + 55), .ref (o + 57), .ref (o + 59), .ref (o + 61), .int im])) := by rw [ze8]; rw [va_up_ne _ _ (show o ≠ o + 61 by omega)]; exact K0
    have zK13 : zh7 (o + 1) = some (.inr (3, [.ref (o + 1 + 1), .ref (o + 1 + 7), .ref (o + 1 + 9), .ref (o + 1 + 11), .int (d 13)])) := by rw [ze8]; rw [va_up_ne _ _ (show o + 1 ≠ o + 61 by omega)]; exact K1
    have zK14 : zh7 (o + 2) = some (.inr (2, [.ref (o + 3), .ref (o + 4), .ref (o + 5), .ref (o + 6), .ref (o + 7), .int (nI len), .int (d 0), .int (d 2), .int (d 3), .int (nI nc), .int (d 10), .int cold, .int wind])) := by rw [ze8]; rw [va_up_ne _ _ (show o + 2 ≠ o + 61 by omega)]; exact K2
    have zK15 : zh7 (o + 3) = arI κ 40 (win 100 40 d) := by rw [ze8]; rw [va_up_ne _ _ (show o + 3 ≠ o + 61 by omega)]; exact K3
    have zK16 : zh7 (o + 4) = arI κ 40 (win 140 40 d) := by rw [ze8]; rw [va_up_ne _ _ (show o + 4 ≠ o + 61 by omega)]; exact K4
    have zK17 : zh7 (o + 61) = arI κ 6 (bmp fo 1) := by rw [ze8]; exact va_up_self _ _ _
    have zl18 : ∀ zq : Nat, zq < (o + 76) → zq ≠ (o + 61) → zh7 zq = h zq := by intro zq hzq zn0; rw [ze8, va_up_ne _ _ (show zq ≠ o + 61 by omega)]; try rfl
    have zr19 : Zr κ (o + 76) h zh7 := (Zr.refl).trans (Zr.same (fun zq h1 => by rw [ze8, va_up_ne _ _ (show zq ≠ o + 61 by omega)]))
    refine z_iret X E dX11_cell_30 (by omega) (by omega) ⟨?_, ?_, ?_, ?_, ?_⟩
    · generalize hzz : opCell d len c w = zz1; unfold opCell at hzz; (try simp only [ i_eq, i_lt, i_le, show (-1 : Int32).toInt = -1 by decide, show (0 : Int32).toInt = 0 by decide, show (1 : Int32).toInt = 1 by decide, show (2 : Int32).toInt = 2 by decide, show (3 : Int32).toInt = 3 by decide, show (4 : Int32).toInt = 4 by decide, show (5 : Int32).toInt = 5 by decide, show (6 : Int32).toInt = 6 by decide, show (7 : Int32).toInt = 7 by decide, show (8 : Int32).toInt = 8 by decide, show (9 : Int32).toInt = 9 by decide, show (10 : Int32).toInt = 10 by decide, show (11 : Int32).toInt = 11 by decide, show (12 : Int32).toInt = 12 by decide, show (13 : Int32).toInt = 13 by decide, show (14 : Int32).toInt = 14 by decide, show (15 : Int32).toInt = 15 by decide, show (16 : Int32).toInt = 16 by decide, show (20 : Int32).toInt = 20 by decide, show (39 : Int32).toInt = 39 by decide, show (40 : Int32).toInt = 40 by decide, show (50 : Int32).toInt = 50 by decide, show (60 : Int32).toInt = 60 by decide, show (99 : Int32).toInt = 99 by decide, show (100 : Int32).toInt = 100 by decide, show (999 : Int32).toInt = 999 by decide, show (9999 : Int32).toInt = 9999 by decide, show (99999 : Int32).toInt = 99999 by decide, show (999999 : Int32).toInt = 999999 by decide, show (9999999 : Int32).toInt = 9999999 by decide, show (-50 : Int32).toInt = -50 by decide, show (32 : Int32).toInt = 32 by decide] at *); (repeat first | rw [if_pos (by omega)] at hzz | rw [if_neg (by omega)] at hzz); subst hzz; first | rfl | exact congrArg (fun z => some (Value.int z)) (ansOf_0 _).symm
    · rfl
    · exact fun zq hzq zn0 => zl18 zq hzq zn0
    · exact zr19
    · generalize hzz : opCell d len c w = zz1; unfold opCell at hzz; (try simp only [ i_eq, i_lt, i_le, show (-1 : Int32).toInt = -1 by decide, show (0 : Int32).toInt = 0 by decide, show (1 : Int32).toInt = 1 by decide, show (2 : Int32).toInt = 2 by decide, show (3 : Int32).toInt = 3 by decide, show (4 : Int32).toInt = 4 by decide, show (5 : Int32).toInt = 5 by decide, show (6 : Int32).toInt = 6 by decide, show (7 : Int32).toInt = 7 by decide, show (8 : Int32).toInt = 8 by decide, show (9 : Int32).toInt = 9 by decide, show (10 : Int32).toInt = 10 by decide, show (11 : Int32).toInt = 11 by decide, show (12 : Int32).toInt = 12 by decide, show (13 : Int32).toInt = 13 by decide, show (14 : Int32).toInt = 14 by decide, show (15 : Int32).toInt = 15 by decide, show (16 : Int32).toInt = 16 by decide, show (20 : Int32).toInt = 20 by decide, show (39 : Int32).toInt = 39 by decide, show (40 : Int32).toInt = 40 by decide, show (50 : Int32).toInt = 50 by decide, show (60 : Int32).toInt = 60 by decide, show (99 : Int32).toInt = 99 by decide, show (100 : Int32).toInt = 100 by decide, show (999 : Int32).toInt = 999 by decide, show (9999 : Int32).toInt = 9999 by decide, show (99999 : Int32).toInt = 99999 by decide, show (999999 : Int32).toInt = 999999 by decide, show (9999999 : Int32).toInt = 9999999 by decide, show (-50 : Int32).toInt = -50 by decide, show (32 : Int32).toInt = 32 by decide] at *); (repeat first | rw [if_pos (by omega)] at hzz | rw [if_neg (by omega)] at hzz); subst hzz; exact zK17
  · replace zc6 := b2i_t zc6
    refine z_iload_n X 3 dX11_cell_16 rfl ?_
    refine z_iconst (v := 0) X dX11_cell_17 (by decide) ?_
    refine z_iconst (v := 2) X dX11_cell_18 (by decide) ?_
    refine z_callS X (c_within (κ := κ) (n := n) (v := (w)) (lo := (0)) (hi := (2))  ) mk_X11_within dX11_cell_19 wd_259 wd_257 rfl rfl (Nat.le_of_ble_eq_true rfl) (Nat.le_of_ble_eq_true rfl) (Nat.le_of_ble_eq_true rfl) (by omega) (by omega) (fun q zh20 zm22 zp23 => ?_)
    obtain ⟨rfl, ze21, zn24⟩ := zp23
    subst zm22
    subst zh20
    refine z_st (st' := [.int (b2i ((0 : Int32).toInt ≤ (w : Int32).toInt ∧ (w : Int32).toInt ≤ (2 : Int32).toInt))]) rfl ?_
    refine z_toe (y := b2i (0 ≤ w.toInt ∧ w.toInt ≤ 2)) (by simp only [show (0 : Int32).toInt = 0 by decide, show (2 : Int32).toInt = 2 by decide]) ?_
    refine z_if_ne X 31 dX11_cell_22 (by decide) (fun zc25 => ?_) (fun zc25 => ?_)
    · replace zc25 := b2i_t zc25
      obtain ⟨ck, hck, rfl⟩ := ix_of (c := c) (len := len) (by omega) (by omega)
      refine z_iload_n X 3 dX11_cell_31 rfl ?_
      refine z_if_ne X 41 dX11_cell_32 (by decide) (fun zc26 => ?_) (fun zc26 => ?_)
      · refine z_iload_n X 3 dX11_cell_41 rfl ?_
        refine z_iconst (v := 1) X dX11_cell_42 (by decide) ?_
        refine z_icmp_ne X 54 dX11_cell_43 (by decide) (fun zc27 => ?_) (fun zc27 => ?_)
        · refine z_aload_n X 0 dX11_cell_54 rfl ?_
          refine z_iload_n X 2 dX11_cell_55 rfl ?_
          refine z_callV X (c_standsOut (κ := κ) (n := n) (i := (o + 1 + 1)) (len := (len)) (m := (d)) (now := (d 0)) (dd := (d 2)) (dr := (d 3)) (cc := (nI nc)) (on := (d 10)) (cold := (cold)) (wind := (wind)) (c := (ck)) K2 K3 (by first | assumption | omega) (by first | assumption | omega)) mk_X2_standsOut dX11_cell_56 wd_274 wd_275 wd_276 rfl K2 rfl rfl rfl (Nat.le_of_ble_eq_true rfl) (Nat.le_of_ble_eq_true rfl) (Nat.le_of_ble_eq_true rfl) (by omega) (by omega) (fun q zh28 zm30 zp31 => ?_)
          obtain ⟨rfl, ze29, zn32⟩ := zp31
          subst zm30
          subst zh28
          refine z_st (st' := [.int (soR d len ck)]) rfl ?_
          refine z_iret X E dX11_cell_59 (by omega) (by omega) ⟨?_, ?_, ?_, ?_, ?_⟩
          · generalize hzz : opCell d len (nI ck) w = zz1; unfold opCell at hzz; (try simp only [i_nI (n := ck) (by omega), nI_clamp (n := ck) (by omega),  i_eq, i_lt, i_le, show (-1 : Int32).toInt = -1 by decide, show (0 : Int32).toInt = 0 by decide, show (1 : Int32).toInt = 1 by decide, show (2 : Int32).toInt = 2 by decide, show (3 : Int32).toInt = 3 by decide, show (4 : Int32).toInt = 4 by decide, show (5 : Int32).toInt = 5 by decide, show (6 : Int32).toInt = 6 by decide, show (7 : Int32).toInt = 7 by decide, show (8 : Int32).toInt = 8 by decide, show (9 : Int32).toInt = 9 by decide, show (10 : Int32).toInt = 10 by decide, show (11 : Int32).toInt = 11 by decide, show (12 : Int32).toInt = 12 by decide, show (13 : Int32).toInt = 13 by decide, show (14 : Int32).toInt = 14 by decide, show (15 : Int32).toInt = 15 by decide, show (16 : Int32).toInt = 16 by decide, show (20 : Int32).toInt = 20 by decide, show (39 : Int32).toInt = 39 by decide, show (40 : Int32).toInt = 40 by decide, show (50 : Int32).toInt = 50 by decide, show (60 : Int32).toInt = 60 by decide, show (99 : Int32).toInt = 99 by decide, show (100 : Int32).toInt = 100 by decide, show (999 : Int32).toInt = 999 by decide, show (9999 : Int32).toInt = 9999 by decide, show (99999 : Int32).toInt = 99999 by decide, show (999999 : Int32).toInt = 999999 by decide, show (9999999 : Int32).toInt = 9999999 by decide, show (-50 : Int32).toInt = -50 by decide, show (32 : Int32).toInt = 32 by decide] at *); (repeat first | rw [if_pos (by omega)] at hzz | rw [if_neg (by omega)] at hzz); subst hzz; first | rfl | exact congrArg (fun z => some (Value.int z)) (ansOf_0 _).symm
          · rfl
          · exact fun zq hzq zn0 => rfl
          · exact Zr.refl
          · generalize hzz : opCell d len (nI ck) w = zz1; unfold opCell at hzz; (try simp only [i_nI (n := ck) (by omega), nI_clamp (n := ck) (by omega),  i_eq, i_lt, i_le, show (-1 : Int32).toInt = -1 by decide, show (0 : Int32).toInt = 0 by decide, show (1 : Int32).toInt = 1 by decide, show (2 : Int32).toInt = 2 by decide, show (3 : Int32).toInt = 3 by decide, show (4 : Int32).toInt = 4 by decide, show (5 : Int32).toInt = 5 by decide, show (6 : Int32).toInt = 6 by decide, show (7 : Int32).toInt = 7 by decide, show (8 : Int32).toInt = 8 by decide, show (9 : Int32).toInt = 9 by decide, show (10 : Int32).toInt = 10 by decide, show (11 : Int32).toInt = 11 by decide, show (12 : Int32).toInt = 12 by decide, show (13 : Int32).toInt = 13 by decide, show (14 : Int32).toInt = 14 by decide, show (15 : Int32).toInt = 15 by decide, show (16 : Int32).toInt = 16 by decide, show (20 : Int32).toInt = 20 by decide, show (39 : Int32).toInt = 39 by decide, show (40 : Int32).toInt = 40 by decide, show (50 : Int32).toInt = 50 by decide, show (60 : Int32).toInt = 60 by decide, show (99 : Int32).toInt = 99 by decide, show (100 : Int32).toInt = 100 by decide, show (999 : Int32).toInt = 999 by decide, show (9999 : Int32).toInt = 9999 by decide, show (99999 : Int32).toInt = 99999 by decide, show (999999 : Int32).toInt = 999999 by decide, show (9999999 : Int32).toInt = 9999999 by decide, show (-50 : Int32).toInt = -50 by decide, show (32 : Int32).toInt = 32 by decide] at *); (repeat first | rw [if_pos (by omega)] at hzz | rw [if_neg (by omega)] at hzz); subst hzz; exact K5
        · refine z_aload_n X 0 dX11_cell_46 rfl ?_
          refine z_iload_n X 2 dX11_cell_47 rfl ?_
          refine z_callV X (c_saltAt (κ := κ) (n := n) (i := (o + 1 + 1)) (len := (len)) (m := (d)) (now := (d 0)) (dd := (d 2)) (dr := (d 3)) (cc := (nI nc)) (on := (d 10)) (cold := (cold)) (wind := (wind)) (k := (ck)) K2 K4 (by first | assumption | omega) (by first | assumption | omega)) mk_X2_saltAt dX11_cell_48 wd_270 wd_271 wd_272 rfl K2 rfl rfl rfl (Nat.le_of_ble_eq_true rfl) (Nat.le_of_ble_eq_true rfl) (Nat.le_of_ble_eq_true rfl) (by omega) (by omega) (fun q zh33 zm35 zp36 => ?_)
          obtain ⟨rfl, ze34, zn37⟩ := zp36
          subst zm35
          subst zh33
          refine z_st (st' := [.int (wAt d 140 len ck)]) rfl ?_
          refine z_toe (y := d (140 + ck)) (wAt_t (by omega)) ?_
          refine z_goto X 59 dX11_cell_51 (by decide) ?_
          refine z_iret X E dX11_cell_59 (by omega) (by omega) ⟨?_, ?_, ?_, ?_, ?_⟩
          · generalize hzz : opCell d len (nI ck) w = zz1; unfold opCell at hzz; (try simp only [i_nI (n := ck) (by omega), nI_clamp (n := ck) (by omega),  i_eq, i_lt, i_le, show (-1 : Int32).toInt = -1 by decide, show (0 : Int32).toInt = 0 by decide, show (1 : Int32).toInt = 1 by decide, show (2 : Int32).toInt = 2 by decide, show (3 : Int32).toInt = 3 by decide, show (4 : Int32).toInt = 4 by decide, show (5 : Int32).toInt = 5 by decide, show (6 : Int32).toInt = 6 by decide, show (7 : Int32).toInt = 7 by decide, show (8 : Int32).toInt = 8 by decide, show (9 : Int32).toInt = 9 by decide, show (10 : Int32).toInt = 10 by decide, show (11 : Int32).toInt = 11 by decide, show (12 : Int32).toInt = 12 by decide, show (13 : Int32).toInt = 13 by decide, show (14 : Int32).toInt = 14 by decide, show (15 : Int32).toInt = 15 by decide, show (16 : Int32).toInt = 16 by decide, show (20 : Int32).toInt = 20 by decide, show (39 : Int32).toInt = 39 by decide, show (40 : Int32).toInt = 40 by decide, show (50 : Int32).toInt = 50 by decide, show (60 : Int32).toInt = 60 by decide, show (99 : Int32).toInt = 99 by decide, show (100 : Int32).toInt = 100 by decide, show (999 : Int32).toInt = 999 by decide, show (9999 : Int32).toInt = 9999 by decide, show (99999 : Int32).toInt = 99999 by decide, show (999999 : Int32).toInt = 999999 by decide, show (9999999 : Int32).toInt = 9999999 by decide, show (-50 : Int32).toInt = -50 by decide, show (32 : Int32).toInt = 32 by decide] at *); (repeat first | rw [if_pos (by omega)] at hzz | rw [if_neg (by omega)] at hzz); subst hzz; first | rfl | exact congrArg (fun z => some (Value.int z)) (ansOf_0 _).symm
          · rfl
          · exact fun zq hzq zn0 => rfl
          · exact Zr.refl
          · generalize hzz : opCell d len (nI ck) w = zz1; unfold opCell at hzz; (try simp only [i_nI (n := ck) (by omega), nI_clamp (n := ck) (by omega),  i_eq, i_lt, i_le, show (-1 : Int32).toInt = -1 by decide, show (0 : Int32).toInt = 0 by decide, show (1 : Int32).toInt = 1 by decide, show (2 : Int32).toInt = 2 by decide, show (3 : Int32).toInt = 3 by decide, show (4 : Int32).toInt = 4 by decide, show (5 : Int32).toInt = 5 by decide, show (6 : Int32).toInt = 6 by decide, show (7 : Int32).toInt = 7 by decide, show (8 : Int32).toInt = 8 by decide, show (9 : Int32).toInt = 9 by decide, show (10 : Int32).toInt = 10 by decide, show (11 : Int32).toInt = 11 by decide, show (12 : Int32).toInt = 12 by decide, show (13 : Int32).toInt = 13 by decide, show (14 : Int32).toInt = 14 by decide, show (15 : Int32).toInt = 15 by decide, show (16 : Int32).toInt = 16 by decide, show (20 : Int32).toInt = 20 by decide, show (39 : Int32).toInt = 39 by decide, show (40 : Int32).toInt = 40 by decide, show (50 : Int32).toInt = 50 by decide, show (60 : Int32).toInt = 60 by decide, show (99 : Int32).toInt = 99 by decide, show (100 : Int32).toInt = 100 by decide, show (999 : Int32).toInt = 999 by decide, show (9999 : Int32).toInt = 9999 by decide, show (99999 : Int32).toInt = 99999 by decide, show (999999 : Int32).toInt = 999999 by decide, show (9999999 : Int32).toInt = 9999999 by decide, show (-50 : Int32).toInt = -50 by decide, show (32 : Int32).toInt = 32 by decide] at *); (repeat first | rw [if_pos (by omega)] at hzz | rw [if_neg (by omega)] at hzz); subst hzz; exact K5
      · refine z_aload_n X 0 dX11_cell_35 rfl ?_
        refine z_iload_n X 2 dX11_cell_36 rfl ?_
        refine z_callV X (c_wideAt (κ := κ) (n := n) (i := (o + 1 + 1)) (len := (len)) (m := (d)) (now := (d 0)) (dd := (d 2)) (dr := (d 3)) (cc := (nI nc)) (on := (d 10)) (cold := (cold)) (wind := (wind)) (k := (ck)) K2 K3 (by first | assumption | omega) (by first | assumption | omega)) mk_X2_wideAt dX11_cell_37 wd_265 wd_266 wd_267 rfl K2 rfl rfl rfl (Nat.le_of_ble_eq_true rfl) (Nat.le_of_ble_eq_true rfl) (Nat.le_of_ble_eq_true rfl) (by omega) (by omega) (fun q zh38 zm40 zp41 => ?_)
        obtain ⟨rfl, ze39, zn42⟩ := zp41
        subst zm40
        subst zh38
        refine z_st (st' := [.int (wAt d 100 len ck)]) rfl ?_
        refine z_toe (y := d (100 + ck)) (wAt_t (by omega)) ?_
        refine z_iret X E dX11_cell_40 (by omega) (by omega) ⟨?_, ?_, ?_, ?_, ?_⟩
        · generalize hzz : opCell d len (nI ck) w = zz1; unfold opCell at hzz; (try simp only [i_nI (n := ck) (by omega), nI_clamp (n := ck) (by omega),  i_eq, i_lt, i_le, show (-1 : Int32).toInt = -1 by decide, show (0 : Int32).toInt = 0 by decide, show (1 : Int32).toInt = 1 by decide, show (2 : Int32).toInt = 2 by decide, show (3 : Int32).toInt = 3 by decide, show (4 : Int32).toInt = 4 by decide, show (5 : Int32).toInt = 5 by decide, show (6 : Int32).toInt = 6 by decide, show (7 : Int32).toInt = 7 by decide, show (8 : Int32).toInt = 8 by decide, show (9 : Int32).toInt = 9 by decide, show (10 : Int32).toInt = 10 by decide, show (11 : Int32).toInt = 11 by decide, show (12 : Int32).toInt = 12 by decide, show (13 : Int32).toInt = 13 by decide, show (14 : Int32).toInt = 14 by decide, show (15 : Int32).toInt = 15 by decide, show (16 : Int32).toInt = 16 by decide, show (20 : Int32).toInt = 20 by decide, show (39 : Int32).toInt = 39 by decide, show (40 : Int32).toInt = 40 by decide, show (50 : Int32).toInt = 50 by decide, show (60 : Int32).toInt = 60 by decide, show (99 : Int32).toInt = 99 by decide, show (100 : Int32).toInt = 100 by decide, show (999 : Int32).toInt = 999 by decide, show (9999 : Int32).toInt = 9999 by decide, show (99999 : Int32).toInt = 99999 by decide, show (999999 : Int32).toInt = 999999 by decide, show (9999999 : Int32).toInt = 9999999 by decide, show (-50 : Int32).toInt = -50 by decide, show (32 : Int32).toInt = 32 by decide] at *); (repeat first | rw [if_pos (by omega)] at hzz | rw [if_neg (by omega)] at hzz); subst hzz; first | rfl | exact congrArg (fun z => some (Value.int z)) (ansOf_0 _).symm
        · rfl
        · exact fun zq hzq zn0 => rfl
        · exact Zr.refl
        · generalize hzz : opCell d len (nI ck) w = zz1; unfold opCell at hzz; (try simp only [i_nI (n := ck) (by omega), nI_clamp (n := ck) (by omega),  i_eq, i_lt, i_le, show (-1 : Int32).toInt = -1 by decide, show (0 : Int32).toInt = 0 by decide, show (1 : Int32).toInt = 1 by decide, show (2 : Int32).toInt = 2 by decide, show (3 : Int32).toInt = 3 by decide, show (4 : Int32).toInt = 4 by decide, show (5 : Int32).toInt = 5 by decide, show (6 : Int32).toInt = 6 by decide, show (7 : Int32).toInt = 7 by decide, show (8 : Int32).toInt = 8 by decide, show (9 : Int32).toInt = 9 by decide, show (10 : Int32).toInt = 10 by decide, show (11 : Int32).toInt = 11 by decide, show (12 : Int32).toInt = 12 by decide, show (13 : Int32).toInt = 13 by decide, show (14 : Int32).toInt = 14 by decide, show (15 : Int32).toInt = 15 by decide, show (16 : Int32).toInt = 16 by decide, show (20 : Int32).toInt = 20 by decide, show (39 : Int32).toInt = 39 by decide, show (40 : Int32).toInt = 40 by decide, show (50 : Int32).toInt = 50 by decide, show (60 : Int32).toInt = 60 by decide, show (99 : Int32).toInt = 99 by decide, show (100 : Int32).toInt = 100 by decide, show (999 : Int32).toInt = 999 by decide, show (9999 : Int32).toInt = 9999 by decide, show (99999 : Int32).toInt = 99999 by decide, show (999999 : Int32).toInt = 999999 by decide, show (9999999 : Int32).toInt = 9999999 by decide, show (-50 : Int32).toInt = -50 by decide, show (32 : Int32).toInt = 32 by decide] at *); (repeat first | rw [if_pos (by omega)] at hzz | rw [if_neg (by omega)] at hzz); subst hzz; exact K5
    · replace zc25 := b2i_f zc25
      refine z_aload_n X 1 dX11_cell_25 rfl ?_
      refine z_iconst (v := 1) X dX11_cell_26 (by decide) ?_
      refine z_callV X (c_fail (κ := κ) (n := n) (o := (o)) (im := (im)) (fo := (fo)) (k := (1)) K0 K5 (by first | assumption | omega) (by first | assumption | omega)) mk_X11_fail dX11_cell_27 wd_260 wd_262 wd_0 rfl K0 rfl rfl rfl (Nat.le_of_ble_eq_true rfl) (Nat.le_of_ble_eq_true rfl) (Nat.le_of_ble_eq_true rfl) (by omega) (by omega) (fun q zh43 zm45 zp46 => ?_)
      obtain ⟨rfl, ze44, zn47⟩ := zp46
      subst zm45
      refine z_st (st' := [.int (lowE 1)]) rfl ?_
      have zK48 : zh43 o = some (.inr (11, [.ref (o + 1), .ref (o + 14), .ref (o + 27), .ref (o + 33), .ref (o + 42), .ref (o + 55), .ref (o + 57), .ref (o + 59), .ref (o + 61), .int im])) := by rw [ze44]; rw [va_up_ne _ _ (show o ≠ o + 61 by omega)]; exact K0
      have zK49 : zh43 (o + 1) = some (.inr (3, [.ref (o + 1 + 1), .ref (o + 1 + 7), .ref (o + 1 + 9), .ref (o + 1 + 11), .int (d 13)])) := by rw [ze44]; rw [va_up_ne _ _ (show o + 1 ≠ o + 61 by omega)]; exact K1
      have zK50 : zh43 (o + 2) = some (.inr (2, [.ref (o + 3), .ref (o + 4), .ref (o + 5), .ref (o + 6), .ref (o + 7), .int (nI len), .int (d 0), .int (d 2), .int (d 3), .int (nI nc), .int (d 10), .int cold, .int wind])) := by rw [ze44]; rw [va_up_ne _ _ (show o + 2 ≠ o + 61 by omega)]; exact K2
      have zK51 : zh43 (o + 3) = arI κ 40 (win 100 40 d) := by rw [ze44]; rw [va_up_ne _ _ (show o + 3 ≠ o + 61 by omega)]; exact K3
      have zK52 : zh43 (o + 4) = arI κ 40 (win 140 40 d) := by rw [ze44]; rw [va_up_ne _ _ (show o + 4 ≠ o + 61 by omega)]; exact K4
      have zK53 : zh43 (o + 61) = arI κ 6 (bmp fo 1) := by rw [ze44]; exact va_up_self _ _ _
      have zl54 : ∀ zq : Nat, zq < (o + 76) → zq ≠ (o + 61) → zh43 zq = h zq := by intro zq hzq zn0; rw [ze44, va_up_ne _ _ (show zq ≠ o + 61 by omega)]; try rfl
      have zr55 : Zr κ (o + 76) h zh43 := (Zr.refl).trans (Zr.same (fun zq h1 => by rw [ze44, va_up_ne _ _ (show zq ≠ o + 61 by omega)]))
      refine z_iret X E dX11_cell_30 (by omega) (by omega) ⟨?_, ?_, ?_, ?_, ?_⟩
      · generalize hzz : opCell d len c w = zz1; unfold opCell at hzz; (try simp only [ i_eq, i_lt, i_le, show (-1 : Int32).toInt = -1 by decide, show (0 : Int32).toInt = 0 by decide, show (1 : Int32).toInt = 1 by decide, show (2 : Int32).toInt = 2 by decide, show (3 : Int32).toInt = 3 by decide, show (4 : Int32).toInt = 4 by decide, show (5 : Int32).toInt = 5 by decide, show (6 : Int32).toInt = 6 by decide, show (7 : Int32).toInt = 7 by decide, show (8 : Int32).toInt = 8 by decide, show (9 : Int32).toInt = 9 by decide, show (10 : Int32).toInt = 10 by decide, show (11 : Int32).toInt = 11 by decide, show (12 : Int32).toInt = 12 by decide, show (13 : Int32).toInt = 13 by decide, show (14 : Int32).toInt = 14 by decide, show (15 : Int32).toInt = 15 by decide, show (16 : Int32).toInt = 16 by decide, show (20 : Int32).toInt = 20 by decide, show (39 : Int32).toInt = 39 by decide, show (40 : Int32).toInt = 40 by decide, show (50 : Int32).toInt = 50 by decide, show (60 : Int32).toInt = 60 by decide, show (99 : Int32).toInt = 99 by decide, show (100 : Int32).toInt = 100 by decide, show (999 : Int32).toInt = 999 by decide, show (9999 : Int32).toInt = 9999 by decide, show (99999 : Int32).toInt = 99999 by decide, show (999999 : Int32).toInt = 999999 by decide, show (9999999 : Int32).toInt = 9999999 by decide, show (-50 : Int32).toInt = -50 by decide, show (32 : Int32).toInt = 32 by decide] at *); (repeat first | rw [if_pos (by omega)] at hzz | rw [if_neg (by omega)] at hzz); subst hzz; first | rfl | exact congrArg (fun z => some (Value.int z)) (ansOf_0 _).symm
      · rfl
      · exact fun zq hzq zn0 => zl54 zq hzq zn0
      · exact zr55
      · generalize hzz : opCell d len c w = zz1; unfold opCell at hzz; (try simp only [ i_eq, i_lt, i_le, show (-1 : Int32).toInt = -1 by decide, show (0 : Int32).toInt = 0 by decide, show (1 : Int32).toInt = 1 by decide, show (2 : Int32).toInt = 2 by decide, show (3 : Int32).toInt = 3 by decide, show (4 : Int32).toInt = 4 by decide, show (5 : Int32).toInt = 5 by decide, show (6 : Int32).toInt = 6 by decide, show (7 : Int32).toInt = 7 by decide, show (8 : Int32).toInt = 8 by decide, show (9 : Int32).toInt = 9 by decide, show (10 : Int32).toInt = 10 by decide, show (11 : Int32).toInt = 11 by decide, show (12 : Int32).toInt = 12 by decide, show (13 : Int32).toInt = 13 by decide, show (14 : Int32).toInt = 14 by decide, show (15 : Int32).toInt = 15 by decide, show (16 : Int32).toInt = 16 by decide, show (20 : Int32).toInt = 20 by decide, show (39 : Int32).toInt = 39 by decide, show (40 : Int32).toInt = 40 by decide, show (50 : Int32).toInt = 50 by decide, show (60 : Int32).toInt = 60 by decide, show (99 : Int32).toInt = 99 by decide, show (100 : Int32).toInt = 100 by decide, show (999 : Int32).toInt = 999 by decide, show (9999 : Int32).toInt = 9999 by decide, show (99999 : Int32).toInt = 99999 by decide, show (999999 : Int32).toInt = 999999 by decide, show (9999999 : Int32).toInt = 9999999 by decide, show (-50 : Int32).toInt = -50 by decide, show (32 : Int32).toInt = 32 by decide] at *); (repeat first | rw [if_pos (by omega)] at hzz | rw [if_neg (by omega)] at hzz); subst hzz; exact zK53
set_option maxHeartbeats 4000000 in
set_option maxRecDepth 100000 in
theorem p_shape {κ : Wc} {l : Launch} {h : Mm} {n : Nat} {o : Nat} {im : Int32} {d : Nat → Int32} {len : Nat} {nc : Nat} {cold : Int32} {wind : Int32} {fo : Nat → Int32} {c : Int32} {w : Int32} {v : Int32} (K0 : h o = some (.inr (11, [.ref (o + 1), .ref (o + 14), .ref (o + 27), .ref (o + 33), .ref (o + 42), .ref (o + 55), .ref (o + 57), .ref (o + 59), .ref (o + 61), .int im]))) (K1 : h (o + 1) = some (.inr (3, [.ref (o + 1 + 1), .ref (o + 1 + 7), .ref (o + 1 + 9), .ref (o + 1 + 11), .int (d 13)]))) (K2 : h (o + 2) = some (.inr (2, [.ref (o + 3), .ref (o + 4), .ref (o + 5), .ref (o + 6), .ref (o + 7), .int (nI len), .int (d 0), .int (d 2), .int (d 3), .int (nI nc), .int (d 10), .int cold, .int wind]))) (K3 : h (o + 3) = arI κ 40 (win 100 40 d)) (K4 : h (o + 4) = arI κ 40 (win 140 40 d)) (K5 : h (o + 61) = arI κ 6 fo) (q1 : d 1 = nI len) (q2 : 1 ≤ len) (q3 : len ≤ 40) : Con κ l yX11_shape cX11_shape 7 (some .int) 4 0 0 [.ref o, .int c, .int w, .int v] h n (fun q h' n' => q = some (.int (ansOf (opShape d len c w v))) ∧ n' = n ∧ (∀ zq : Nat, zq < (o + 76) → zq ≠ (o + 3) → zq ≠ (o + 4) → zq ≠ (o + 61) → h' zq = h zq) ∧ Zr κ (o + 76) h h' ∧ h' (o + 3) = arI κ 40 (win 100 40 (dShape d len c w v)) ∧ h' (o + 4) = arI κ 40 (win 140 40 (dShape d len c w v)) ∧ h' (o + 61) = arI κ 6 (bump (opShape d len c w v) fo)) := by
  refine Con.of mk_X11_shape (Nat.le_of_ble_eq_true rfl) (fun G hG X E => ?_)
  subst hG
  refine z_ls (ls' := [(0, .ref o), (1, .int c), (2, .int w), (3, .int v)]) rfl ?_
  refine z_aload_n X 0 dX11_shape_0 rfl ?_
  refine z_get X fl_X11_10_11 dX11_shape_1 K0 rfl ?_
  refine z_get X fl_X11_56_3 dX11_shape_4 K1 rfl ?_
  refine z_astore (ls' := [(4, .ref (o + 1 + 1)), (0, .ref o), (1, .int c), (2, .int w), (3, .int v)]) X dX11_shape_7 (by decide) rfl ?_
  refine z_aload X 0 dX11_shape_9 rfl ?_
  refine z_iload_n X 2 dX11_shape_11 rfl ?_
  refine z_callV X (c_has (κ := κ) (n := n) (i := (o + 1 + 1)) (len := (len)) (now := (d 0)) (dd := (d 2)) (dr := (d 3)) (cc := (nI nc)) (on := (d 10)) (cold := (cold)) (wind := (wind)) (c := (c)) K2 (by first | assumption | omega)) mk_X2_has dX11_shape_12 wd_252 wd_253 wd_254 rfl K2 rfl rfl rfl (Nat.le_of_ble_eq_true rfl) (Nat.le_of_ble_eq_true rfl) (Nat.le_of_ble_eq_true rfl) (by omega) (by omega) (fun q zh1 zm3 zp4 => ?_)
  obtain ⟨rfl, ze2, zn5⟩ := zp4
  subst zm3
  subst zh1
  refine z_st (st' := [.int (b2i (0 ≤ (c : Int32).toInt ∧ (c : Int32).toInt ≤ ((len : Nat) : Int) - 1))]) rfl ?_
  refine z_if_eq X 46 dX11_shape_15 (by decide) (fun zc6 => ?_) (fun zc6 => ?_)
  · replace zc6 := b2i_f zc6
    refine z_aload_n X 1 dX11_shape_46 rfl ?_
    refine z_iconst (v := 1) X dX11_shape_47 (by decide) ?_
    refine z_callV X (c_fail (κ := κ) (n := n) (o := (o)) (im := (im)) (fo := (fo)) (k := (1)) K0 K5 (by first | assumption | omega) (by first | assumption | omega)) mk_X11_fail dX11_shape_48 wd_260 wd_262 wd_0 rfl K0 rfl rfl rfl (Nat.le_of_ble_eq_true rfl) (Nat.le_of_ble_eq_true rfl) (Nat.le_of_ble_eq_true rfl) (by omega) (by omega) (fun q zh7 zm9 zp10 => ?_)
    obtain ⟨rfl, ze8, zn11⟩ := zp10
    subst zm9
    refine z_st (st' := [.int (lowE 1)]) rfl ?_
    have zK12 : zh7 o = some (.inr (11, [.ref (o + 1), .ref (o + 14), .ref (o + 27), .ref (o + 33), .ref (o + 42), .ref (o + 55), .ref (o + 57), .ref (o + 59), .ref (o + 61), .int im])) := by rw [ze8]; rw [va_up_ne _ _ (show o ≠ o + 61 by omega)]; exact K0
    have zK13 : zh7 (o + 1) = some (.inr (3, [.ref (o + 1 + 1), .ref (o + 1 + 7), .ref (o + 1 + 9), .ref (o + 1 + 11), .int (d 13)])) := by rw [ze8]; rw [va_up_ne _ _ (show o + 1 ≠ o + 61 by omega)]; exact K1
    have zK14 : zh7 (o + 2) = some (.inr (2, [.ref (o + 3), .ref (o + 4), .ref (o + 5), .ref (o + 6), .ref (o + 7), .int (nI len), .int (d 0), .int (d 2), .int (d 3), .int (nI nc), .int (d 10), .int cold, .int wind])) := by rw [ze8]; rw [va_up_ne _ _ (show o + 2 ≠ o + 61 by omega)]; exact K2
    have zK15 : zh7 (o + 3) = arI κ 40 (win 100 40 d) := by rw [ze8]; rw [va_up_ne _ _ (show o + 3 ≠ o + 61 by omega)]; exact K3
    have zK16 : zh7 (o + 4) = arI κ 40 (win 140 40 d) := by rw [ze8]; rw [va_up_ne _ _ (show o + 4 ≠ o + 61 by omega)]; exact K4
    have zK17 : zh7 (o + 61) = arI κ 6 (bmp fo 1) := by rw [ze8]; exact va_up_self _ _ _
    have zl18 : ∀ zq : Nat, zq < (o + 76) → zq ≠ (o + 61) → zh7 zq = h zq := by intro zq hzq zn0; rw [ze8, va_up_ne _ _ (show zq ≠ o + 61 by omega)]; try rfl
    have zr19 : Zr κ (o + 76) h zh7 := (Zr.refl).trans (Zr.same (fun zq h1 => by rw [ze8, va_up_ne _ _ (show zq ≠ o + 61 by omega)]))
    refine z_iret X E dX11_shape_51 (by omega) (by omega) ⟨?_, ?_, ?_, ?_, ?_, ?_, ?_⟩
    · generalize hzz : opShape d len c w v = zz1; unfold opShape at hzz; (try simp only [ i_eq, i_lt, i_le, show (-1 : Int32).toInt = -1 by decide, show (0 : Int32).toInt = 0 by decide, show (1 : Int32).toInt = 1 by decide, show (2 : Int32).toInt = 2 by decide, show (3 : Int32).toInt = 3 by decide, show (4 : Int32).toInt = 4 by decide, show (5 : Int32).toInt = 5 by decide, show (6 : Int32).toInt = 6 by decide, show (7 : Int32).toInt = 7 by decide, show (8 : Int32).toInt = 8 by decide, show (9 : Int32).toInt = 9 by decide, show (10 : Int32).toInt = 10 by decide, show (11 : Int32).toInt = 11 by decide, show (12 : Int32).toInt = 12 by decide, show (13 : Int32).toInt = 13 by decide, show (14 : Int32).toInt = 14 by decide, show (15 : Int32).toInt = 15 by decide, show (16 : Int32).toInt = 16 by decide, show (20 : Int32).toInt = 20 by decide, show (39 : Int32).toInt = 39 by decide, show (40 : Int32).toInt = 40 by decide, show (50 : Int32).toInt = 50 by decide, show (60 : Int32).toInt = 60 by decide, show (99 : Int32).toInt = 99 by decide, show (100 : Int32).toInt = 100 by decide, show (999 : Int32).toInt = 999 by decide, show (9999 : Int32).toInt = 9999 by decide, show (99999 : Int32).toInt = 99999 by decide, show (999999 : Int32).toInt = 999999 by decide, show (9999999 : Int32).toInt = 9999999 by decide, show (-50 : Int32).toInt = -50 by decide, show (32 : Int32).toInt = 32 by decide] at *); (repeat first | rw [if_pos (by omega)] at hzz | rw [if_neg (by omega)] at hzz); subst hzz; first | rfl | exact congrArg (fun z => some (Value.int z)) (ansOf_0 _).symm
    · rfl
    · exact fun zq hzq zn0 zn1 zn2 => zl18 zq hzq zn2
    · exact zr19
    · generalize hzz : dShape d len c w v = zz1; unfold dShape at hzz; (try simp only [ i_eq, i_lt, i_le, show (-1 : Int32).toInt = -1 by decide, show (0 : Int32).toInt = 0 by decide, show (1 : Int32).toInt = 1 by decide, show (2 : Int32).toInt = 2 by decide, show (3 : Int32).toInt = 3 by decide, show (4 : Int32).toInt = 4 by decide, show (5 : Int32).toInt = 5 by decide, show (6 : Int32).toInt = 6 by decide, show (7 : Int32).toInt = 7 by decide, show (8 : Int32).toInt = 8 by decide, show (9 : Int32).toInt = 9 by decide, show (10 : Int32).toInt = 10 by decide, show (11 : Int32).toInt = 11 by decide, show (12 : Int32).toInt = 12 by decide, show (13 : Int32).toInt = 13 by decide, show (14 : Int32).toInt = 14 by decide, show (15 : Int32).toInt = 15 by decide, show (16 : Int32).toInt = 16 by decide, show (20 : Int32).toInt = 20 by decide, show (39 : Int32).toInt = 39 by decide, show (40 : Int32).toInt = 40 by decide, show (50 : Int32).toInt = 50 by decide, show (60 : Int32).toInt = 60 by decide, show (99 : Int32).toInt = 99 by decide, show (100 : Int32).toInt = 100 by decide, show (999 : Int32).toInt = 999 by decide, show (9999 : Int32).toInt = 9999 by decide, show (99999 : Int32).toInt = 99999 by decide, show (999999 : Int32).toInt = 999999 by decide, show (9999999 : Int32).toInt = 9999999 by decide, show (-50 : Int32).toInt = -50 by decide, show (32 : Int32).toInt = 32 by decide] at *); (repeat first | rw [if_pos (by omega)] at hzz | rw [if_neg (by omega)] at hzz); subst hzz; first | exact zK15 | (rw [win_us (by omega)]; exact zK15) | (rw [win_off (by omega)]; exact zK15)
    · generalize hzz : dShape d len c w v = zz1; unfold dShape at hzz; (try simp only [ i_eq, i_lt, i_le, show (-1 : Int32).toInt = -1 by decide, show (0 : Int32).toInt = 0 by decide, show (1 : Int32).toInt = 1 by decide, show (2 : Int32).toInt = 2 by decide, show (3 : Int32).toInt = 3 by decide, show (4 : Int32).toInt = 4 by decide, show (5 : Int32).toInt = 5 by decide, show (6 : Int32).toInt = 6 by decide, show (7 : Int32).toInt = 7 by decide, show (8 : Int32).toInt = 8 by decide, show (9 : Int32).toInt = 9 by decide, show (10 : Int32).toInt = 10 by decide, show (11 : Int32).toInt = 11 by decide, show (12 : Int32).toInt = 12 by decide, show (13 : Int32).toInt = 13 by decide, show (14 : Int32).toInt = 14 by decide, show (15 : Int32).toInt = 15 by decide, show (16 : Int32).toInt = 16 by decide, show (20 : Int32).toInt = 20 by decide, show (39 : Int32).toInt = 39 by decide, show (40 : Int32).toInt = 40 by decide, show (50 : Int32).toInt = 50 by decide, show (60 : Int32).toInt = 60 by decide, show (99 : Int32).toInt = 99 by decide, show (100 : Int32).toInt = 100 by decide, show (999 : Int32).toInt = 999 by decide, show (9999 : Int32).toInt = 9999 by decide, show (99999 : Int32).toInt = 99999 by decide, show (999999 : Int32).toInt = 999999 by decide, show (9999999 : Int32).toInt = 9999999 by decide, show (-50 : Int32).toInt = -50 by decide, show (32 : Int32).toInt = 32 by decide] at *); (repeat first | rw [if_pos (by omega)] at hzz | rw [if_neg (by omega)] at hzz); subst hzz; first | exact zK16 | (rw [win_us (by omega)]; exact zK16) | (rw [win_off (by omega)]; exact zK16)
    · generalize hzz : opShape d len c w v = zz1; unfold opShape at hzz; (try simp only [ i_eq, i_lt, i_le, show (-1 : Int32).toInt = -1 by decide, show (0 : Int32).toInt = 0 by decide, show (1 : Int32).toInt = 1 by decide, show (2 : Int32).toInt = 2 by decide, show (3 : Int32).toInt = 3 by decide, show (4 : Int32).toInt = 4 by decide, show (5 : Int32).toInt = 5 by decide, show (6 : Int32).toInt = 6 by decide, show (7 : Int32).toInt = 7 by decide, show (8 : Int32).toInt = 8 by decide, show (9 : Int32).toInt = 9 by decide, show (10 : Int32).toInt = 10 by decide, show (11 : Int32).toInt = 11 by decide, show (12 : Int32).toInt = 12 by decide, show (13 : Int32).toInt = 13 by decide, show (14 : Int32).toInt = 14 by decide, show (15 : Int32).toInt = 15 by decide, show (16 : Int32).toInt = 16 by decide, show (20 : Int32).toInt = 20 by decide, show (39 : Int32).toInt = 39 by decide, show (40 : Int32).toInt = 40 by decide, show (50 : Int32).toInt = 50 by decide, show (60 : Int32).toInt = 60 by decide, show (99 : Int32).toInt = 99 by decide, show (100 : Int32).toInt = 100 by decide, show (999 : Int32).toInt = 999 by decide, show (9999 : Int32).toInt = 9999 by decide, show (99999 : Int32).toInt = 99999 by decide, show (999999 : Int32).toInt = 999999 by decide, show (9999999 : Int32).toInt = 9999999 by decide, show (-50 : Int32).toInt = -50 by decide, show (32 : Int32).toInt = 32 by decide] at *); (repeat first | rw [if_pos (by omega)] at hzz | rw [if_neg (by omega)] at hzz); subst hzz; exact zK17
  · replace zc6 := b2i_t zc6
    refine z_iload_n X 3 dX11_shape_18 rfl ?_
    refine z_iconst (v := 0) X dX11_shape_19 (by decide) ?_
    refine z_iconst (v := 1) X dX11_shape_20 (by decide) ?_
    refine z_callS X (c_within (κ := κ) (n := n) (v := (w)) (lo := (0)) (hi := (1))  ) mk_X11_within dX11_shape_21 wd_259 wd_257 rfl rfl (Nat.le_of_ble_eq_true rfl) (Nat.le_of_ble_eq_true rfl) (Nat.le_of_ble_eq_true rfl) (by omega) (by omega) (fun q zh20 zm22 zp23 => ?_)
    obtain ⟨rfl, ze21, zn24⟩ := zp23
    subst zm22
    subst zh20
    refine z_st (st' := [.int (b2i ((0 : Int32).toInt ≤ (w : Int32).toInt ∧ (w : Int32).toInt ≤ (1 : Int32).toInt))]) rfl ?_
    refine z_toe (y := b2i (0 ≤ w.toInt ∧ w.toInt ≤ 1)) (by simp only [show (0 : Int32).toInt = 0 by decide, show (1 : Int32).toInt = 1 by decide]) ?_
    refine z_if_eq X 46 dX11_shape_24 (by decide) (fun zc25 => ?_) (fun zc25 => ?_)
    · replace zc25 := b2i_f zc25
      refine z_aload_n X 1 dX11_shape_46 rfl ?_
      refine z_iconst (v := 1) X dX11_shape_47 (by decide) ?_
      refine z_callV X (c_fail (κ := κ) (n := n) (o := (o)) (im := (im)) (fo := (fo)) (k := (1)) K0 K5 (by first | assumption | omega) (by first | assumption | omega)) mk_X11_fail dX11_shape_48 wd_260 wd_262 wd_0 rfl K0 rfl rfl rfl (Nat.le_of_ble_eq_true rfl) (Nat.le_of_ble_eq_true rfl) (Nat.le_of_ble_eq_true rfl) (by omega) (by omega) (fun q zh26 zm28 zp29 => ?_)
      obtain ⟨rfl, ze27, zn30⟩ := zp29
      subst zm28
      refine z_st (st' := [.int (lowE 1)]) rfl ?_
      have zK31 : zh26 o = some (.inr (11, [.ref (o + 1), .ref (o + 14), .ref (o + 27), .ref (o + 33), .ref (o + 42), .ref (o + 55), .ref (o + 57), .ref (o + 59), .ref (o + 61), .int im])) := by rw [ze27]; rw [va_up_ne _ _ (show o ≠ o + 61 by omega)]; exact K0
      have zK32 : zh26 (o + 1) = some (.inr (3, [.ref (o + 1 + 1), .ref (o + 1 + 7), .ref (o + 1 + 9), .ref (o + 1 + 11), .int (d 13)])) := by rw [ze27]; rw [va_up_ne _ _ (show o + 1 ≠ o + 61 by omega)]; exact K1
      have zK33 : zh26 (o + 2) = some (.inr (2, [.ref (o + 3), .ref (o + 4), .ref (o + 5), .ref (o + 6), .ref (o + 7), .int (nI len), .int (d 0), .int (d 2), .int (d 3), .int (nI nc), .int (d 10), .int cold, .int wind])) := by rw [ze27]; rw [va_up_ne _ _ (show o + 2 ≠ o + 61 by omega)]; exact K2
      have zK34 : zh26 (o + 3) = arI κ 40 (win 100 40 d) := by rw [ze27]; rw [va_up_ne _ _ (show o + 3 ≠ o + 61 by omega)]; exact K3
      have zK35 : zh26 (o + 4) = arI κ 40 (win 140 40 d) := by rw [ze27]; rw [va_up_ne _ _ (show o + 4 ≠ o + 61 by omega)]; exact K4
      have zK36 : zh26 (o + 61) = arI κ 6 (bmp fo 1) := by rw [ze27]; exact va_up_self _ _ _
      have zl37 : ∀ zq : Nat, zq < (o + 76) → zq ≠ (o + 61) → zh26 zq = h zq := by intro zq hzq zn0; rw [ze27, va_up_ne _ _ (show zq ≠ o + 61 by omega)]; try rfl
      have zr38 : Zr κ (o + 76) h zh26 := (Zr.refl).trans (Zr.same (fun zq h1 => by rw [ze27, va_up_ne _ _ (show zq ≠ o + 61 by omega)]))
      refine z_iret X E dX11_shape_51 (by omega) (by omega) ⟨?_, ?_, ?_, ?_, ?_, ?_, ?_⟩
      · generalize hzz : opShape d len c w v = zz1; unfold opShape at hzz; (try simp only [ i_eq, i_lt, i_le, show (-1 : Int32).toInt = -1 by decide, show (0 : Int32).toInt = 0 by decide, show (1 : Int32).toInt = 1 by decide, show (2 : Int32).toInt = 2 by decide, show (3 : Int32).toInt = 3 by decide, show (4 : Int32).toInt = 4 by decide, show (5 : Int32).toInt = 5 by decide, show (6 : Int32).toInt = 6 by decide, show (7 : Int32).toInt = 7 by decide, show (8 : Int32).toInt = 8 by decide, show (9 : Int32).toInt = 9 by decide, show (10 : Int32).toInt = 10 by decide, show (11 : Int32).toInt = 11 by decide, show (12 : Int32).toInt = 12 by decide, show (13 : Int32).toInt = 13 by decide, show (14 : Int32).toInt = 14 by decide, show (15 : Int32).toInt = 15 by decide, show (16 : Int32).toInt = 16 by decide, show (20 : Int32).toInt = 20 by decide, show (39 : Int32).toInt = 39 by decide, show (40 : Int32).toInt = 40 by decide, show (50 : Int32).toInt = 50 by decide, show (60 : Int32).toInt = 60 by decide, show (99 : Int32).toInt = 99 by decide, show (100 : Int32).toInt = 100 by decide, show (999 : Int32).toInt = 999 by decide, show (9999 : Int32).toInt = 9999 by decide, show (99999 : Int32).toInt = 99999 by decide, show (999999 : Int32).toInt = 999999 by decide, show (9999999 : Int32).toInt = 9999999 by decide, show (-50 : Int32).toInt = -50 by decide, show (32 : Int32).toInt = 32 by decide] at *); (repeat first | rw [if_pos (by omega)] at hzz | rw [if_neg (by omega)] at hzz); subst hzz; first | rfl | exact congrArg (fun z => some (Value.int z)) (ansOf_0 _).symm
      · rfl
      · exact fun zq hzq zn0 zn1 zn2 => zl37 zq hzq zn2
      · exact zr38
      · generalize hzz : dShape d len c w v = zz1; unfold dShape at hzz; (try simp only [ i_eq, i_lt, i_le, show (-1 : Int32).toInt = -1 by decide, show (0 : Int32).toInt = 0 by decide, show (1 : Int32).toInt = 1 by decide, show (2 : Int32).toInt = 2 by decide, show (3 : Int32).toInt = 3 by decide, show (4 : Int32).toInt = 4 by decide, show (5 : Int32).toInt = 5 by decide, show (6 : Int32).toInt = 6 by decide, show (7 : Int32).toInt = 7 by decide, show (8 : Int32).toInt = 8 by decide, show (9 : Int32).toInt = 9 by decide, show (10 : Int32).toInt = 10 by decide, show (11 : Int32).toInt = 11 by decide, show (12 : Int32).toInt = 12 by decide, show (13 : Int32).toInt = 13 by decide, show (14 : Int32).toInt = 14 by decide, show (15 : Int32).toInt = 15 by decide, show (16 : Int32).toInt = 16 by decide, show (20 : Int32).toInt = 20 by decide, show (39 : Int32).toInt = 39 by decide, show (40 : Int32).toInt = 40 by decide, show (50 : Int32).toInt = 50 by decide, show (60 : Int32).toInt = 60 by decide, show (99 : Int32).toInt = 99 by decide, show (100 : Int32).toInt = 100 by decide, show (999 : Int32).toInt = 999 by decide, show (9999 : Int32).toInt = 9999 by decide, show (99999 : Int32).toInt = 99999 by decide, show (999999 : Int32).toInt = 999999 by decide, show (9999999 : Int32).toInt = 9999999 by decide, show (-50 : Int32).toInt = -50 by decide, show (32 : Int32).toInt = 32 by decide] at *); (repeat first | rw [if_pos (by omega)] at hzz | rw [if_neg (by omega)] at hzz); subst hzz; first | exact zK34 | (rw [win_us (by omega)]; exact zK34) | (rw [win_off (by omega)]; exact zK34)
      · generalize hzz : dShape d len c w v = zz1; unfold dShape at hzz; (try simp only [ i_eq, i_lt, i_le, show (-1 : Int32).toInt = -1 by decide, show (0 : Int32).toInt = 0 by decide, show (1 : Int32).toInt = 1 by decide, show (2 : Int32).toInt = 2 by decide, show (3 : Int32).toInt = 3 by decide, show (4 : Int32).toInt = 4 by decide, show (5 : Int32).toInt = 5 by decide, show (6 : Int32).toInt = 6 by decide, show (7 : Int32).toInt = 7 by decide, show (8 : Int32).toInt = 8 by decide, show (9 : Int32).toInt = 9 by decide, show (10 : Int32).toInt = 10 by decide, show (11 : Int32).toInt = 11 by decide, show (12 : Int32).toInt = 12 by decide, show (13 : Int32).toInt = 13 by decide, show (14 : Int32).toInt = 14 by decide, show (15 : Int32).toInt = 15 by decide, show (16 : Int32).toInt = 16 by decide, show (20 : Int32).toInt = 20 by decide, show (39 : Int32).toInt = 39 by decide, show (40 : Int32).toInt = 40 by decide, show (50 : Int32).toInt = 50 by decide, show (60 : Int32).toInt = 60 by decide, show (99 : Int32).toInt = 99 by decide, show (100 : Int32).toInt = 100 by decide, show (999 : Int32).toInt = 999 by decide, show (9999 : Int32).toInt = 9999 by decide, show (99999 : Int32).toInt = 99999 by decide, show (999999 : Int32).toInt = 999999 by decide, show (9999999 : Int32).toInt = 9999999 by decide, show (-50 : Int32).toInt = -50 by decide, show (32 : Int32).toInt = 32 by decide] at *); (repeat first | rw [if_pos (by omega)] at hzz | rw [if_neg (by omega)] at hzz); subst hzz; first | exact zK35 | (rw [win_us (by omega)]; exact zK35) | (rw [win_off (by omega)]; exact zK35)
      · generalize hzz : opShape d len c w v = zz1; unfold opShape at hzz; (try simp only [ i_eq, i_lt, i_le, show (-1 : Int32).toInt = -1 by decide, show (0 : Int32).toInt = 0 by decide, show (1 : Int32).toInt = 1 by decide, show (2 : Int32).toInt = 2 by decide, show (3 : Int32).toInt = 3 by decide, show (4 : Int32).toInt = 4 by decide, show (5 : Int32).toInt = 5 by decide, show (6 : Int32).toInt = 6 by decide, show (7 : Int32).toInt = 7 by decide, show (8 : Int32).toInt = 8 by decide, show (9 : Int32).toInt = 9 by decide, show (10 : Int32).toInt = 10 by decide, show (11 : Int32).toInt = 11 by decide, show (12 : Int32).toInt = 12 by decide, show (13 : Int32).toInt = 13 by decide, show (14 : Int32).toInt = 14 by decide, show (15 : Int32).toInt = 15 by decide, show (16 : Int32).toInt = 16 by decide, show (20 : Int32).toInt = 20 by decide, show (39 : Int32).toInt = 39 by decide, show (40 : Int32).toInt = 40 by decide, show (50 : Int32).toInt = 50 by decide, show (60 : Int32).toInt = 60 by decide, show (99 : Int32).toInt = 99 by decide, show (100 : Int32).toInt = 100 by decide, show (999 : Int32).toInt = 999 by decide, show (9999 : Int32).toInt = 9999 by decide, show (99999 : Int32).toInt = 99999 by decide, show (999999 : Int32).toInt = 999999 by decide, show (9999999 : Int32).toInt = 9999999 by decide, show (-50 : Int32).toInt = -50 by decide, show (32 : Int32).toInt = 32 by decide] at *); (repeat first | rw [if_pos (by omega)] at hzz | rw [if_neg (by omega)] at hzz); subst hzz; exact zK36
    · replace zc25 := b2i_t zc25
      refine z_iload_n X 4 dX11_shape_27 rfl ?_
      refine z_iconst (v := 0) X dX11_shape_28 (by decide) ?_
      refine z_iload_n X 3 dX11_shape_29 rfl ?_
      refine z_if_ne X 38 dX11_shape_30 (by decide) (fun zc39 => ?_) (fun zc39 => ?_)
      · refine z_ldc X dX11_shape_38 wd_283 ?_
        refine z_callS X (c_within (κ := κ) (n := n) (v := (v)) (lo := (0)) (hi := (999999))  ) mk_X11_within dX11_shape_40 wd_259 wd_257 rfl rfl (Nat.le_of_ble_eq_true rfl) (Nat.le_of_ble_eq_true rfl) (Nat.le_of_ble_eq_true rfl) (by omega) (by omega) (fun q zh40 zm42 zp43 => ?_)
        obtain ⟨rfl, ze41, zn44⟩ := zp43
        subst zm42
        subst zh40
        refine z_st (st' := [.int (b2i ((0 : Int32).toInt ≤ (v : Int32).toInt ∧ (v : Int32).toInt ≤ (999999 : Int32).toInt))]) rfl ?_
        refine z_toe (y := b2i (0 ≤ v.toInt ∧ v.toInt ≤ 999999)) (by simp only [show (0 : Int32).toInt = 0 by decide, show (999999 : Int32).toInt = 999999 by decide]) ?_
        refine z_if_ne X 52 dX11_shape_43 (by decide) (fun zc45 => ?_) (fun zc45 => ?_)
        · replace zc45 := b2i_t zc45
          obtain ⟨ck, hck, rfl⟩ := ix_of (c := c) (len := len) (by omega) (by omega)
          refine z_iload_n X 3 dX11_shape_52 rfl ?_
          refine z_if_ne X 64 dX11_shape_53 (by decide) (fun zc46 => ?_) (fun zc46 => ?_)
          · refine z_aload X 0 dX11_shape_64 rfl ?_
            refine z_get X fl_X11_85_2 dX11_shape_66 K2 rfl ?_
            refine z_astore (ls' := [(5, .ref (o + 4)), (4, .ref (o + 1 + 1)), (0, .ref o), (1, .int (nI ck)), (2, .int w), (3, .int v)]) X dX11_shape_69 (by decide) rfl ?_
            refine z_aload X 0 dX11_shape_71 rfl ?_
            refine z_iload_n X 3 dX11_shape_73 rfl ?_
            refine z_iald2 (v := d (140 + ck)) X dX11_shape_74 K4 (vp_in_nI (n := ck) (by omega) (by omega)) ((congrArg (win 140 40 d) (nI_clamp (n := ck) (by omega))).trans (win_at (k := ck) (by omega))) ?_
            refine z_istore (ls' := [(6, .int (d (140 + ck))), (5, .ref (o + 4)), (4, .ref (o + 1 + 1)), (0, .ref o), (1, .int (nI ck)), (2, .int w), (3, .int v)]) X dX11_shape_75 (by decide) rfl ?_
            refine z_aload X 1 dX11_shape_77 rfl ?_
            refine z_iload_n X 4 dX11_shape_79 rfl ?_
            refine z_iload_n X 6 dX11_shape_80 rfl ?_
            refine z_iast X dX11_shape_81 K4 (vp_in_nI (n := ck) (by omega) (by omega)) (congrArg (fun z => va_up h (o + 4) (arI κ 40 (upd (win 140 40 d) z v))) (nI_clamp (n := ck) (by omega))) ?_
            obtain ⟨zh47, ze48⟩ : ∃ z : Mm, z = va_up h (o + 4) (arI κ 40 (upd (win 140 40 d) ck v)) := ⟨_, rfl⟩
            refine z_heap (h' := zh47) ze48.symm ?_
            have zK49 := up_off ze48 (show o ≠ o + 4 by omega) K0
            have zK50 := up_off ze48 (show o + 1 ≠ o + 4 by omega) K1
            have zK51 := up_off ze48 (show o + 2 ≠ o + 4 by omega) K2
            have zK52 := up_off ze48 (show o + 3 ≠ o + 4 by omega) K3
            have zK53 := up_at ze48
            have zK54 := up_off ze48 (show o + 61 ≠ o + 4 by omega) K5
            have zl55 : ∀ zq : Nat, zq < (o + 76) → zq ≠ (o + 4) → zh47 zq = h zq := by intro zq hzq zn0; rw [ze48, va_up_ne _ _ (show zq ≠ o + 4 by omega)]; try rfl
            have zr56 : Zr κ (o + 76) h zh47 := (Zr.refl).trans (Zr.same (fun zq h1 => by rw [ze48, va_up_ne _ _ (show zq ≠ o + 4 by omega)]))
            refine z_iload X 0 dX11_shape_82 rfl ?_
            refine z_iret X E dX11_shape_84 (by omega) (by omega) ⟨?_, ?_, ?_, ?_, ?_, ?_, ?_⟩
            · generalize hzz : opShape d len (nI ck) w v = zz1; unfold opShape at hzz; (try simp only [i_nI (n := ck) (by omega), nI_clamp (n := ck) (by omega),  i_eq, i_lt, i_le, show (-1 : Int32).toInt = -1 by decide, show (0 : Int32).toInt = 0 by decide, show (1 : Int32).toInt = 1 by decide, show (2 : Int32).toInt = 2 by decide, show (3 : Int32).toInt = 3 by decide, show (4 : Int32).toInt = 4 by decide, show (5 : Int32).toInt = 5 by decide, show (6 : Int32).toInt = 6 by decide, show (7 : Int32).toInt = 7 by decide, show (8 : Int32).toInt = 8 by decide, show (9 : Int32).toInt = 9 by decide, show (10 : Int32).toInt = 10 by decide, show (11 : Int32).toInt = 11 by decide, show (12 : Int32).toInt = 12 by decide, show (13 : Int32).toInt = 13 by decide, show (14 : Int32).toInt = 14 by decide, show (15 : Int32).toInt = 15 by decide, show (16 : Int32).toInt = 16 by decide, show (20 : Int32).toInt = 20 by decide, show (39 : Int32).toInt = 39 by decide, show (40 : Int32).toInt = 40 by decide, show (50 : Int32).toInt = 50 by decide, show (60 : Int32).toInt = 60 by decide, show (99 : Int32).toInt = 99 by decide, show (100 : Int32).toInt = 100 by decide, show (999 : Int32).toInt = 999 by decide, show (9999 : Int32).toInt = 9999 by decide, show (99999 : Int32).toInt = 99999 by decide, show (999999 : Int32).toInt = 999999 by decide, show (9999999 : Int32).toInt = 9999999 by decide, show (-50 : Int32).toInt = -50 by decide, show (32 : Int32).toInt = 32 by decide] at *); (repeat first | rw [if_pos (by omega)] at hzz | rw [if_neg (by omega)] at hzz); subst hzz; first | rfl | exact congrArg (fun z => some (Value.int z)) (ansOf_0 _).symm
            · rfl
            · exact fun zq hzq zn0 zn1 zn2 => zl55 zq hzq zn1
            · exact zr56
            · generalize hzz : dShape d len (nI ck) w v = zz1; unfold dShape at hzz; (try simp only [i_nI (n := ck) (by omega), nI_clamp (n := ck) (by omega),  i_eq, i_lt, i_le, show (-1 : Int32).toInt = -1 by decide, show (0 : Int32).toInt = 0 by decide, show (1 : Int32).toInt = 1 by decide, show (2 : Int32).toInt = 2 by decide, show (3 : Int32).toInt = 3 by decide, show (4 : Int32).toInt = 4 by decide, show (5 : Int32).toInt = 5 by decide, show (6 : Int32).toInt = 6 by decide, show (7 : Int32).toInt = 7 by decide, show (8 : Int32).toInt = 8 by decide, show (9 : Int32).toInt = 9 by decide, show (10 : Int32).toInt = 10 by decide, show (11 : Int32).toInt = 11 by decide, show (12 : Int32).toInt = 12 by decide, show (13 : Int32).toInt = 13 by decide, show (14 : Int32).toInt = 14 by decide, show (15 : Int32).toInt = 15 by decide, show (16 : Int32).toInt = 16 by decide, show (20 : Int32).toInt = 20 by decide, show (39 : Int32).toInt = 39 by decide, show (40 : Int32).toInt = 40 by decide, show (50 : Int32).toInt = 50 by decide, show (60 : Int32).toInt = 60 by decide, show (99 : Int32).toInt = 99 by decide, show (100 : Int32).toInt = 100 by decide, show (999 : Int32).toInt = 999 by decide, show (9999 : Int32).toInt = 9999 by decide, show (99999 : Int32).toInt = 99999 by decide, show (999999 : Int32).toInt = 999999 by decide, show (9999999 : Int32).toInt = 9999999 by decide, show (-50 : Int32).toInt = -50 by decide, show (32 : Int32).toInt = 32 by decide] at *); (repeat first | rw [if_pos (by omega)] at hzz | rw [if_neg (by omega)] at hzz); subst hzz; first | exact zK52 | (rw [win_us (by omega)]; exact zK52) | (rw [win_off (by omega)]; exact zK52)
            · generalize hzz : dShape d len (nI ck) w v = zz1; unfold dShape at hzz; (try simp only [i_nI (n := ck) (by omega), nI_clamp (n := ck) (by omega),  i_eq, i_lt, i_le, show (-1 : Int32).toInt = -1 by decide, show (0 : Int32).toInt = 0 by decide, show (1 : Int32).toInt = 1 by decide, show (2 : Int32).toInt = 2 by decide, show (3 : Int32).toInt = 3 by decide, show (4 : Int32).toInt = 4 by decide, show (5 : Int32).toInt = 5 by decide, show (6 : Int32).toInt = 6 by decide, show (7 : Int32).toInt = 7 by decide, show (8 : Int32).toInt = 8 by decide, show (9 : Int32).toInt = 9 by decide, show (10 : Int32).toInt = 10 by decide, show (11 : Int32).toInt = 11 by decide, show (12 : Int32).toInt = 12 by decide, show (13 : Int32).toInt = 13 by decide, show (14 : Int32).toInt = 14 by decide, show (15 : Int32).toInt = 15 by decide, show (16 : Int32).toInt = 16 by decide, show (20 : Int32).toInt = 20 by decide, show (39 : Int32).toInt = 39 by decide, show (40 : Int32).toInt = 40 by decide, show (50 : Int32).toInt = 50 by decide, show (60 : Int32).toInt = 60 by decide, show (99 : Int32).toInt = 99 by decide, show (100 : Int32).toInt = 100 by decide, show (999 : Int32).toInt = 999 by decide, show (9999 : Int32).toInt = 9999 by decide, show (99999 : Int32).toInt = 99999 by decide, show (999999 : Int32).toInt = 999999 by decide, show (9999999 : Int32).toInt = 9999999 by decide, show (-50 : Int32).toInt = -50 by decide, show (32 : Int32).toInt = 32 by decide] at *); (repeat first | rw [if_pos (by omega)] at hzz | rw [if_neg (by omega)] at hzz); subst hzz; first | exact zK53 | (rw [win_us (by omega)]; exact zK53) | (rw [win_off (by omega)]; exact zK53)
            · generalize hzz : opShape d len (nI ck) w v = zz1; unfold opShape at hzz; (try simp only [i_nI (n := ck) (by omega), nI_clamp (n := ck) (by omega),  i_eq, i_lt, i_le, show (-1 : Int32).toInt = -1 by decide, show (0 : Int32).toInt = 0 by decide, show (1 : Int32).toInt = 1 by decide, show (2 : Int32).toInt = 2 by decide, show (3 : Int32).toInt = 3 by decide, show (4 : Int32).toInt = 4 by decide, show (5 : Int32).toInt = 5 by decide, show (6 : Int32).toInt = 6 by decide, show (7 : Int32).toInt = 7 by decide, show (8 : Int32).toInt = 8 by decide, show (9 : Int32).toInt = 9 by decide, show (10 : Int32).toInt = 10 by decide, show (11 : Int32).toInt = 11 by decide, show (12 : Int32).toInt = 12 by decide, show (13 : Int32).toInt = 13 by decide, show (14 : Int32).toInt = 14 by decide, show (15 : Int32).toInt = 15 by decide, show (16 : Int32).toInt = 16 by decide, show (20 : Int32).toInt = 20 by decide, show (39 : Int32).toInt = 39 by decide, show (40 : Int32).toInt = 40 by decide, show (50 : Int32).toInt = 50 by decide, show (60 : Int32).toInt = 60 by decide, show (99 : Int32).toInt = 99 by decide, show (100 : Int32).toInt = 100 by decide, show (999 : Int32).toInt = 999 by decide, show (9999 : Int32).toInt = 9999 by decide, show (99999 : Int32).toInt = 99999 by decide, show (999999 : Int32).toInt = 999999 by decide, show (9999999 : Int32).toInt = 9999999 by decide, show (-50 : Int32).toInt = -50 by decide, show (32 : Int32).toInt = 32 by decide] at *); (repeat first | rw [if_pos (by omega)] at hzz | rw [if_neg (by omega)] at hzz); subst hzz; exact zK54
          · first | exact absurd zc46 zc39 | exact absurd zc39 zc46 | (exfalso; omega) | (exfalso; simp only [i_eq, i_lt, i_le] at *; omega)
        · replace zc45 := b2i_f zc45
          refine z_aload_n X 1 dX11_shape_46 rfl ?_
          refine z_iconst (v := 1) X dX11_shape_47 (by decide) ?_
          refine z_callV X (c_fail (κ := κ) (n := n) (o := (o)) (im := (im)) (fo := (fo)) (k := (1)) K0 K5 (by first | assumption | omega) (by first | assumption | omega)) mk_X11_fail dX11_shape_48 wd_260 wd_262 wd_0 rfl K0 rfl rfl rfl (Nat.le_of_ble_eq_true rfl) (Nat.le_of_ble_eq_true rfl) (Nat.le_of_ble_eq_true rfl) (by omega) (by omega) (fun q zh57 zm59 zp60 => ?_)
          obtain ⟨rfl, ze58, zn61⟩ := zp60
          subst zm59
          refine z_st (st' := [.int (lowE 1)]) rfl ?_
          have zK62 : zh57 o = some (.inr (11, [.ref (o + 1), .ref (o + 14), .ref (o + 27), .ref (o + 33), .ref (o + 42), .ref (o + 55), .ref (o + 57), .ref (o + 59), .ref (o + 61), .int im])) := by rw [ze58]; rw [va_up_ne _ _ (show o ≠ o + 61 by omega)]; exact K0
          have zK63 : zh57 (o + 1) = some (.inr (3, [.ref (o + 1 + 1), .ref (o + 1 + 7), .ref (o + 1 + 9), .ref (o + 1 + 11), .int (d 13)])) := by rw [ze58]; rw [va_up_ne _ _ (show o + 1 ≠ o + 61 by omega)]; exact K1
          have zK64 : zh57 (o + 2) = some (.inr (2, [.ref (o + 3), .ref (o + 4), .ref (o + 5), .ref (o + 6), .ref (o + 7), .int (nI len), .int (d 0), .int (d 2), .int (d 3), .int (nI nc), .int (d 10), .int cold, .int wind])) := by rw [ze58]; rw [va_up_ne _ _ (show o + 2 ≠ o + 61 by omega)]; exact K2
          have zK65 : zh57 (o + 3) = arI κ 40 (win 100 40 d) := by rw [ze58]; rw [va_up_ne _ _ (show o + 3 ≠ o + 61 by omega)]; exact K3
          have zK66 : zh57 (o + 4) = arI κ 40 (win 140 40 d) := by rw [ze58]; rw [va_up_ne _ _ (show o + 4 ≠ o + 61 by omega)]; exact K4
          have zK67 : zh57 (o + 61) = arI κ 6 (bmp fo 1) := by rw [ze58]; exact va_up_self _ _ _
          have zl68 : ∀ zq : Nat, zq < (o + 76) → zq ≠ (o + 61) → zh57 zq = h zq := by intro zq hzq zn0; rw [ze58, va_up_ne _ _ (show zq ≠ o + 61 by omega)]; try rfl
          have zr69 : Zr κ (o + 76) h zh57 := (Zr.refl).trans (Zr.same (fun zq h1 => by rw [ze58, va_up_ne _ _ (show zq ≠ o + 61 by omega)]))
          refine z_iret X E dX11_shape_51 (by omega) (by omega) ⟨?_, ?_, ?_, ?_, ?_, ?_, ?_⟩
          · generalize hzz : opShape d len c w v = zz1; unfold opShape at hzz; (try simp only [ i_eq, i_lt, i_le, show (-1 : Int32).toInt = -1 by decide, show (0 : Int32).toInt = 0 by decide, show (1 : Int32).toInt = 1 by decide, show (2 : Int32).toInt = 2 by decide, show (3 : Int32).toInt = 3 by decide, show (4 : Int32).toInt = 4 by decide, show (5 : Int32).toInt = 5 by decide, show (6 : Int32).toInt = 6 by decide, show (7 : Int32).toInt = 7 by decide, show (8 : Int32).toInt = 8 by decide, show (9 : Int32).toInt = 9 by decide, show (10 : Int32).toInt = 10 by decide, show (11 : Int32).toInt = 11 by decide, show (12 : Int32).toInt = 12 by decide, show (13 : Int32).toInt = 13 by decide, show (14 : Int32).toInt = 14 by decide, show (15 : Int32).toInt = 15 by decide, show (16 : Int32).toInt = 16 by decide, show (20 : Int32).toInt = 20 by decide, show (39 : Int32).toInt = 39 by decide, show (40 : Int32).toInt = 40 by decide, show (50 : Int32).toInt = 50 by decide, show (60 : Int32).toInt = 60 by decide, show (99 : Int32).toInt = 99 by decide, show (100 : Int32).toInt = 100 by decide, show (999 : Int32).toInt = 999 by decide, show (9999 : Int32).toInt = 9999 by decide, show (99999 : Int32).toInt = 99999 by decide, show (999999 : Int32).toInt = 999999 by decide, show (9999999 : Int32).toInt = 9999999 by decide, show (-50 : Int32).toInt = -50 by decide, show (32 : Int32).toInt = 32 by decide] at *); (repeat first | rw [if_pos (by omega)] at hzz | rw [if_neg (by omega)] at hzz); subst hzz; first | rfl | exact congrArg (fun z => some (Value.int z)) (ansOf_0 _).symm
          · rfl
          · exact fun zq hzq zn0 zn1 zn2 => zl68 zq hzq zn2
          · exact zr69
          · generalize hzz : dShape d len c w v = zz1; unfold dShape at hzz; (try simp only [ i_eq, i_lt, i_le, show (-1 : Int32).toInt = -1 by decide, show (0 : Int32).toInt = 0 by decide, show (1 : Int32).toInt = 1 by decide, show (2 : Int32).toInt = 2 by decide, show (3 : Int32).toInt = 3 by decide, show (4 : Int32).toInt = 4 by decide, show (5 : Int32).toInt = 5 by decide, show (6 : Int32).toInt = 6 by decide, show (7 : Int32).toInt = 7 by decide, show (8 : Int32).toInt = 8 by decide, show (9 : Int32).toInt = 9 by decide, show (10 : Int32).toInt = 10 by decide, show (11 : Int32).toInt = 11 by decide, show (12 : Int32).toInt = 12 by decide, show (13 : Int32).toInt = 13 by decide, show (14 : Int32).toInt = 14 by decide, show (15 : Int32).toInt = 15 by decide, show (16 : Int32).toInt = 16 by decide, show (20 : Int32).toInt = 20 by decide, show (39 : Int32).toInt = 39 by decide, show (40 : Int32).toInt = 40 by decide, show (50 : Int32).toInt = 50 by decide, show (60 : Int32).toInt = 60 by decide, show (99 : Int32).toInt = 99 by decide, show (100 : Int32).toInt = 100 by decide, show (999 : Int32).toInt = 999 by decide, show (9999 : Int32).toInt = 9999 by decide, show (99999 : Int32).toInt = 99999 by decide, show (999999 : Int32).toInt = 999999 by decide, show (9999999 : Int32).toInt = 9999999 by decide, show (-50 : Int32).toInt = -50 by decide, show (32 : Int32).toInt = 32 by decide] at *); (repeat first | rw [if_pos (by omega)] at hzz | rw [if_neg (by omega)] at hzz); subst hzz; first | exact zK65 | (rw [win_us (by omega)]; exact zK65) | (rw [win_off (by omega)]; exact zK65)
          · generalize hzz : dShape d len c w v = zz1; unfold dShape at hzz; (try simp only [ i_eq, i_lt, i_le, show (-1 : Int32).toInt = -1 by decide, show (0 : Int32).toInt = 0 by decide, show (1 : Int32).toInt = 1 by decide, show (2 : Int32).toInt = 2 by decide, show (3 : Int32).toInt = 3 by decide, show (4 : Int32).toInt = 4 by decide, show (5 : Int32).toInt = 5 by decide, show (6 : Int32).toInt = 6 by decide, show (7 : Int32).toInt = 7 by decide, show (8 : Int32).toInt = 8 by decide, show (9 : Int32).toInt = 9 by decide, show (10 : Int32).toInt = 10 by decide, show (11 : Int32).toInt = 11 by decide, show (12 : Int32).toInt = 12 by decide, show (13 : Int32).toInt = 13 by decide, show (14 : Int32).toInt = 14 by decide, show (15 : Int32).toInt = 15 by decide, show (16 : Int32).toInt = 16 by decide, show (20 : Int32).toInt = 20 by decide, show (39 : Int32).toInt = 39 by decide, show (40 : Int32).toInt = 40 by decide, show (50 : Int32).toInt = 50 by decide, show (60 : Int32).toInt = 60 by decide, show (99 : Int32).toInt = 99 by decide, show (100 : Int32).toInt = 100 by decide, show (999 : Int32).toInt = 999 by decide, show (9999 : Int32).toInt = 9999 by decide, show (99999 : Int32).toInt = 99999 by decide, show (999999 : Int32).toInt = 999999 by decide, show (9999999 : Int32).toInt = 9999999 by decide, show (-50 : Int32).toInt = -50 by decide, show (32 : Int32).toInt = 32 by decide] at *); (repeat first | rw [if_pos (by omega)] at hzz | rw [if_neg (by omega)] at hzz); subst hzz; first | exact zK66 | (rw [win_us (by omega)]; exact zK66) | (rw [win_off (by omega)]; exact zK66)
          · generalize hzz : opShape d len c w v = zz1; unfold opShape at hzz; (try simp only [ i_eq, i_lt, i_le, show (-1 : Int32).toInt = -1 by decide, show (0 : Int32).toInt = 0 by decide, show (1 : Int32).toInt = 1 by decide, show (2 : Int32).toInt = 2 by decide, show (3 : Int32).toInt = 3 by decide, show (4 : Int32).toInt = 4 by decide, show (5 : Int32).toInt = 5 by decide, show (6 : Int32).toInt = 6 by decide, show (7 : Int32).toInt = 7 by decide, show (8 : Int32).toInt = 8 by decide, show (9 : Int32).toInt = 9 by decide, show (10 : Int32).toInt = 10 by decide, show (11 : Int32).toInt = 11 by decide, show (12 : Int32).toInt = 12 by decide, show (13 : Int32).toInt = 13 by decide, show (14 : Int32).toInt = 14 by decide, show (15 : Int32).toInt = 15 by decide, show (16 : Int32).toInt = 16 by decide, show (20 : Int32).toInt = 20 by decide, show (39 : Int32).toInt = 39 by decide, show (40 : Int32).toInt = 40 by decide, show (50 : Int32).toInt = 50 by decide, show (60 : Int32).toInt = 60 by decide, show (99 : Int32).toInt = 99 by decide, show (100 : Int32).toInt = 100 by decide, show (999 : Int32).toInt = 999 by decide, show (9999 : Int32).toInt = 9999 by decide, show (99999 : Int32).toInt = 99999 by decide, show (999999 : Int32).toInt = 999999 by decide, show (9999999 : Int32).toInt = 9999999 by decide, show (-50 : Int32).toInt = -50 by decide, show (32 : Int32).toInt = 32 by decide] at *); (repeat first | rw [if_pos (by omega)] at hzz | rw [if_neg (by omega)] at hzz); subst hzz; exact zK67
      · refine z_ldc X dX11_shape_33 wd_282 ?_
        refine z_goto X 40 dX11_shape_35 (by decide) ?_
        refine z_callS X (c_within (κ := κ) (n := n) (v := (v)) (lo := (0)) (hi := (99999))  ) mk_X11_within dX11_shape_40 wd_259 wd_257 rfl rfl (Nat.le_of_ble_eq_true rfl) (Nat.le_of_ble_eq_true rfl) (Nat.le_of_ble_eq_true rfl) (by omega) (by omega) (fun q zh70 zm72 zp73 => ?_)
        obtain ⟨rfl, ze71, zn74⟩ := zp73
        subst zm72
        subst zh70
        refine z_st (st' := [.int (b2i ((0 : Int32).toInt ≤ (v : Int32).toInt ∧ (v : Int32).toInt ≤ (99999 : Int32).toInt))]) rfl ?_
        refine z_toe (y := b2i (0 ≤ v.toInt ∧ v.toInt ≤ 99999)) (by simp only [show (0 : Int32).toInt = 0 by decide, show (99999 : Int32).toInt = 99999 by decide]) ?_
        refine z_if_ne X 52 dX11_shape_43 (by decide) (fun zc75 => ?_) (fun zc75 => ?_)
        · replace zc75 := b2i_t zc75
          obtain ⟨ck, hck, rfl⟩ := ix_of (c := c) (len := len) (by omega) (by omega)
          refine z_iload_n X 3 dX11_shape_52 rfl ?_
          refine z_if_ne X 64 dX11_shape_53 (by decide) (fun zc76 => ?_) (fun zc76 => ?_)
          · first | exact absurd zc76 zc39 | exact absurd zc39 zc76 | (exfalso; omega) | (exfalso; simp only [i_eq, i_lt, i_le] at *; omega)
          · refine z_aload X 0 dX11_shape_56 rfl ?_
            refine z_get X fl_X11_82_2 dX11_shape_58 K2 rfl ?_
            refine z_goto X 69 dX11_shape_61 (by decide) ?_
            refine z_astore (ls' := [(5, .ref (o + 3)), (4, .ref (o + 1 + 1)), (0, .ref o), (1, .int (nI ck)), (2, .int w), (3, .int v)]) X dX11_shape_69 (by decide) rfl ?_
            refine z_aload X 0 dX11_shape_71 rfl ?_
            refine z_iload_n X 3 dX11_shape_73 rfl ?_
            refine z_iald2 (v := d (100 + ck)) X dX11_shape_74 K3 (vp_in_nI (n := ck) (by omega) (by omega)) ((congrArg (win 100 40 d) (nI_clamp (n := ck) (by omega))).trans (win_at (k := ck) (by omega))) ?_
            refine z_istore (ls' := [(6, .int (d (100 + ck))), (5, .ref (o + 3)), (4, .ref (o + 1 + 1)), (0, .ref o), (1, .int (nI ck)), (2, .int w), (3, .int v)]) X dX11_shape_75 (by decide) rfl ?_
            refine z_aload X 1 dX11_shape_77 rfl ?_
            refine z_iload_n X 4 dX11_shape_79 rfl ?_
            refine z_iload_n X 6 dX11_shape_80 rfl ?_
            refine z_iast X dX11_shape_81 K3 (vp_in_nI (n := ck) (by omega) (by omega)) (congrArg (fun z => va_up h (o + 3) (arI κ 40 (upd (win 100 40 d) z v))) (nI_clamp (n := ck) (by omega))) ?_
            obtain ⟨zh77, ze78⟩ : ∃ z : Mm, z = va_up h (o + 3) (arI κ 40 (upd (win 100 40 d) ck v)) := ⟨_, rfl⟩
            refine z_heap (h' := zh77) ze78.symm ?_
            have zK79 := up_off ze78 (show o ≠ o + 3 by omega) K0
            have zK80 := up_off ze78 (show o + 1 ≠ o + 3 by omega) K1
            have zK81 := up_off ze78 (show o + 2 ≠ o + 3 by omega) K2
            have zK82 := up_at ze78
            have zK83 := up_off ze78 (show o + 4 ≠ o + 3 by omega) K4
            have zK84 := up_off ze78 (show o + 61 ≠ o + 3 by omega) K5
            have zl85 : ∀ zq : Nat, zq < (o + 76) → zq ≠ (o + 3) → zh77 zq = h zq := by intro zq hzq zn0; rw [ze78, va_up_ne _ _ (show zq ≠ o + 3 by omega)]; try rfl
            have zr86 : Zr κ (o + 76) h zh77 := (Zr.refl).trans (Zr.same (fun zq h1 => by rw [ze78, va_up_ne _ _ (show zq ≠ o + 3 by omega)]))
            refine z_iload X 0 dX11_shape_82 rfl ?_
            refine z_iret X E dX11_shape_84 (by omega) (by omega) ⟨?_, ?_, ?_, ?_, ?_, ?_, ?_⟩
            · generalize hzz : opShape d len (nI ck) w v = zz1; unfold opShape at hzz; (try simp only [i_nI (n := ck) (by omega), nI_clamp (n := ck) (by omega),  i_eq, i_lt, i_le, show (-1 : Int32).toInt = -1 by decide, show (0 : Int32).toInt = 0 by decide, show (1 : Int32).toInt = 1 by decide, show (2 : Int32).toInt = 2 by decide, show (3 : Int32).toInt = 3 by decide, show (4 : Int32).toInt = 4 by decide, show (5 : Int32).toInt = 5 by decide, show (6 : Int32).toInt = 6 by decide, show (7 : Int32).toInt = 7 by decide, show (8 : Int32).toInt = 8 by decide, show (9 : Int32).toInt = 9 by decide, show (10 : Int32).toInt = 10 by decide, show (11 : Int32).toInt = 11 by decide, show (12 : Int32).toInt = 12 by decide, show (13 : Int32).toInt = 13 by decide, show (14 : Int32).toInt = 14 by decide, show (15 : Int32).toInt = 15 by decide, show (16 : Int32).toInt = 16 by decide, show (20 : Int32).toInt = 20 by decide, show (39 : Int32).toInt = 39 by decide, show (40 : Int32).toInt = 40 by decide, show (50 : Int32).toInt = 50 by decide, show (60 : Int32).toInt = 60 by decide, show (99 : Int32).toInt = 99 by decide, show (100 : Int32).toInt = 100 by decide, show (999 : Int32).toInt = 999 by decide, show (9999 : Int32).toInt = 9999 by decide, show (99999 : Int32).toInt = 99999 by decide, show (999999 : Int32).toInt = 999999 by decide, show (9999999 : Int32).toInt = 9999999 by decide, show (-50 : Int32).toInt = -50 by decide, show (32 : Int32).toInt = 32 by decide] at *); (repeat first | rw [if_pos (by omega)] at hzz | rw [if_neg (by omega)] at hzz); subst hzz; first | rfl | exact congrArg (fun z => some (Value.int z)) (ansOf_0 _).symm
            · rfl
            · exact fun zq hzq zn0 zn1 zn2 => zl85 zq hzq zn0
            · exact zr86
            · generalize hzz : dShape d len (nI ck) w v = zz1; unfold dShape at hzz; (try simp only [i_nI (n := ck) (by omega), nI_clamp (n := ck) (by omega),  i_eq, i_lt, i_le, show (-1 : Int32).toInt = -1 by decide, show (0 : Int32).toInt = 0 by decide, show (1 : Int32).toInt = 1 by decide, show (2 : Int32).toInt = 2 by decide, show (3 : Int32).toInt = 3 by decide, show (4 : Int32).toInt = 4 by decide, show (5 : Int32).toInt = 5 by decide, show (6 : Int32).toInt = 6 by decide, show (7 : Int32).toInt = 7 by decide, show (8 : Int32).toInt = 8 by decide, show (9 : Int32).toInt = 9 by decide, show (10 : Int32).toInt = 10 by decide, show (11 : Int32).toInt = 11 by decide, show (12 : Int32).toInt = 12 by decide, show (13 : Int32).toInt = 13 by decide, show (14 : Int32).toInt = 14 by decide, show (15 : Int32).toInt = 15 by decide, show (16 : Int32).toInt = 16 by decide, show (20 : Int32).toInt = 20 by decide, show (39 : Int32).toInt = 39 by decide, show (40 : Int32).toInt = 40 by decide, show (50 : Int32).toInt = 50 by decide, show (60 : Int32).toInt = 60 by decide, show (99 : Int32).toInt = 99 by decide, show (100 : Int32).toInt = 100 by decide, show (999 : Int32).toInt = 999 by decide, show (9999 : Int32).toInt = 9999 by decide, show (99999 : Int32).toInt = 99999 by decide, show (999999 : Int32).toInt = 999999 by decide, show (9999999 : Int32).toInt = 9999999 by decide, show (-50 : Int32).toInt = -50 by decide, show (32 : Int32).toInt = 32 by decide] at *); (repeat first | rw [if_pos (by omega)] at hzz | rw [if_neg (by omega)] at hzz); subst hzz; first | exact zK82 | (rw [win_us (by omega)]; exact zK82) | (rw [win_off (by omega)]; exact zK82)
            · generalize hzz : dShape d len (nI ck) w v = zz1; unfold dShape at hzz; (try simp only [i_nI (n := ck) (by omega), nI_clamp (n := ck) (by omega),  i_eq, i_lt, i_le, show (-1 : Int32).toInt = -1 by decide, show (0 : Int32).toInt = 0 by decide, show (1 : Int32).toInt = 1 by decide, show (2 : Int32).toInt = 2 by decide, show (3 : Int32).toInt = 3 by decide, show (4 : Int32).toInt = 4 by decide, show (5 : Int32).toInt = 5 by decide, show (6 : Int32).toInt = 6 by decide, show (7 : Int32).toInt = 7 by decide, show (8 : Int32).toInt = 8 by decide, show (9 : Int32).toInt = 9 by decide, show (10 : Int32).toInt = 10 by decide, show (11 : Int32).toInt = 11 by decide, show (12 : Int32).toInt = 12 by decide, show (13 : Int32).toInt = 13 by decide, show (14 : Int32).toInt = 14 by decide, show (15 : Int32).toInt = 15 by decide, show (16 : Int32).toInt = 16 by decide, show (20 : Int32).toInt = 20 by decide, show (39 : Int32).toInt = 39 by decide, show (40 : Int32).toInt = 40 by decide, show (50 : Int32).toInt = 50 by decide, show (60 : Int32).toInt = 60 by decide, show (99 : Int32).toInt = 99 by decide, show (100 : Int32).toInt = 100 by decide, show (999 : Int32).toInt = 999 by decide, show (9999 : Int32).toInt = 9999 by decide, show (99999 : Int32).toInt = 99999 by decide, show (999999 : Int32).toInt = 999999 by decide, show (9999999 : Int32).toInt = 9999999 by decide, show (-50 : Int32).toInt = -50 by decide, show (32 : Int32).toInt = 32 by decide] at *); (repeat first | rw [if_pos (by omega)] at hzz | rw [if_neg (by omega)] at hzz); subst hzz; first | exact zK83 | (rw [win_us (by omega)]; exact zK83) | (rw [win_off (by omega)]; exact zK83)
            · generalize hzz : opShape d len (nI ck) w v = zz1; unfold opShape at hzz; (try simp only [i_nI (n := ck) (by omega), nI_clamp (n := ck) (by omega),  i_eq, i_lt, i_le, show (-1 : Int32).toInt = -1 by decide, show (0 : Int32).toInt = 0 by decide, show (1 : Int32).toInt = 1 by decide, show (2 : Int32).toInt = 2 by decide, show (3 : Int32).toInt = 3 by decide, show (4 : Int32).toInt = 4 by decide, show (5 : Int32).toInt = 5 by decide, show (6 : Int32).toInt = 6 by decide, show (7 : Int32).toInt = 7 by decide, show (8 : Int32).toInt = 8 by decide, show (9 : Int32).toInt = 9 by decide, show (10 : Int32).toInt = 10 by decide, show (11 : Int32).toInt = 11 by decide, show (12 : Int32).toInt = 12 by decide, show (13 : Int32).toInt = 13 by decide, show (14 : Int32).toInt = 14 by decide, show (15 : Int32).toInt = 15 by decide, show (16 : Int32).toInt = 16 by decide, show (20 : Int32).toInt = 20 by decide, show (39 : Int32).toInt = 39 by decide, show (40 : Int32).toInt = 40 by decide, show (50 : Int32).toInt = 50 by decide, show (60 : Int32).toInt = 60 by decide, show (99 : Int32).toInt = 99 by decide, show (100 : Int32).toInt = 100 by decide, show (999 : Int32).toInt = 999 by decide, show (9999 : Int32).toInt = 9999 by decide, show (99999 : Int32).toInt = 99999 by decide, show (999999 : Int32).toInt = 999999 by decide, show (9999999 : Int32).toInt = 9999999 by decide, show (-50 : Int32).toInt = -50 by decide, show (32 : Int32).toInt = 32 by decide] at *); (repeat first | rw [if_pos (by omega)] at hzz | rw [if_neg (by omega)] at hzz); subst hzz; exact zK84
        · replace zc75 := b2i_f zc75
          refine z_aload_n X 1 dX11_shape_46 rfl ?_
          refine z_iconst (v := 1) X dX11_shape_47 (by decide) ?_
          refine z_callV X (c_fail (κ := κ) (n := n) (o := (o)) (im := (im)) (fo := (fo)) (k := (1)) K0 K5 (by first | assumption | omega) (by first | assumption | omega)) mk_X11_fail dX11_shape_48 wd_260 wd_262 wd_0 rfl K0 rfl rfl rfl (Nat.le_of_ble_eq_true rfl) (Nat.le_of_ble_eq_true rfl) (Nat.le_of_ble_eq_true rfl) (by omega) (by omega) (fun q zh87 zm89 zp90 => ?_)
          obtain ⟨rfl, ze88, zn91⟩ := zp90
          subst zm89
          refine z_st (st' := [.int (lowE 1)]) rfl ?_
          have zK92 : zh87 o = some (.inr (11, [.ref (o + 1), .ref (o + 14), .ref (o + 27), .ref (o + 33), .ref (o + 42), .ref (o + 55), .ref (o + 57), .ref (o + 59), .ref (o + 61), .int im])) := by rw [ze88]; rw [va_up_ne _ _ (show o ≠ o + 61 by omega)]; exact K0
          have zK93 : zh87 (o + 1) = some (.inr (3, [.ref (o + 1 + 1), .ref (o + 1 + 7), .ref (o + 1 + 9), .ref (o + 1 + 11), .int (d 13)])) := by rw [ze88]; rw [va_up_ne _ _ (show o + 1 ≠ o + 61 by omega)]; exact K1
          have zK94 : zh87 (o + 2) = some (.inr (2, [.ref (o + 3), .ref (o + 4), .ref (o + 5), .ref (o + 6), .ref (o + 7), .int (nI len), .int (d 0), .int (d 2), .int (d 3), .int (nI nc), .int (d 10), .int cold, .int wind])) := by rw [ze88]; rw [va_up_ne _ _ (show o + 2 ≠ o + 61 by omega)]; exact K2
          have zK95 : zh87 (o + 3) = arI κ 40 (win 100 40 d) := by rw [ze88]; rw [va_up_ne _ _ (show o + 3 ≠ o + 61 by omega)]; exact K3
          have zK96 : zh87 (o + 4) = arI κ 40 (win 140 40 d) := by rw [ze88]; rw [va_up_ne _ _ (show o + 4 ≠ o + 61 by omega)]; exact K4
          have zK97 : zh87 (o + 61) = arI κ 6 (bmp fo 1) := by rw [ze88]; exact va_up_self _ _ _
          have zl98 : ∀ zq : Nat, zq < (o + 76) → zq ≠ (o + 61) → zh87 zq = h zq := by intro zq hzq zn0; rw [ze88, va_up_ne _ _ (show zq ≠ o + 61 by omega)]; try rfl
          have zr99 : Zr κ (o + 76) h zh87 := (Zr.refl).trans (Zr.same (fun zq h1 => by rw [ze88, va_up_ne _ _ (show zq ≠ o + 61 by omega)]))
          refine z_iret X E dX11_shape_51 (by omega) (by omega) ⟨?_, ?_, ?_, ?_, ?_, ?_, ?_⟩
          · generalize hzz : opShape d len c w v = zz1; unfold opShape at hzz; (try simp only [ i_eq, i_lt, i_le, show (-1 : Int32).toInt = -1 by decide, show (0 : Int32).toInt = 0 by decide, show (1 : Int32).toInt = 1 by decide, show (2 : Int32).toInt = 2 by decide, show (3 : Int32).toInt = 3 by decide, show (4 : Int32).toInt = 4 by decide, show (5 : Int32).toInt = 5 by decide, show (6 : Int32).toInt = 6 by decide, show (7 : Int32).toInt = 7 by decide, show (8 : Int32).toInt = 8 by decide, show (9 : Int32).toInt = 9 by decide, show (10 : Int32).toInt = 10 by decide, show (11 : Int32).toInt = 11 by decide, show (12 : Int32).toInt = 12 by decide, show (13 : Int32).toInt = 13 by decide, show (14 : Int32).toInt = 14 by decide, show (15 : Int32).toInt = 15 by decide, show (16 : Int32).toInt = 16 by decide, show (20 : Int32).toInt = 20 by decide, show (39 : Int32).toInt = 39 by decide, show (40 : Int32).toInt = 40 by decide, show (50 : Int32).toInt = 50 by decide, show (60 : Int32).toInt = 60 by decide, show (99 : Int32).toInt = 99 by decide, show (100 : Int32).toInt = 100 by decide, show (999 : Int32).toInt = 999 by decide, show (9999 : Int32).toInt = 9999 by decide, show (99999 : Int32).toInt = 99999 by decide, show (999999 : Int32).toInt = 999999 by decide, show (9999999 : Int32).toInt = 9999999 by decide, show (-50 : Int32).toInt = -50 by decide, show (32 : Int32).toInt = 32 by decide] at *); (repeat first | rw [if_pos (by omega)] at hzz | rw [if_neg (by omega)] at hzz); subst hzz; first | rfl | exact congrArg (fun z => some (Value.int z)) (ansOf_0 _).symm
          · rfl
          · exact fun zq hzq zn0 zn1 zn2 => zl98 zq hzq zn2
          · exact zr99
          · generalize hzz : dShape d len c w v = zz1; unfold dShape at hzz; (try simp only [ i_eq, i_lt, i_le, show (-1 : Int32).toInt = -1 by decide, show (0 : Int32).toInt = 0 by decide, show (1 : Int32).toInt = 1 by decide, show (2 : Int32).toInt = 2 by decide, show (3 : Int32).toInt = 3 by decide, show (4 : Int32).toInt = 4 by decide, show (5 : Int32).toInt = 5 by decide, show (6 : Int32).toInt = 6 by decide, show (7 : Int32).toInt = 7 by decide, show (8 : Int32).toInt = 8 by decide, show (9 : Int32).toInt = 9 by decide, show (10 : Int32).toInt = 10 by decide, show (11 : Int32).toInt = 11 by decide, show (12 : Int32).toInt = 12 by decide, show (13 : Int32).toInt = 13 by decide, show (14 : Int32).toInt = 14 by decide, show (15 : Int32).toInt = 15 by decide, show (16 : Int32).toInt = 16 by decide, show (20 : Int32).toInt = 20 by decide, show (39 : Int32).toInt = 39 by decide, show (40 : Int32).toInt = 40 by decide, show (50 : Int32).toInt = 50 by decide, show (60 : Int32).toInt = 60 by decide, show (99 : Int32).toInt = 99 by decide, show (100 : Int32).toInt = 100 by decide, show (999 : Int32).toInt = 999 by decide, show (9999 : Int32).toInt = 9999 by decide, show (99999 : Int32).toInt = 99999 by decide, show (999999 : Int32).toInt = 999999 by decide, show (9999999 : Int32).toInt = 9999999 by decide, show (-50 : Int32).toInt = -50 by decide, show (32 : Int32).toInt = 32 by decide] at *); (repeat first | rw [if_pos (by omega)] at hzz | rw [if_neg (by omega)] at hzz); subst hzz; first | exact zK95 | (rw [win_us (by omega)]; exact zK95) | (rw [win_off (by omega)]; exact zK95)
          · generalize hzz : dShape d len c w v = zz1; unfold dShape at hzz; (try simp only [ i_eq, i_lt, i_le, show (-1 : Int32).toInt = -1 by decide, show (0 : Int32).toInt = 0 by decide, show (1 : Int32).toInt = 1 by decide, show (2 : Int32).toInt = 2 by decide, show (3 : Int32).toInt = 3 by decide, show (4 : Int32).toInt = 4 by decide, show (5 : Int32).toInt = 5 by decide, show (6 : Int32).toInt = 6 by decide, show (7 : Int32).toInt = 7 by decide, show (8 : Int32).toInt = 8 by decide, show (9 : Int32).toInt = 9 by decide, show (10 : Int32).toInt = 10 by decide, show (11 : Int32).toInt = 11 by decide, show (12 : Int32).toInt = 12 by decide, show (13 : Int32).toInt = 13 by decide, show (14 : Int32).toInt = 14 by decide, show (15 : Int32).toInt = 15 by decide, show (16 : Int32).toInt = 16 by decide, show (20 : Int32).toInt = 20 by decide, show (39 : Int32).toInt = 39 by decide, show (40 : Int32).toInt = 40 by decide, show (50 : Int32).toInt = 50 by decide, show (60 : Int32).toInt = 60 by decide, show (99 : Int32).toInt = 99 by decide, show (100 : Int32).toInt = 100 by decide, show (999 : Int32).toInt = 999 by decide, show (9999 : Int32).toInt = 9999 by decide, show (99999 : Int32).toInt = 99999 by decide, show (999999 : Int32).toInt = 999999 by decide, show (9999999 : Int32).toInt = 9999999 by decide, show (-50 : Int32).toInt = -50 by decide, show (32 : Int32).toInt = 32 by decide] at *); (repeat first | rw [if_pos (by omega)] at hzz | rw [if_neg (by omega)] at hzz); subst hzz; first | exact zK96 | (rw [win_us (by omega)]; exact zK96) | (rw [win_off (by omega)]; exact zK96)
          · generalize hzz : opShape d len c w v = zz1; unfold opShape at hzz; (try simp only [ i_eq, i_lt, i_le, show (-1 : Int32).toInt = -1 by decide, show (0 : Int32).toInt = 0 by decide, show (1 : Int32).toInt = 1 by decide, show (2 : Int32).toInt = 2 by decide, show (3 : Int32).toInt = 3 by decide, show (4 : Int32).toInt = 4 by decide, show (5 : Int32).toInt = 5 by decide, show (6 : Int32).toInt = 6 by decide, show (7 : Int32).toInt = 7 by decide, show (8 : Int32).toInt = 8 by decide, show (9 : Int32).toInt = 9 by decide, show (10 : Int32).toInt = 10 by decide, show (11 : Int32).toInt = 11 by decide, show (12 : Int32).toInt = 12 by decide, show (13 : Int32).toInt = 13 by decide, show (14 : Int32).toInt = 14 by decide, show (15 : Int32).toInt = 15 by decide, show (16 : Int32).toInt = 16 by decide, show (20 : Int32).toInt = 20 by decide, show (39 : Int32).toInt = 39 by decide, show (40 : Int32).toInt = 40 by decide, show (50 : Int32).toInt = 50 by decide, show (60 : Int32).toInt = 60 by decide, show (99 : Int32).toInt = 99 by decide, show (100 : Int32).toInt = 100 by decide, show (999 : Int32).toInt = 999 by decide, show (9999 : Int32).toInt = 9999 by decide, show (99999 : Int32).toInt = 99999 by decide, show (999999 : Int32).toInt = 999999 by decide, show (9999999 : Int32).toInt = 9999999 by decide, show (-50 : Int32).toInt = -50 by decide, show (32 : Int32).toInt = 32 by decide] at *); (repeat first | rw [if_pos (by omega)] at hzz | rw [if_neg (by omega)] at hzz); subst hzz; exact zK97
set_option maxHeartbeats 4000000 in
set_option maxRecDepth 100000 in
theorem p_set {κ : Wc} {l : Launch} {h : Mm} {n : Nat} {o : Nat} {im : Int32} {d : Nat → Int32} {len : Nat} {nc : Nat} {cold : Int32} {wind : Int32} {fo : Nat → Int32} {w : Int32} {v : Int32} (K0 : h o = some (.inr (11, [.ref (o + 1), .ref (o + 14), .ref (o + 27), .ref (o + 33), .ref (o + 42), .ref (o + 55), .ref (o + 57), .ref (o + 59), .ref (o + 61), .int im]))) (K1 : h (o + 1) = some (.inr (3, [.ref (o + 1 + 1), .ref (o + 1 + 7), .ref (o + 1 + 9), .ref (o + 1 + 11), .int (d 13)]))) (K2 : h (o + 2) = some (.inr (2, [.ref (o + 3), .ref (o + 4), .ref (o + 5), .ref (o + 6), .ref (o + 7), .int (nI len), .int (d 0), .int (d 2), .int (d 3), .int (nI nc), .int (d 10), .int cold, .int wind]))) (K3 : h (o + 5) = arI κ 6 (win 4 6 d)) (K4 : h (o + 61) = arI κ 6 fo)  : Con κ l yX11_set cX11_set 4 (some .int) 3 0 0 [.ref o, .int w, .int v] h n (fun q h' n' => q = some (.int (ansOf (opSet d w v))) ∧ n' = n ∧ (∀ zq : Nat, zq < (o + 76) → zq ≠ (o + 5) → zq ≠ (o + 61) → h' zq = h zq) ∧ Zr κ (o + 76) h h' ∧ h' (o + 5) = arI κ 6 (win 4 6 (dSet d w v)) ∧ h' (o + 61) = arI κ 6 (bump (opSet d w v) fo)) := by
  refine Con.of mk_X11_set (Nat.le_of_ble_eq_true rfl) (fun G hG X E => ?_)
  subst hG
  refine z_ls (ls' := [(0, .ref o), (1, .int w), (2, .int v)]) rfl ?_
  refine z_iload_n X 1 dX11_set_0 rfl ?_
  refine z_iload_n X 2 dX11_set_1 rfl ?_
  refine z_callS X (c_isSetting (κ := κ) (n := n) (w := (w)) (v := (v))  ) mk_X11_isSetting dX11_set_2 wd_307 wd_308 rfl rfl (Nat.le_of_ble_eq_true rfl) (Nat.le_of_ble_eq_true rfl) (Nat.le_of_ble_eq_true rfl) (by omega) (by omega) (fun q zh1 zm3 zp4 => ?_)
  obtain ⟨rfl, ze2, zn5⟩ := zp4
  subst zm3
  subst zh1
  refine z_st (st' := [.int (b2i (mayB w v))]) rfl ?_
  refine z_if_ne X 14 dX11_set_5 (by decide) (fun zc6 => ?_) (fun zc6 => ?_)
  · replace zc6 := b2i_t zc6
    obtain ⟨wk, hwk, rfl⟩ := ix_of (c := w) (len := 6) (by omega) (by omega)
    refine z_aload_n X 0 dX11_set_14 rfl ?_
    refine z_get X fl_X11_10_11 dX11_set_15 K0 rfl ?_
    refine z_get X fl_X11_56_3 dX11_set_18 K1 rfl ?_
    refine z_get X fl_X11_114_2 dX11_set_21 K2 rfl ?_
    refine z_iload_n X 1 dX11_set_24 rfl ?_
    refine z_iald2 (v := d (4 + wk)) X dX11_set_25 K3 (vp_in_nI (n := wk) (by omega) (by omega)) ((congrArg (win 4 6 d) (nI_clamp (n := wk) (by omega))).trans (win_at (k := wk) (by omega))) ?_
    refine z_istore_n (ls' := [(3, .int (d (4 + wk))), (0, .ref o), (1, .int (nI wk)), (2, .int v)]) X dX11_set_26 (by decide) rfl ?_
    refine z_aload_n X 1 dX11_set_27 rfl ?_
    refine z_get X fl_X11_10_11 dX11_set_28 K0 rfl ?_
    refine z_get X fl_X11_56_3 dX11_set_31 K1 rfl ?_
    refine z_get X fl_X11_114_2 dX11_set_34 K2 rfl ?_
    refine z_iload_n X 2 dX11_set_37 rfl ?_
    refine z_iload_n X 3 dX11_set_38 rfl ?_
    refine z_iast X dX11_set_39 K3 (vp_in_nI (n := wk) (by omega) (by omega)) (congrArg (fun z => va_up h (o + 5) (arI κ 6 (upd (win 4 6 d) z v))) (nI_clamp (n := wk) (by omega))) ?_
    obtain ⟨zh7, ze8⟩ : ∃ z : Mm, z = va_up h (o + 5) (arI κ 6 (upd (win 4 6 d) wk v)) := ⟨_, rfl⟩
    refine z_heap (h' := zh7) ze8.symm ?_
    have zK9 := up_off ze8 (show o ≠ o + 5 by omega) K0
    have zK10 := up_off ze8 (show o + 1 ≠ o + 5 by omega) K1
    have zK11 := up_off ze8 (show o + 2 ≠ o + 5 by omega) K2
    have zK12 := up_at ze8
    have zK13 := up_off ze8 (show o + 61 ≠ o + 5 by omega) K4
    have zl14 : ∀ zq : Nat, zq < (o + 76) → zq ≠ (o + 5) → zh7 zq = h zq := by intro zq hzq zn0; rw [ze8, va_up_ne _ _ (show zq ≠ o + 5 by omega)]; try rfl
    have zr15 : Zr κ (o + 76) h zh7 := (Zr.refl).trans (Zr.same (fun zq h1 => by rw [ze8, va_up_ne _ _ (show zq ≠ o + 5 by omega)]))
    refine z_iload_n X 0 dX11_set_40 rfl ?_
    refine z_iret X E dX11_set_41 (by omega) (by omega) ⟨?_, ?_, ?_, ?_, ?_, ?_⟩
    · generalize hzz : opSet d (nI wk) v = zz1; unfold opSet at hzz; (try simp only [i_nI (n := wk) (by omega), nI_clamp (n := wk) (by omega),  i_eq, i_lt, i_le, show (-1 : Int32).toInt = -1 by decide, show (0 : Int32).toInt = 0 by decide, show (1 : Int32).toInt = 1 by decide, show (2 : Int32).toInt = 2 by decide, show (3 : Int32).toInt = 3 by decide, show (4 : Int32).toInt = 4 by decide, show (5 : Int32).toInt = 5 by decide, show (6 : Int32).toInt = 6 by decide, show (7 : Int32).toInt = 7 by decide, show (8 : Int32).toInt = 8 by decide, show (9 : Int32).toInt = 9 by decide, show (10 : Int32).toInt = 10 by decide, show (11 : Int32).toInt = 11 by decide, show (12 : Int32).toInt = 12 by decide, show (13 : Int32).toInt = 13 by decide, show (14 : Int32).toInt = 14 by decide, show (15 : Int32).toInt = 15 by decide, show (16 : Int32).toInt = 16 by decide, show (20 : Int32).toInt = 20 by decide, show (39 : Int32).toInt = 39 by decide, show (40 : Int32).toInt = 40 by decide, show (50 : Int32).toInt = 50 by decide, show (60 : Int32).toInt = 60 by decide, show (99 : Int32).toInt = 99 by decide, show (100 : Int32).toInt = 100 by decide, show (999 : Int32).toInt = 999 by decide, show (9999 : Int32).toInt = 9999 by decide, show (99999 : Int32).toInt = 99999 by decide, show (999999 : Int32).toInt = 999999 by decide, show (9999999 : Int32).toInt = 9999999 by decide, show (-50 : Int32).toInt = -50 by decide, show (32 : Int32).toInt = 32 by decide] at *); (repeat first | rw [if_pos (by omega)] at hzz | rw [if_neg (by omega)] at hzz); subst hzz; first | rfl | exact congrArg (fun z => some (Value.int z)) (ansOf_0 _).symm
    · rfl
    · exact fun zq hzq zn0 zn1 => zl14 zq hzq zn0
    · exact zr15
    · generalize hzz : dSet d (nI wk) v = zz1; unfold dSet at hzz; (try simp only [i_nI (n := wk) (by omega), nI_clamp (n := wk) (by omega),  i_eq, i_lt, i_le, show (-1 : Int32).toInt = -1 by decide, show (0 : Int32).toInt = 0 by decide, show (1 : Int32).toInt = 1 by decide, show (2 : Int32).toInt = 2 by decide, show (3 : Int32).toInt = 3 by decide, show (4 : Int32).toInt = 4 by decide, show (5 : Int32).toInt = 5 by decide, show (6 : Int32).toInt = 6 by decide, show (7 : Int32).toInt = 7 by decide, show (8 : Int32).toInt = 8 by decide, show (9 : Int32).toInt = 9 by decide, show (10 : Int32).toInt = 10 by decide, show (11 : Int32).toInt = 11 by decide, show (12 : Int32).toInt = 12 by decide, show (13 : Int32).toInt = 13 by decide, show (14 : Int32).toInt = 14 by decide, show (15 : Int32).toInt = 15 by decide, show (16 : Int32).toInt = 16 by decide, show (20 : Int32).toInt = 20 by decide, show (39 : Int32).toInt = 39 by decide, show (40 : Int32).toInt = 40 by decide, show (50 : Int32).toInt = 50 by decide, show (60 : Int32).toInt = 60 by decide, show (99 : Int32).toInt = 99 by decide, show (100 : Int32).toInt = 100 by decide, show (999 : Int32).toInt = 999 by decide, show (9999 : Int32).toInt = 9999 by decide, show (99999 : Int32).toInt = 99999 by decide, show (999999 : Int32).toInt = 999999 by decide, show (9999999 : Int32).toInt = 9999999 by decide, show (-50 : Int32).toInt = -50 by decide, show (32 : Int32).toInt = 32 by decide] at *); (repeat first | rw [if_pos (by omega)] at hzz | rw [if_neg (by omega)] at hzz); subst hzz; first | exact zK12 | (rw [win_us (by omega)]; exact zK12) | (rw [win_off (by omega)]; exact zK12)
    · generalize hzz : opSet d (nI wk) v = zz1; unfold opSet at hzz; (try simp only [i_nI (n := wk) (by omega), nI_clamp (n := wk) (by omega),  i_eq, i_lt, i_le, show (-1 : Int32).toInt = -1 by decide, show (0 : Int32).toInt = 0 by decide, show (1 : Int32).toInt = 1 by decide, show (2 : Int32).toInt = 2 by decide, show (3 : Int32).toInt = 3 by decide, show (4 : Int32).toInt = 4 by decide, show (5 : Int32).toInt = 5 by decide, show (6 : Int32).toInt = 6 by decide, show (7 : Int32).toInt = 7 by decide, show (8 : Int32).toInt = 8 by decide, show (9 : Int32).toInt = 9 by decide, show (10 : Int32).toInt = 10 by decide, show (11 : Int32).toInt = 11 by decide, show (12 : Int32).toInt = 12 by decide, show (13 : Int32).toInt = 13 by decide, show (14 : Int32).toInt = 14 by decide, show (15 : Int32).toInt = 15 by decide, show (16 : Int32).toInt = 16 by decide, show (20 : Int32).toInt = 20 by decide, show (39 : Int32).toInt = 39 by decide, show (40 : Int32).toInt = 40 by decide, show (50 : Int32).toInt = 50 by decide, show (60 : Int32).toInt = 60 by decide, show (99 : Int32).toInt = 99 by decide, show (100 : Int32).toInt = 100 by decide, show (999 : Int32).toInt = 999 by decide, show (9999 : Int32).toInt = 9999 by decide, show (99999 : Int32).toInt = 99999 by decide, show (999999 : Int32).toInt = 999999 by decide, show (9999999 : Int32).toInt = 9999999 by decide, show (-50 : Int32).toInt = -50 by decide, show (32 : Int32).toInt = 32 by decide] at *); (repeat first | rw [if_pos (by omega)] at hzz | rw [if_neg (by omega)] at hzz); subst hzz; exact zK13
  · replace zc6 := b2i_f zc6
    refine z_aload_n X 0 dX11_set_8 rfl ?_
    refine z_iconst (v := 1) X dX11_set_9 (by decide) ?_
    refine z_callV X (c_fail (κ := κ) (n := n) (o := (o)) (im := (im)) (fo := (fo)) (k := (1)) K0 K4 (by first | assumption | omega) (by first | assumption | omega)) mk_X11_fail dX11_set_10 wd_260 wd_262 wd_0 rfl K0 rfl rfl rfl (Nat.le_of_ble_eq_true rfl) (Nat.le_of_ble_eq_true rfl) (Nat.le_of_ble_eq_true rfl) (by omega) (by omega) (fun q zh16 zm18 zp19 => ?_)
    obtain ⟨rfl, ze17, zn20⟩ := zp19
    subst zm18
    refine z_st (st' := [.int (lowE 1)]) rfl ?_
    have zK21 : zh16 o = some (.inr (11, [.ref (o + 1), .ref (o + 14), .ref (o + 27), .ref (o + 33), .ref (o + 42), .ref (o + 55), .ref (o + 57), .ref (o + 59), .ref (o + 61), .int im])) := by rw [ze17]; rw [va_up_ne _ _ (show o ≠ o + 61 by omega)]; exact K0
    have zK22 : zh16 (o + 1) = some (.inr (3, [.ref (o + 1 + 1), .ref (o + 1 + 7), .ref (o + 1 + 9), .ref (o + 1 + 11), .int (d 13)])) := by rw [ze17]; rw [va_up_ne _ _ (show o + 1 ≠ o + 61 by omega)]; exact K1
    have zK23 : zh16 (o + 2) = some (.inr (2, [.ref (o + 3), .ref (o + 4), .ref (o + 5), .ref (o + 6), .ref (o + 7), .int (nI len), .int (d 0), .int (d 2), .int (d 3), .int (nI nc), .int (d 10), .int cold, .int wind])) := by rw [ze17]; rw [va_up_ne _ _ (show o + 2 ≠ o + 61 by omega)]; exact K2
    have zK24 : zh16 (o + 5) = arI κ 6 (win 4 6 d) := by rw [ze17]; rw [va_up_ne _ _ (show o + 5 ≠ o + 61 by omega)]; exact K3
    have zK25 : zh16 (o + 61) = arI κ 6 (bmp fo 1) := by rw [ze17]; exact va_up_self _ _ _
    have zl26 : ∀ zq : Nat, zq < (o + 76) → zq ≠ (o + 61) → zh16 zq = h zq := by intro zq hzq zn0; rw [ze17, va_up_ne _ _ (show zq ≠ o + 61 by omega)]; try rfl
    have zr27 : Zr κ (o + 76) h zh16 := (Zr.refl).trans (Zr.same (fun zq h1 => by rw [ze17, va_up_ne _ _ (show zq ≠ o + 61 by omega)]))
    refine z_iret X E dX11_set_13 (by omega) (by omega) ⟨?_, ?_, ?_, ?_, ?_, ?_⟩
    · generalize hzz : opSet d w v = zz1; unfold opSet at hzz; (try simp only [ i_eq, i_lt, i_le, show (-1 : Int32).toInt = -1 by decide, show (0 : Int32).toInt = 0 by decide, show (1 : Int32).toInt = 1 by decide, show (2 : Int32).toInt = 2 by decide, show (3 : Int32).toInt = 3 by decide, show (4 : Int32).toInt = 4 by decide, show (5 : Int32).toInt = 5 by decide, show (6 : Int32).toInt = 6 by decide, show (7 : Int32).toInt = 7 by decide, show (8 : Int32).toInt = 8 by decide, show (9 : Int32).toInt = 9 by decide, show (10 : Int32).toInt = 10 by decide, show (11 : Int32).toInt = 11 by decide, show (12 : Int32).toInt = 12 by decide, show (13 : Int32).toInt = 13 by decide, show (14 : Int32).toInt = 14 by decide, show (15 : Int32).toInt = 15 by decide, show (16 : Int32).toInt = 16 by decide, show (20 : Int32).toInt = 20 by decide, show (39 : Int32).toInt = 39 by decide, show (40 : Int32).toInt = 40 by decide, show (50 : Int32).toInt = 50 by decide, show (60 : Int32).toInt = 60 by decide, show (99 : Int32).toInt = 99 by decide, show (100 : Int32).toInt = 100 by decide, show (999 : Int32).toInt = 999 by decide, show (9999 : Int32).toInt = 9999 by decide, show (99999 : Int32).toInt = 99999 by decide, show (999999 : Int32).toInt = 999999 by decide, show (9999999 : Int32).toInt = 9999999 by decide, show (-50 : Int32).toInt = -50 by decide, show (32 : Int32).toInt = 32 by decide] at *); (repeat first | rw [if_pos (by omega)] at hzz | rw [if_neg (by omega)] at hzz); subst hzz; first | rfl | exact congrArg (fun z => some (Value.int z)) (ansOf_0 _).symm
    · rfl
    · exact fun zq hzq zn0 zn1 => zl26 zq hzq zn1
    · exact zr27
    · generalize hzz : dSet d w v = zz1; unfold dSet at hzz; (try simp only [ i_eq, i_lt, i_le, show (-1 : Int32).toInt = -1 by decide, show (0 : Int32).toInt = 0 by decide, show (1 : Int32).toInt = 1 by decide, show (2 : Int32).toInt = 2 by decide, show (3 : Int32).toInt = 3 by decide, show (4 : Int32).toInt = 4 by decide, show (5 : Int32).toInt = 5 by decide, show (6 : Int32).toInt = 6 by decide, show (7 : Int32).toInt = 7 by decide, show (8 : Int32).toInt = 8 by decide, show (9 : Int32).toInt = 9 by decide, show (10 : Int32).toInt = 10 by decide, show (11 : Int32).toInt = 11 by decide, show (12 : Int32).toInt = 12 by decide, show (13 : Int32).toInt = 13 by decide, show (14 : Int32).toInt = 14 by decide, show (15 : Int32).toInt = 15 by decide, show (16 : Int32).toInt = 16 by decide, show (20 : Int32).toInt = 20 by decide, show (39 : Int32).toInt = 39 by decide, show (40 : Int32).toInt = 40 by decide, show (50 : Int32).toInt = 50 by decide, show (60 : Int32).toInt = 60 by decide, show (99 : Int32).toInt = 99 by decide, show (100 : Int32).toInt = 100 by decide, show (999 : Int32).toInt = 999 by decide, show (9999 : Int32).toInt = 9999 by decide, show (99999 : Int32).toInt = 99999 by decide, show (999999 : Int32).toInt = 999999 by decide, show (9999999 : Int32).toInt = 9999999 by decide, show (-50 : Int32).toInt = -50 by decide, show (32 : Int32).toInt = 32 by decide] at *); (repeat first | rw [if_pos (by omega)] at hzz | rw [if_neg (by omega)] at hzz); subst hzz; first | exact zK24 | (rw [win_us (by omega)]; exact zK24) | (rw [win_off (by omega)]; exact zK24)
    · generalize hzz : opSet d w v = zz1; unfold opSet at hzz; (try simp only [ i_eq, i_lt, i_le, show (-1 : Int32).toInt = -1 by decide, show (0 : Int32).toInt = 0 by decide, show (1 : Int32).toInt = 1 by decide, show (2 : Int32).toInt = 2 by decide, show (3 : Int32).toInt = 3 by decide, show (4 : Int32).toInt = 4 by decide, show (5 : Int32).toInt = 5 by decide, show (6 : Int32).toInt = 6 by decide, show (7 : Int32).toInt = 7 by decide, show (8 : Int32).toInt = 8 by decide, show (9 : Int32).toInt = 9 by decide, show (10 : Int32).toInt = 10 by decide, show (11 : Int32).toInt = 11 by decide, show (12 : Int32).toInt = 12 by decide, show (13 : Int32).toInt = 13 by decide, show (14 : Int32).toInt = 14 by decide, show (15 : Int32).toInt = 15 by decide, show (16 : Int32).toInt = 16 by decide, show (20 : Int32).toInt = 20 by decide, show (39 : Int32).toInt = 39 by decide, show (40 : Int32).toInt = 40 by decide, show (50 : Int32).toInt = 50 by decide, show (60 : Int32).toInt = 60 by decide, show (99 : Int32).toInt = 99 by decide, show (100 : Int32).toInt = 100 by decide, show (999 : Int32).toInt = 999 by decide, show (9999 : Int32).toInt = 9999 by decide, show (99999 : Int32).toInt = 99999 by decide, show (999999 : Int32).toInt = 999999 by decide, show (9999999 : Int32).toInt = 9999999 by decide, show (-50 : Int32).toInt = -50 by decide, show (32 : Int32).toInt = 32 by decide] at *); (repeat first | rw [if_pos (by omega)] at hzz | rw [if_neg (by omega)] at hzz); subst hzz; exact zK25
theorem opOfCause_a {d : Nat → Int32} {nc ck : Nat} {w : Int32} (h : ck < nc) (hn : nc ≤ 6) (hw : w = 0) : opOfCause d nc (nI ck) w = (0, d (20 + 2 * ck)) := by
  subst hw
  unfold opOfCause
  rw [i_nI (by omega), nI_clamp (by omega), show (0 : Int32).toInt = 0 by decide, if_neg (by omega), if_neg (by omega)]
  rfl
theorem opOfCause_b {d : Nat → Int32} {nc ck : Nat} {w : Int32} (h : ck < nc) (hn : nc ≤ 6) (hw : w = 1) : opOfCause d nc (nI ck) w = (0, d (20 + 2 * ck + 1)) := by
  subst hw
  unfold opOfCause
  rw [i_nI (by omega), nI_clamp (by omega), show (1 : Int32).toInt = 1 by decide, if_neg (by omega), if_neg (by omega)]
  rfl
theorem opOfCause_c {d : Nat → Int32} {nc ck : Nat} {w : Int32} (h : ck < nc) (hn : nc ≤ 6) (hw : 0 ≤ w.toInt ∧ w.toInt ≤ 2) (h0 : ¬ w = 0) (h1 : ¬ w = 1) : opOfCause d nc (nI ck) w = (0, d 10 >>> (nI ck &&& 31) &&& 1) := by
  have e0 : ¬ w.toInt = 0 := fun q => h0 (eq0_of q)
  have e1 : ¬ w.toInt = 1 := fun q => h1 (i_eq.mpr (q.trans (by decide)))
  unfold opOfCause
  rw [i_nI (by omega), if_neg (by omega), if_pos (by omega)]
theorem opOfCause_e {d : Nat → Int32} {nc : Nat} {c w : Int32} (h : ¬ (0 ≤ c.toInt ∧ c.toInt ≤ ((nc : Nat) : Int) - 1 ∧ 0 ≤ w.toInt ∧ w.toInt ≤ 2)) : opOfCause d nc c w = (1, 0) := if_pos h
theorem opAs_0 {d : Nat → Int32} {nc ck x y : Nat} (h : ck < nc) (hn : nc ≤ 6) (hx : x < 7) (hk : d (20 + 2 * ck) = nI y) (hi : isOfP (nI y) (nI x)) : opAs d nc (nI ck) (nI x) = (0, d (20 + 2 * ck + 1)) := by
  have e1 := i_nI (n := ck) (by omega)
  have e2 := i_nI (n := x) (by omega)
  unfold opAs
  rw [if_neg (by omega), nI_clamp (by omega), hk, if_pos hi]
theorem opAs_5 {d : Nat → Int32} {nc ck x y : Nat} (h : ck < nc) (hn : nc ≤ 6) (hx : x < 7) (hk : d (20 + 2 * ck) = nI y) (hi : ¬ isOfP (nI y) (nI x)) : opAs d nc (nI ck) (nI x) = (5, 0) := by
  have e1 := i_nI (n := ck) (by omega)
  have e2 := i_nI (n := x) (by omega)
  unfold opAs
  rw [if_neg (by omega), nI_clamp (by omega), hk, if_neg hi]
theorem opAs_e {d : Nat → Int32} {nc : Nat} {c w : Int32} (h : ¬ (0 ≤ c.toInt ∧ c.toInt ≤ ((nc : Nat) : Int) - 1 ∧ 0 ≤ w.toInt ∧ w.toInt ≤ 6)) : opAs d nc c w = (1, 0) := if_pos h
set_option maxHeartbeats 4000000 in
set_option maxRecDepth 100000 in
theorem p_ofCause {κ : Wc} {l : Launch} {h : Mm} {n : Nat} {o : Nat} {im : Int32} {d : Nat → Int32} {len : Nat} {nc : Nat} {cold : Int32} {wind : Int32} {cs : Nat → Option Nat} {fo : Nat → Int32} {c : Int32} {w : Int32} (K0 : h o = some (.inr (11, [.ref (o + 1), .ref (o + 14), .ref (o + 27), .ref (o + 33), .ref (o + 42), .ref (o + 55), .ref (o + 57), .ref (o + 59), .ref (o + 61), .int im]))) (K1 : h (o + 1) = some (.inr (3, [.ref (o + 1 + 1), .ref (o + 1 + 7), .ref (o + 1 + 9), .ref (o + 1 + 11), .int (d 13)]))) (K2 : h (o + 2) = some (.inr (2, [.ref (o + 3), .ref (o + 4), .ref (o + 5), .ref (o + 6), .ref (o + 7), .int (nI len), .int (d 0), .int (d 2), .int (d 3), .int (nI nc), .int (d 10), .int cold, .int wind]))) (K3 : h (o + 6) = arR κ 1 6 cs) (K4 : h (o + 61) = arI κ 6 fo) (q4 : d 11 = nI nc) (q5 : nc ≤ 6) (hCs : CsO (o + 76) h cs d nc) : Con κ l yX11_ofCause cX11_ofCause 4 (some .int) 4 0 0 [.ref o, .int c, .int w] h n (fun q h' n' => q = some (.int (ansOf (opOfCause d nc c w))) ∧ n' = n ∧ (∀ zq : Nat, zq < (o + 76) → zq ≠ (o + 61) → h' zq = h zq) ∧ Zr κ (o + 76) h h' ∧ h' (o + 61) = arI κ 6 (bump (opOfCause d nc c w) fo)) := by
  refine Con.of mk_X11_ofCause (Nat.le_of_ble_eq_true rfl) (fun G hG X E => ?_)
  subst hG
  refine z_ls (ls' := [(0, .ref o), (1, .int c), (2, .int w)]) rfl ?_
  refine z_aload_n X 0 dX11_ofCause_0 rfl ?_
  refine z_iload_n X 1 dX11_ofCause_1 rfl ?_
  by_cases hin : 0 ≤ c.toInt ∧ c.toInt ≤ ((nc : Nat) : Int) - 1
  · skip
    obtain ⟨ck, hck, rfl⟩ := ix_of (c := c) (len := nc) (by omega) (by omega)
    obtain ⟨a, kd, ha1, ha2, ha3, ha4, ha5⟩ := hCs ck (by omega)
    refine z_callV X (c_causeAt_s (κ := κ) (n := n) (o := (o)) (im := (im)) (len := (len)) (nc := (nc)) (cold := (cold)) (wind := (wind)) (cs := (cs)) (ck := (ck)) (a := (a)) K0 K1 K2 K3 (by first | assumption | omega) (by first | assumption | omega) (ha2)) mk_X11_causeAt dX11_ofCause_2 wd_413 wd_415 wd_1 rfl K0 rfl rfl rfl (Nat.le_of_ble_eq_true rfl) (Nat.le_of_ble_eq_true rfl) (Nat.le_of_ble_eq_true rfl) (by omega) (by omega) (fun q zh1 zm3 zp4 => ?_)
    obtain ⟨rfl, ze2, zn5⟩ := zp4
    subst zm3
    subst zh1
    refine z_st (st' := [.ref a]) rfl ?_
    rcases lt7 ha3 with rfl | rfl | rfl | rfl | rfl | rfl | rfl
    · skip
      have zK6 : h a = some (.inr (0, [.int (nI 0), .int (nI ck), .int (d (20 + 2 * ck + 1))])) := ha5
      refine z_astore_n (ls' := [(3, .ref a), (0, .ref o), (1, .int (nI ck)), (2, .int w)]) X dX11_ofCause_5 (by decide) rfl ?_
      refine z_aload_n X 0 dX11_ofCause_6 rfl ?_
      refine z_ifnull X dX11_ofCause_7 ?_
      refine z_iload_n X 3 dX11_ofCause_10 rfl ?_
      refine z_iconst (v := 0) X dX11_ofCause_11 (by decide) ?_
      refine z_iconst (v := 2) X dX11_ofCause_12 (by decide) ?_
      refine z_callS X (c_within (κ := κ) (n := n) (v := (w)) (lo := (0)) (hi := (2))  ) mk_X11_within dX11_ofCause_13 wd_259 wd_257 rfl rfl (Nat.le_of_ble_eq_true rfl) (Nat.le_of_ble_eq_true rfl) (Nat.le_of_ble_eq_true rfl) (by omega) (by omega) (fun q zh7 zm9 zp10 => ?_)
      obtain ⟨rfl, ze8, zn11⟩ := zp10
      subst zm9
      subst zh7
      refine z_st (st' := [.int (b2i ((0 : Int32).toInt ≤ (w : Int32).toInt ∧ (w : Int32).toInt ≤ (2 : Int32).toInt))]) rfl ?_
      refine z_toe (y := b2i (0 ≤ w.toInt ∧ w.toInt ≤ 2)) (by simp only [show (0 : Int32).toInt = 0 by decide, show (2 : Int32).toInt = 2 by decide]) ?_
      refine z_if_ne X 25 dX11_ofCause_16 (by decide) (fun zc12 => ?_) (fun zc12 => ?_)
      · replace zc12 := b2i_t zc12
        refine z_iload_n X 3 dX11_ofCause_25 rfl ?_
        refine z_if_ne X 34 dX11_ofCause_26 (by decide) (fun zc13 => ?_) (fun zc13 => ?_)
        · refine z_iload_n X 3 dX11_ofCause_34 rfl ?_
          refine z_iconst (v := 1) X dX11_ofCause_35 (by decide) ?_
          refine z_icmp_ne X 46 dX11_ofCause_36 (by decide) (fun zc14 => ?_) (fun zc14 => ?_)
          · refine z_aload_n X 1 dX11_ofCause_46 rfl ?_
            refine z_iload_n X 2 dX11_ofCause_47 rfl ?_
            refine z_callV X (c_onOf (κ := κ) (n := n) (o := (o)) (im := (im)) (len := (len)) (nc := (nc)) (cold := (cold)) (wind := (wind)) (c := (nI ck)) K0 K1 K2 ) mk_X11_onOf dX11_ofCause_48 wd_417 wd_419 wd_2 rfl K0 rfl rfl rfl (Nat.le_of_ble_eq_true rfl) (Nat.le_of_ble_eq_true rfl) (Nat.le_of_ble_eq_true rfl) (by omega) (by omega) (fun q zh15 zm17 zp18 => ?_)
            obtain ⟨rfl, ze16, zn19⟩ := zp18
            subst zm17
            subst zh15
            refine z_st (st' := [.int (d 10 >>> ((nI ck) &&& 31) &&& 1)]) rfl ?_
            refine z_iret X E dX11_ofCause_51 (by omega) (by omega) ⟨?_, ?_, ?_, ?_, ?_⟩
            · rw [opOfCause_c hck q5 (by assumption) (by assumption) (by assumption)]; rfl
            · rfl
            · exact fun zq hzq zn0 => rfl
            · exact Zr.refl
            · rw [opOfCause_c hck q5 (by assumption) (by assumption) (by assumption)]; exact K4
          · refine z_aload_n X 0 dX11_ofCause_39 rfl ?_
            refine z_get X fl_X11_140_0 dX11_ofCause_40 zK6 rfl ?_
            refine z_goto X 51 dX11_ofCause_43 (by decide) ?_
            refine z_iret X E dX11_ofCause_51 (by omega) (by omega) ⟨?_, ?_, ?_, ?_, ?_⟩
            · rw [opOfCause_b hck q5 (by assumption)]; rfl
            · rfl
            · exact fun zq hzq zn0 => rfl
            · exact Zr.refl
            · rw [opOfCause_b hck q5 (by assumption)]; exact K4
        · refine z_aload_n X 0 dX11_ofCause_29 rfl ?_
          refine z_get X fl_X11_135_0 dX11_ofCause_30 zK6 rfl ?_
          refine z_iret X E dX11_ofCause_33 (by omega) (by omega) ⟨?_, ?_, ?_, ?_, ?_⟩
          · rw [(opOfCause_a hck q5 (by assumption)).trans (congrArg (fun z => (0, z)) ha4)]; rfl
          · rfl
          · exact fun zq hzq zn0 => rfl
          · exact Zr.refl
          · rw [(opOfCause_a hck q5 (by assumption)).trans (congrArg (fun z => (0, z)) ha4)]; exact K4
      · replace zc12 := b2i_f zc12
        refine z_aload_n X 1 dX11_ofCause_19 rfl ?_
        refine z_iconst (v := 1) X dX11_ofCause_20 (by decide) ?_
        refine z_callV X (c_fail (κ := κ) (n := n) (o := (o)) (im := (im)) (fo := (fo)) (k := (1)) K0 K4 (by first | assumption | omega) (by first | assumption | omega)) mk_X11_fail dX11_ofCause_21 wd_260 wd_262 wd_0 rfl K0 rfl rfl rfl (Nat.le_of_ble_eq_true rfl) (Nat.le_of_ble_eq_true rfl) (Nat.le_of_ble_eq_true rfl) (by omega) (by omega) (fun q zh20 zm22 zp23 => ?_)
        obtain ⟨rfl, ze21, zn24⟩ := zp23
        subst zm22
        refine z_st (st' := [.int (lowE 1)]) rfl ?_
        have zK25 : zh20 o = some (.inr (11, [.ref (o + 1), .ref (o + 14), .ref (o + 27), .ref (o + 33), .ref (o + 42), .ref (o + 55), .ref (o + 57), .ref (o + 59), .ref (o + 61), .int im])) := by rw [ze21]; rw [va_up_ne _ _ (show o ≠ o + 61 by omega)]; exact K0
        have zK26 : zh20 (o + 1) = some (.inr (3, [.ref (o + 1 + 1), .ref (o + 1 + 7), .ref (o + 1 + 9), .ref (o + 1 + 11), .int (d 13)])) := by rw [ze21]; rw [va_up_ne _ _ (show o + 1 ≠ o + 61 by omega)]; exact K1
        have zK27 : zh20 (o + 2) = some (.inr (2, [.ref (o + 3), .ref (o + 4), .ref (o + 5), .ref (o + 6), .ref (o + 7), .int (nI len), .int (d 0), .int (d 2), .int (d 3), .int (nI nc), .int (d 10), .int cold, .int wind])) := by rw [ze21]; rw [va_up_ne _ _ (show o + 2 ≠ o + 61 by omega)]; exact K2
        have zK28 : zh20 (o + 6) = arR κ 1 6 cs := by rw [ze21]; rw [va_up_ne _ _ (show o + 6 ≠ o + 61 by omega)]; exact K3
        have zK29 : zh20 (o + 61) = arI κ 6 (bmp fo 1) := by rw [ze21]; exact va_up_self _ _ _
        have zK30 : zh20 a = some (.inr (0, [.int (nI 0), .int (nI ck), .int (d (20 + 2 * ck + 1))])) := by rw [ze21]; rw [va_up_ne _ _ (show a ≠ o + 61 by omega)]; exact zK6
        have zl31 : ∀ zq : Nat, zq < (o + 76) → zq ≠ (o + 61) → zh20 zq = h zq := by intro zq hzq zn0; rw [ze21, va_up_ne _ _ (show zq ≠ o + 61 by omega)]; try rfl
        have zr32 : Zr κ (o + 76) h zh20 := (Zr.refl).trans (Zr.same (fun zq h1 => by rw [ze21, va_up_ne _ _ (show zq ≠ o + 61 by omega)]))
        refine z_iret X E dX11_ofCause_24 (by omega) (by omega) ⟨?_, ?_, ?_, ?_, ?_⟩
        · rw [opOfCause_e (fun zq => (by assumption : ¬ (0 ≤ w.toInt ∧ w.toInt ≤ 2)) zq.2.2)]; rfl
        · rfl
        · exact fun zq hzq zn0 => zl31 zq hzq zn0
        · exact zr32
        · rw [opOfCause_e (fun zq => (by assumption : ¬ (0 ≤ w.toInt ∧ w.toInt ≤ 2)) zq.2.2)]; exact zK29
    · skip
      have zK33 : h a = some (.inr (10, [.int (nI 1), .int (nI ck), .int (d (20 + 2 * ck + 1))])) := ha5
      refine z_astore_n (ls' := [(3, .ref a), (0, .ref o), (1, .int (nI ck)), (2, .int w)]) X dX11_ofCause_5 (by decide) rfl ?_
      refine z_aload_n X 0 dX11_ofCause_6 rfl ?_
      refine z_ifnull X dX11_ofCause_7 ?_
      refine z_iload_n X 3 dX11_ofCause_10 rfl ?_
      refine z_iconst (v := 0) X dX11_ofCause_11 (by decide) ?_
      refine z_iconst (v := 2) X dX11_ofCause_12 (by decide) ?_
      refine z_callS X (c_within (κ := κ) (n := n) (v := (w)) (lo := (0)) (hi := (2))  ) mk_X11_within dX11_ofCause_13 wd_259 wd_257 rfl rfl (Nat.le_of_ble_eq_true rfl) (Nat.le_of_ble_eq_true rfl) (Nat.le_of_ble_eq_true rfl) (by omega) (by omega) (fun q zh34 zm36 zp37 => ?_)
      obtain ⟨rfl, ze35, zn38⟩ := zp37
      subst zm36
      subst zh34
      refine z_st (st' := [.int (b2i ((0 : Int32).toInt ≤ (w : Int32).toInt ∧ (w : Int32).toInt ≤ (2 : Int32).toInt))]) rfl ?_
      refine z_toe (y := b2i (0 ≤ w.toInt ∧ w.toInt ≤ 2)) (by simp only [show (0 : Int32).toInt = 0 by decide, show (2 : Int32).toInt = 2 by decide]) ?_
      refine z_if_ne X 25 dX11_ofCause_16 (by decide) (fun zc39 => ?_) (fun zc39 => ?_)
      · replace zc39 := b2i_t zc39
        refine z_iload_n X 3 dX11_ofCause_25 rfl ?_
        refine z_if_ne X 34 dX11_ofCause_26 (by decide) (fun zc40 => ?_) (fun zc40 => ?_)
        · refine z_iload_n X 3 dX11_ofCause_34 rfl ?_
          refine z_iconst (v := 1) X dX11_ofCause_35 (by decide) ?_
          refine z_icmp_ne X 46 dX11_ofCause_36 (by decide) (fun zc41 => ?_) (fun zc41 => ?_)
          · refine z_aload_n X 1 dX11_ofCause_46 rfl ?_
            refine z_iload_n X 2 dX11_ofCause_47 rfl ?_
            refine z_callV X (c_onOf (κ := κ) (n := n) (o := (o)) (im := (im)) (len := (len)) (nc := (nc)) (cold := (cold)) (wind := (wind)) (c := (nI ck)) K0 K1 K2 ) mk_X11_onOf dX11_ofCause_48 wd_417 wd_419 wd_2 rfl K0 rfl rfl rfl (Nat.le_of_ble_eq_true rfl) (Nat.le_of_ble_eq_true rfl) (Nat.le_of_ble_eq_true rfl) (by omega) (by omega) (fun q zh42 zm44 zp45 => ?_)
            obtain ⟨rfl, ze43, zn46⟩ := zp45
            subst zm44
            subst zh42
            refine z_st (st' := [.int (d 10 >>> ((nI ck) &&& 31) &&& 1)]) rfl ?_
            refine z_iret X E dX11_ofCause_51 (by omega) (by omega) ⟨?_, ?_, ?_, ?_, ?_⟩
            · rw [opOfCause_c hck q5 (by assumption) (by assumption) (by assumption)]; rfl
            · rfl
            · exact fun zq hzq zn0 => rfl
            · exact Zr.refl
            · rw [opOfCause_c hck q5 (by assumption) (by assumption) (by assumption)]; exact K4
          · refine z_aload_n X 0 dX11_ofCause_39 rfl ?_
            refine z_get X fl_X11_140_10 dX11_ofCause_40 zK33 rfl ?_
            refine z_goto X 51 dX11_ofCause_43 (by decide) ?_
            refine z_iret X E dX11_ofCause_51 (by omega) (by omega) ⟨?_, ?_, ?_, ?_, ?_⟩
            · rw [opOfCause_b hck q5 (by assumption)]; rfl
            · rfl
            · exact fun zq hzq zn0 => rfl
            · exact Zr.refl
            · rw [opOfCause_b hck q5 (by assumption)]; exact K4
        · refine z_aload_n X 0 dX11_ofCause_29 rfl ?_
          refine z_get X fl_X11_135_10 dX11_ofCause_30 zK33 rfl ?_
          refine z_iret X E dX11_ofCause_33 (by omega) (by omega) ⟨?_, ?_, ?_, ?_, ?_⟩
          · rw [(opOfCause_a hck q5 (by assumption)).trans (congrArg (fun z => (0, z)) ha4)]; rfl
          · rfl
          · exact fun zq hzq zn0 => rfl
          · exact Zr.refl
          · rw [(opOfCause_a hck q5 (by assumption)).trans (congrArg (fun z => (0, z)) ha4)]; exact K4
      · replace zc39 := b2i_f zc39
        refine z_aload_n X 1 dX11_ofCause_19 rfl ?_
        refine z_iconst (v := 1) X dX11_ofCause_20 (by decide) ?_
        refine z_callV X (c_fail (κ := κ) (n := n) (o := (o)) (im := (im)) (fo := (fo)) (k := (1)) K0 K4 (by first | assumption | omega) (by first | assumption | omega)) mk_X11_fail dX11_ofCause_21 wd_260 wd_262 wd_0 rfl K0 rfl rfl rfl (Nat.le_of_ble_eq_true rfl) (Nat.le_of_ble_eq_true rfl) (Nat.le_of_ble_eq_true rfl) (by omega) (by omega) (fun q zh47 zm49 zp50 => ?_)
        obtain ⟨rfl, ze48, zn51⟩ := zp50
        subst zm49
        refine z_st (st' := [.int (lowE 1)]) rfl ?_
        have zK52 : zh47 o = some (.inr (11, [.ref (o + 1), .ref (o + 14), .ref (o + 27), .ref (o + 33), .ref (o + 42), .ref (o + 55), .ref (o + 57), .ref (o + 59), .ref (o + 61), .int im])) := by rw [ze48]; rw [va_up_ne _ _ (show o ≠ o + 61 by omega)]; exact K0
        have zK53 : zh47 (o + 1) = some (.inr (3, [.ref (o + 1 + 1), .ref (o + 1 + 7), .ref (o + 1 + 9), .ref (o + 1 + 11), .int (d 13)])) := by rw [ze48]; rw [va_up_ne _ _ (show o + 1 ≠ o + 61 by omega)]; exact K1
        have zK54 : zh47 (o + 2) = some (.inr (2, [.ref (o + 3), .ref (o + 4), .ref (o + 5), .ref (o + 6), .ref (o + 7), .int (nI len), .int (d 0), .int (d 2), .int (d 3), .int (nI nc), .int (d 10), .int cold, .int wind])) := by rw [ze48]; rw [va_up_ne _ _ (show o + 2 ≠ o + 61 by omega)]; exact K2
        have zK55 : zh47 (o + 6) = arR κ 1 6 cs := by rw [ze48]; rw [va_up_ne _ _ (show o + 6 ≠ o + 61 by omega)]; exact K3
        have zK56 : zh47 (o + 61) = arI κ 6 (bmp fo 1) := by rw [ze48]; exact va_up_self _ _ _
        have zK57 : zh47 a = some (.inr (10, [.int (nI 1), .int (nI ck), .int (d (20 + 2 * ck + 1))])) := by rw [ze48]; rw [va_up_ne _ _ (show a ≠ o + 61 by omega)]; exact zK33
        have zl58 : ∀ zq : Nat, zq < (o + 76) → zq ≠ (o + 61) → zh47 zq = h zq := by intro zq hzq zn0; rw [ze48, va_up_ne _ _ (show zq ≠ o + 61 by omega)]; try rfl
        have zr59 : Zr κ (o + 76) h zh47 := (Zr.refl).trans (Zr.same (fun zq h1 => by rw [ze48, va_up_ne _ _ (show zq ≠ o + 61 by omega)]))
        refine z_iret X E dX11_ofCause_24 (by omega) (by omega) ⟨?_, ?_, ?_, ?_, ?_⟩
        · rw [opOfCause_e (fun zq => (by assumption : ¬ (0 ≤ w.toInt ∧ w.toInt ≤ 2)) zq.2.2)]; rfl
        · rfl
        · exact fun zq hzq zn0 => zl58 zq hzq zn0
        · exact zr59
        · rw [opOfCause_e (fun zq => (by assumption : ¬ (0 ≤ w.toInt ∧ w.toInt ≤ 2)) zq.2.2)]; exact zK56
    · skip
      have zK60 : h a = some (.inr (8, [.int (nI 2), .int (nI ck), .int (d (20 + 2 * ck + 1))])) := ha5
      refine z_astore_n (ls' := [(3, .ref a), (0, .ref o), (1, .int (nI ck)), (2, .int w)]) X dX11_ofCause_5 (by decide) rfl ?_
      refine z_aload_n X 0 dX11_ofCause_6 rfl ?_
      refine z_ifnull X dX11_ofCause_7 ?_
      refine z_iload_n X 3 dX11_ofCause_10 rfl ?_
      refine z_iconst (v := 0) X dX11_ofCause_11 (by decide) ?_
      refine z_iconst (v := 2) X dX11_ofCause_12 (by decide) ?_
      refine z_callS X (c_within (κ := κ) (n := n) (v := (w)) (lo := (0)) (hi := (2))  ) mk_X11_within dX11_ofCause_13 wd_259 wd_257 rfl rfl (Nat.le_of_ble_eq_true rfl) (Nat.le_of_ble_eq_true rfl) (Nat.le_of_ble_eq_true rfl) (by omega) (by omega) (fun q zh61 zm63 zp64 => ?_)
      obtain ⟨rfl, ze62, zn65⟩ := zp64
      subst zm63
      subst zh61
      refine z_st (st' := [.int (b2i ((0 : Int32).toInt ≤ (w : Int32).toInt ∧ (w : Int32).toInt ≤ (2 : Int32).toInt))]) rfl ?_
      refine z_toe (y := b2i (0 ≤ w.toInt ∧ w.toInt ≤ 2)) (by simp only [show (0 : Int32).toInt = 0 by decide, show (2 : Int32).toInt = 2 by decide]) ?_
      refine z_if_ne X 25 dX11_ofCause_16 (by decide) (fun zc66 => ?_) (fun zc66 => ?_)
      · replace zc66 := b2i_t zc66
        refine z_iload_n X 3 dX11_ofCause_25 rfl ?_
        refine z_if_ne X 34 dX11_ofCause_26 (by decide) (fun zc67 => ?_) (fun zc67 => ?_)
        · refine z_iload_n X 3 dX11_ofCause_34 rfl ?_
          refine z_iconst (v := 1) X dX11_ofCause_35 (by decide) ?_
          refine z_icmp_ne X 46 dX11_ofCause_36 (by decide) (fun zc68 => ?_) (fun zc68 => ?_)
          · refine z_aload_n X 1 dX11_ofCause_46 rfl ?_
            refine z_iload_n X 2 dX11_ofCause_47 rfl ?_
            refine z_callV X (c_onOf (κ := κ) (n := n) (o := (o)) (im := (im)) (len := (len)) (nc := (nc)) (cold := (cold)) (wind := (wind)) (c := (nI ck)) K0 K1 K2 ) mk_X11_onOf dX11_ofCause_48 wd_417 wd_419 wd_2 rfl K0 rfl rfl rfl (Nat.le_of_ble_eq_true rfl) (Nat.le_of_ble_eq_true rfl) (Nat.le_of_ble_eq_true rfl) (by omega) (by omega) (fun q zh69 zm71 zp72 => ?_)
            obtain ⟨rfl, ze70, zn73⟩ := zp72
            subst zm71
            subst zh69
            refine z_st (st' := [.int (d 10 >>> ((nI ck) &&& 31) &&& 1)]) rfl ?_
            refine z_iret X E dX11_ofCause_51 (by omega) (by omega) ⟨?_, ?_, ?_, ?_, ?_⟩
            · rw [opOfCause_c hck q5 (by assumption) (by assumption) (by assumption)]; rfl
            · rfl
            · exact fun zq hzq zn0 => rfl
            · exact Zr.refl
            · rw [opOfCause_c hck q5 (by assumption) (by assumption) (by assumption)]; exact K4
          · refine z_aload_n X 0 dX11_ofCause_39 rfl ?_
            refine z_get X fl_X11_140_8 dX11_ofCause_40 zK60 rfl ?_
            refine z_goto X 51 dX11_ofCause_43 (by decide) ?_
            refine z_iret X E dX11_ofCause_51 (by omega) (by omega) ⟨?_, ?_, ?_, ?_, ?_⟩
            · rw [opOfCause_b hck q5 (by assumption)]; rfl
            · rfl
            · exact fun zq hzq zn0 => rfl
            · exact Zr.refl
            · rw [opOfCause_b hck q5 (by assumption)]; exact K4
        · refine z_aload_n X 0 dX11_ofCause_29 rfl ?_
          refine z_get X fl_X11_135_8 dX11_ofCause_30 zK60 rfl ?_
          refine z_iret X E dX11_ofCause_33 (by omega) (by omega) ⟨?_, ?_, ?_, ?_, ?_⟩
          · rw [(opOfCause_a hck q5 (by assumption)).trans (congrArg (fun z => (0, z)) ha4)]; rfl
          · rfl
          · exact fun zq hzq zn0 => rfl
          · exact Zr.refl
          · rw [(opOfCause_a hck q5 (by assumption)).trans (congrArg (fun z => (0, z)) ha4)]; exact K4
      · replace zc66 := b2i_f zc66
        refine z_aload_n X 1 dX11_ofCause_19 rfl ?_
        refine z_iconst (v := 1) X dX11_ofCause_20 (by decide) ?_
        refine z_callV X (c_fail (κ := κ) (n := n) (o := (o)) (im := (im)) (fo := (fo)) (k := (1)) K0 K4 (by first | assumption | omega) (by first | assumption | omega)) mk_X11_fail dX11_ofCause_21 wd_260 wd_262 wd_0 rfl K0 rfl rfl rfl (Nat.le_of_ble_eq_true rfl) (Nat.le_of_ble_eq_true rfl) (Nat.le_of_ble_eq_true rfl) (by omega) (by omega) (fun q zh74 zm76 zp77 => ?_)
        obtain ⟨rfl, ze75, zn78⟩ := zp77
        subst zm76
        refine z_st (st' := [.int (lowE 1)]) rfl ?_
        have zK79 : zh74 o = some (.inr (11, [.ref (o + 1), .ref (o + 14), .ref (o + 27), .ref (o + 33), .ref (o + 42), .ref (o + 55), .ref (o + 57), .ref (o + 59), .ref (o + 61), .int im])) := by rw [ze75]; rw [va_up_ne _ _ (show o ≠ o + 61 by omega)]; exact K0
        have zK80 : zh74 (o + 1) = some (.inr (3, [.ref (o + 1 + 1), .ref (o + 1 + 7), .ref (o + 1 + 9), .ref (o + 1 + 11), .int (d 13)])) := by rw [ze75]; rw [va_up_ne _ _ (show o + 1 ≠ o + 61 by omega)]; exact K1
        have zK81 : zh74 (o + 2) = some (.inr (2, [.ref (o + 3), .ref (o + 4), .ref (o + 5), .ref (o + 6), .ref (o + 7), .int (nI len), .int (d 0), .int (d 2), .int (d 3), .int (nI nc), .int (d 10), .int cold, .int wind])) := by rw [ze75]; rw [va_up_ne _ _ (show o + 2 ≠ o + 61 by omega)]; exact K2
        have zK82 : zh74 (o + 6) = arR κ 1 6 cs := by rw [ze75]; rw [va_up_ne _ _ (show o + 6 ≠ o + 61 by omega)]; exact K3
        have zK83 : zh74 (o + 61) = arI κ 6 (bmp fo 1) := by rw [ze75]; exact va_up_self _ _ _
        have zK84 : zh74 a = some (.inr (8, [.int (nI 2), .int (nI ck), .int (d (20 + 2 * ck + 1))])) := by rw [ze75]; rw [va_up_ne _ _ (show a ≠ o + 61 by omega)]; exact zK60
        have zl85 : ∀ zq : Nat, zq < (o + 76) → zq ≠ (o + 61) → zh74 zq = h zq := by intro zq hzq zn0; rw [ze75, va_up_ne _ _ (show zq ≠ o + 61 by omega)]; try rfl
        have zr86 : Zr κ (o + 76) h zh74 := (Zr.refl).trans (Zr.same (fun zq h1 => by rw [ze75, va_up_ne _ _ (show zq ≠ o + 61 by omega)]))
        refine z_iret X E dX11_ofCause_24 (by omega) (by omega) ⟨?_, ?_, ?_, ?_, ?_⟩
        · rw [opOfCause_e (fun zq => (by assumption : ¬ (0 ≤ w.toInt ∧ w.toInt ≤ 2)) zq.2.2)]; rfl
        · rfl
        · exact fun zq hzq zn0 => zl85 zq hzq zn0
        · exact zr86
        · rw [opOfCause_e (fun zq => (by assumption : ¬ (0 ≤ w.toInt ∧ w.toInt ≤ 2)) zq.2.2)]; exact zK83
    · skip
      have zK87 : h a = some (.inr (5, [.int (nI 3), .int (nI ck), .int (d (20 + 2 * ck + 1))])) := ha5
      refine z_astore_n (ls' := [(3, .ref a), (0, .ref o), (1, .int (nI ck)), (2, .int w)]) X dX11_ofCause_5 (by decide) rfl ?_
      refine z_aload_n X 0 dX11_ofCause_6 rfl ?_
      refine z_ifnull X dX11_ofCause_7 ?_
      refine z_iload_n X 3 dX11_ofCause_10 rfl ?_
      refine z_iconst (v := 0) X dX11_ofCause_11 (by decide) ?_
      refine z_iconst (v := 2) X dX11_ofCause_12 (by decide) ?_
      refine z_callS X (c_within (κ := κ) (n := n) (v := (w)) (lo := (0)) (hi := (2))  ) mk_X11_within dX11_ofCause_13 wd_259 wd_257 rfl rfl (Nat.le_of_ble_eq_true rfl) (Nat.le_of_ble_eq_true rfl) (Nat.le_of_ble_eq_true rfl) (by omega) (by omega) (fun q zh88 zm90 zp91 => ?_)
      obtain ⟨rfl, ze89, zn92⟩ := zp91
      subst zm90
      subst zh88
      refine z_st (st' := [.int (b2i ((0 : Int32).toInt ≤ (w : Int32).toInt ∧ (w : Int32).toInt ≤ (2 : Int32).toInt))]) rfl ?_
      refine z_toe (y := b2i (0 ≤ w.toInt ∧ w.toInt ≤ 2)) (by simp only [show (0 : Int32).toInt = 0 by decide, show (2 : Int32).toInt = 2 by decide]) ?_
      refine z_if_ne X 25 dX11_ofCause_16 (by decide) (fun zc93 => ?_) (fun zc93 => ?_)
      · replace zc93 := b2i_t zc93
        refine z_iload_n X 3 dX11_ofCause_25 rfl ?_
        refine z_if_ne X 34 dX11_ofCause_26 (by decide) (fun zc94 => ?_) (fun zc94 => ?_)
        · refine z_iload_n X 3 dX11_ofCause_34 rfl ?_
          refine z_iconst (v := 1) X dX11_ofCause_35 (by decide) ?_
          refine z_icmp_ne X 46 dX11_ofCause_36 (by decide) (fun zc95 => ?_) (fun zc95 => ?_)
          · refine z_aload_n X 1 dX11_ofCause_46 rfl ?_
            refine z_iload_n X 2 dX11_ofCause_47 rfl ?_
            refine z_callV X (c_onOf (κ := κ) (n := n) (o := (o)) (im := (im)) (len := (len)) (nc := (nc)) (cold := (cold)) (wind := (wind)) (c := (nI ck)) K0 K1 K2 ) mk_X11_onOf dX11_ofCause_48 wd_417 wd_419 wd_2 rfl K0 rfl rfl rfl (Nat.le_of_ble_eq_true rfl) (Nat.le_of_ble_eq_true rfl) (Nat.le_of_ble_eq_true rfl) (by omega) (by omega) (fun q zh96 zm98 zp99 => ?_)
            obtain ⟨rfl, ze97, zn100⟩ := zp99
            subst zm98
            subst zh96
            refine z_st (st' := [.int (d 10 >>> ((nI ck) &&& 31) &&& 1)]) rfl ?_
            refine z_iret X E dX11_ofCause_51 (by omega) (by omega) ⟨?_, ?_, ?_, ?_, ?_⟩
            · rw [opOfCause_c hck q5 (by assumption) (by assumption) (by assumption)]; rfl
            · rfl
            · exact fun zq hzq zn0 => rfl
            · exact Zr.refl
            · rw [opOfCause_c hck q5 (by assumption) (by assumption) (by assumption)]; exact K4
          · refine z_aload_n X 0 dX11_ofCause_39 rfl ?_
            refine z_get X fl_X11_140_5 dX11_ofCause_40 zK87 rfl ?_
            refine z_goto X 51 dX11_ofCause_43 (by decide) ?_
            refine z_iret X E dX11_ofCause_51 (by omega) (by omega) ⟨?_, ?_, ?_, ?_, ?_⟩
            · rw [opOfCause_b hck q5 (by assumption)]; rfl
            · rfl
            · exact fun zq hzq zn0 => rfl
            · exact Zr.refl
            · rw [opOfCause_b hck q5 (by assumption)]; exact K4
        · refine z_aload_n X 0 dX11_ofCause_29 rfl ?_
          refine z_get X fl_X11_135_5 dX11_ofCause_30 zK87 rfl ?_
          refine z_iret X E dX11_ofCause_33 (by omega) (by omega) ⟨?_, ?_, ?_, ?_, ?_⟩
          · rw [(opOfCause_a hck q5 (by assumption)).trans (congrArg (fun z => (0, z)) ha4)]; rfl
          · rfl
          · exact fun zq hzq zn0 => rfl
          · exact Zr.refl
          · rw [(opOfCause_a hck q5 (by assumption)).trans (congrArg (fun z => (0, z)) ha4)]; exact K4
      · replace zc93 := b2i_f zc93
        refine z_aload_n X 1 dX11_ofCause_19 rfl ?_
        refine z_iconst (v := 1) X dX11_ofCause_20 (by decide) ?_
        refine z_callV X (c_fail (κ := κ) (n := n) (o := (o)) (im := (im)) (fo := (fo)) (k := (1)) K0 K4 (by first | assumption | omega) (by first | assumption | omega)) mk_X11_fail dX11_ofCause_21 wd_260 wd_262 wd_0 rfl K0 rfl rfl rfl (Nat.le_of_ble_eq_true rfl) (Nat.le_of_ble_eq_true rfl) (Nat.le_of_ble_eq_true rfl) (by omega) (by omega) (fun q zh101 zm103 zp104 => ?_)
        obtain ⟨rfl, ze102, zn105⟩ := zp104
        subst zm103
        refine z_st (st' := [.int (lowE 1)]) rfl ?_
        have zK106 : zh101 o = some (.inr (11, [.ref (o + 1), .ref (o + 14), .ref (o + 27), .ref (o + 33), .ref (o + 42), .ref (o + 55), .ref (o + 57), .ref (o + 59), .ref (o + 61), .int im])) := by rw [ze102]; rw [va_up_ne _ _ (show o ≠ o + 61 by omega)]; exact K0
        have zK107 : zh101 (o + 1) = some (.inr (3, [.ref (o + 1 + 1), .ref (o + 1 + 7), .ref (o + 1 + 9), .ref (o + 1 + 11), .int (d 13)])) := by rw [ze102]; rw [va_up_ne _ _ (show o + 1 ≠ o + 61 by omega)]; exact K1
        have zK108 : zh101 (o + 2) = some (.inr (2, [.ref (o + 3), .ref (o + 4), .ref (o + 5), .ref (o + 6), .ref (o + 7), .int (nI len), .int (d 0), .int (d 2), .int (d 3), .int (nI nc), .int (d 10), .int cold, .int wind])) := by rw [ze102]; rw [va_up_ne _ _ (show o + 2 ≠ o + 61 by omega)]; exact K2
        have zK109 : zh101 (o + 6) = arR κ 1 6 cs := by rw [ze102]; rw [va_up_ne _ _ (show o + 6 ≠ o + 61 by omega)]; exact K3
        have zK110 : zh101 (o + 61) = arI κ 6 (bmp fo 1) := by rw [ze102]; exact va_up_self _ _ _
        have zK111 : zh101 a = some (.inr (5, [.int (nI 3), .int (nI ck), .int (d (20 + 2 * ck + 1))])) := by rw [ze102]; rw [va_up_ne _ _ (show a ≠ o + 61 by omega)]; exact zK87
        have zl112 : ∀ zq : Nat, zq < (o + 76) → zq ≠ (o + 61) → zh101 zq = h zq := by intro zq hzq zn0; rw [ze102, va_up_ne _ _ (show zq ≠ o + 61 by omega)]; try rfl
        have zr113 : Zr κ (o + 76) h zh101 := (Zr.refl).trans (Zr.same (fun zq h1 => by rw [ze102, va_up_ne _ _ (show zq ≠ o + 61 by omega)]))
        refine z_iret X E dX11_ofCause_24 (by omega) (by omega) ⟨?_, ?_, ?_, ?_, ?_⟩
        · rw [opOfCause_e (fun zq => (by assumption : ¬ (0 ≤ w.toInt ∧ w.toInt ≤ 2)) zq.2.2)]; rfl
        · rfl
        · exact fun zq hzq zn0 => zl112 zq hzq zn0
        · exact zr113
        · rw [opOfCause_e (fun zq => (by assumption : ¬ (0 ≤ w.toInt ∧ w.toInt ≤ 2)) zq.2.2)]; exact zK110
    · skip
      have zK114 : h a = some (.inr (7, [.int (nI 4), .int (nI ck), .int (d (20 + 2 * ck + 1))])) := ha5
      refine z_astore_n (ls' := [(3, .ref a), (0, .ref o), (1, .int (nI ck)), (2, .int w)]) X dX11_ofCause_5 (by decide) rfl ?_
      refine z_aload_n X 0 dX11_ofCause_6 rfl ?_
      refine z_ifnull X dX11_ofCause_7 ?_
      refine z_iload_n X 3 dX11_ofCause_10 rfl ?_
      refine z_iconst (v := 0) X dX11_ofCause_11 (by decide) ?_
      refine z_iconst (v := 2) X dX11_ofCause_12 (by decide) ?_
      refine z_callS X (c_within (κ := κ) (n := n) (v := (w)) (lo := (0)) (hi := (2))  ) mk_X11_within dX11_ofCause_13 wd_259 wd_257 rfl rfl (Nat.le_of_ble_eq_true rfl) (Nat.le_of_ble_eq_true rfl) (Nat.le_of_ble_eq_true rfl) (by omega) (by omega) (fun q zh115 zm117 zp118 => ?_)
      obtain ⟨rfl, ze116, zn119⟩ := zp118
      subst zm117
      subst zh115
      refine z_st (st' := [.int (b2i ((0 : Int32).toInt ≤ (w : Int32).toInt ∧ (w : Int32).toInt ≤ (2 : Int32).toInt))]) rfl ?_
      refine z_toe (y := b2i (0 ≤ w.toInt ∧ w.toInt ≤ 2)) (by simp only [show (0 : Int32).toInt = 0 by decide, show (2 : Int32).toInt = 2 by decide]) ?_
      refine z_if_ne X 25 dX11_ofCause_16 (by decide) (fun zc120 => ?_) (fun zc120 => ?_)
      · replace zc120 := b2i_t zc120
        refine z_iload_n X 3 dX11_ofCause_25 rfl ?_
        refine z_if_ne X 34 dX11_ofCause_26 (by decide) (fun zc121 => ?_) (fun zc121 => ?_)
        · refine z_iload_n X 3 dX11_ofCause_34 rfl ?_
          refine z_iconst (v := 1) X dX11_ofCause_35 (by decide) ?_
          refine z_icmp_ne X 46 dX11_ofCause_36 (by decide) (fun zc122 => ?_) (fun zc122 => ?_)
          · refine z_aload_n X 1 dX11_ofCause_46 rfl ?_
            refine z_iload_n X 2 dX11_ofCause_47 rfl ?_
            refine z_callV X (c_onOf (κ := κ) (n := n) (o := (o)) (im := (im)) (len := (len)) (nc := (nc)) (cold := (cold)) (wind := (wind)) (c := (nI ck)) K0 K1 K2 ) mk_X11_onOf dX11_ofCause_48 wd_417 wd_419 wd_2 rfl K0 rfl rfl rfl (Nat.le_of_ble_eq_true rfl) (Nat.le_of_ble_eq_true rfl) (Nat.le_of_ble_eq_true rfl) (by omega) (by omega) (fun q zh123 zm125 zp126 => ?_)
            obtain ⟨rfl, ze124, zn127⟩ := zp126
            subst zm125
            subst zh123
            refine z_st (st' := [.int (d 10 >>> ((nI ck) &&& 31) &&& 1)]) rfl ?_
            refine z_iret X E dX11_ofCause_51 (by omega) (by omega) ⟨?_, ?_, ?_, ?_, ?_⟩
            · rw [opOfCause_c hck q5 (by assumption) (by assumption) (by assumption)]; rfl
            · rfl
            · exact fun zq hzq zn0 => rfl
            · exact Zr.refl
            · rw [opOfCause_c hck q5 (by assumption) (by assumption) (by assumption)]; exact K4
          · refine z_aload_n X 0 dX11_ofCause_39 rfl ?_
            refine z_get X fl_X11_140_7 dX11_ofCause_40 zK114 rfl ?_
            refine z_goto X 51 dX11_ofCause_43 (by decide) ?_
            refine z_iret X E dX11_ofCause_51 (by omega) (by omega) ⟨?_, ?_, ?_, ?_, ?_⟩
            · rw [opOfCause_b hck q5 (by assumption)]; rfl
            · rfl
            · exact fun zq hzq zn0 => rfl
            · exact Zr.refl
            · rw [opOfCause_b hck q5 (by assumption)]; exact K4
        · refine z_aload_n X 0 dX11_ofCause_29 rfl ?_
          refine z_get X fl_X11_135_7 dX11_ofCause_30 zK114 rfl ?_
          refine z_iret X E dX11_ofCause_33 (by omega) (by omega) ⟨?_, ?_, ?_, ?_, ?_⟩
          · rw [(opOfCause_a hck q5 (by assumption)).trans (congrArg (fun z => (0, z)) ha4)]; rfl
          · rfl
          · exact fun zq hzq zn0 => rfl
          · exact Zr.refl
          · rw [(opOfCause_a hck q5 (by assumption)).trans (congrArg (fun z => (0, z)) ha4)]; exact K4
      · replace zc120 := b2i_f zc120
        refine z_aload_n X 1 dX11_ofCause_19 rfl ?_
        refine z_iconst (v := 1) X dX11_ofCause_20 (by decide) ?_
        refine z_callV X (c_fail (κ := κ) (n := n) (o := (o)) (im := (im)) (fo := (fo)) (k := (1)) K0 K4 (by first | assumption | omega) (by first | assumption | omega)) mk_X11_fail dX11_ofCause_21 wd_260 wd_262 wd_0 rfl K0 rfl rfl rfl (Nat.le_of_ble_eq_true rfl) (Nat.le_of_ble_eq_true rfl) (Nat.le_of_ble_eq_true rfl) (by omega) (by omega) (fun q zh128 zm130 zp131 => ?_)
        obtain ⟨rfl, ze129, zn132⟩ := zp131
        subst zm130
        refine z_st (st' := [.int (lowE 1)]) rfl ?_
        have zK133 : zh128 o = some (.inr (11, [.ref (o + 1), .ref (o + 14), .ref (o + 27), .ref (o + 33), .ref (o + 42), .ref (o + 55), .ref (o + 57), .ref (o + 59), .ref (o + 61), .int im])) := by rw [ze129]; rw [va_up_ne _ _ (show o ≠ o + 61 by omega)]; exact K0
        have zK134 : zh128 (o + 1) = some (.inr (3, [.ref (o + 1 + 1), .ref (o + 1 + 7), .ref (o + 1 + 9), .ref (o + 1 + 11), .int (d 13)])) := by rw [ze129]; rw [va_up_ne _ _ (show o + 1 ≠ o + 61 by omega)]; exact K1
        have zK135 : zh128 (o + 2) = some (.inr (2, [.ref (o + 3), .ref (o + 4), .ref (o + 5), .ref (o + 6), .ref (o + 7), .int (nI len), .int (d 0), .int (d 2), .int (d 3), .int (nI nc), .int (d 10), .int cold, .int wind])) := by rw [ze129]; rw [va_up_ne _ _ (show o + 2 ≠ o + 61 by omega)]; exact K2
        have zK136 : zh128 (o + 6) = arR κ 1 6 cs := by rw [ze129]; rw [va_up_ne _ _ (show o + 6 ≠ o + 61 by omega)]; exact K3
        have zK137 : zh128 (o + 61) = arI κ 6 (bmp fo 1) := by rw [ze129]; exact va_up_self _ _ _
        have zK138 : zh128 a = some (.inr (7, [.int (nI 4), .int (nI ck), .int (d (20 + 2 * ck + 1))])) := by rw [ze129]; rw [va_up_ne _ _ (show a ≠ o + 61 by omega)]; exact zK114
        have zl139 : ∀ zq : Nat, zq < (o + 76) → zq ≠ (o + 61) → zh128 zq = h zq := by intro zq hzq zn0; rw [ze129, va_up_ne _ _ (show zq ≠ o + 61 by omega)]; try rfl
        have zr140 : Zr κ (o + 76) h zh128 := (Zr.refl).trans (Zr.same (fun zq h1 => by rw [ze129, va_up_ne _ _ (show zq ≠ o + 61 by omega)]))
        refine z_iret X E dX11_ofCause_24 (by omega) (by omega) ⟨?_, ?_, ?_, ?_, ?_⟩
        · rw [opOfCause_e (fun zq => (by assumption : ¬ (0 ≤ w.toInt ∧ w.toInt ≤ 2)) zq.2.2)]; rfl
        · rfl
        · exact fun zq hzq zn0 => zl139 zq hzq zn0
        · exact zr140
        · rw [opOfCause_e (fun zq => (by assumption : ¬ (0 ≤ w.toInt ∧ w.toInt ≤ 2)) zq.2.2)]; exact zK137
    · skip
      have zK141 : h a = some (.inr (4, [.int (nI 5), .int (nI ck), .int (d (20 + 2 * ck + 1))])) := ha5
      refine z_astore_n (ls' := [(3, .ref a), (0, .ref o), (1, .int (nI ck)), (2, .int w)]) X dX11_ofCause_5 (by decide) rfl ?_
      refine z_aload_n X 0 dX11_ofCause_6 rfl ?_
      refine z_ifnull X dX11_ofCause_7 ?_
      refine z_iload_n X 3 dX11_ofCause_10 rfl ?_
      refine z_iconst (v := 0) X dX11_ofCause_11 (by decide) ?_
      refine z_iconst (v := 2) X dX11_ofCause_12 (by decide) ?_
      refine z_callS X (c_within (κ := κ) (n := n) (v := (w)) (lo := (0)) (hi := (2))  ) mk_X11_within dX11_ofCause_13 wd_259 wd_257 rfl rfl (Nat.le_of_ble_eq_true rfl) (Nat.le_of_ble_eq_true rfl) (Nat.le_of_ble_eq_true rfl) (by omega) (by omega) (fun q zh142 zm144 zp145 => ?_)
      obtain ⟨rfl, ze143, zn146⟩ := zp145
      subst zm144
      subst zh142
      refine z_st (st' := [.int (b2i ((0 : Int32).toInt ≤ (w : Int32).toInt ∧ (w : Int32).toInt ≤ (2 : Int32).toInt))]) rfl ?_
      refine z_toe (y := b2i (0 ≤ w.toInt ∧ w.toInt ≤ 2)) (by simp only [show (0 : Int32).toInt = 0 by decide, show (2 : Int32).toInt = 2 by decide]) ?_
      refine z_if_ne X 25 dX11_ofCause_16 (by decide) (fun zc147 => ?_) (fun zc147 => ?_)
      · replace zc147 := b2i_t zc147
        refine z_iload_n X 3 dX11_ofCause_25 rfl ?_
        refine z_if_ne X 34 dX11_ofCause_26 (by decide) (fun zc148 => ?_) (fun zc148 => ?_)
        · refine z_iload_n X 3 dX11_ofCause_34 rfl ?_
          refine z_iconst (v := 1) X dX11_ofCause_35 (by decide) ?_
          refine z_icmp_ne X 46 dX11_ofCause_36 (by decide) (fun zc149 => ?_) (fun zc149 => ?_)
          · refine z_aload_n X 1 dX11_ofCause_46 rfl ?_
            refine z_iload_n X 2 dX11_ofCause_47 rfl ?_
            refine z_callV X (c_onOf (κ := κ) (n := n) (o := (o)) (im := (im)) (len := (len)) (nc := (nc)) (cold := (cold)) (wind := (wind)) (c := (nI ck)) K0 K1 K2 ) mk_X11_onOf dX11_ofCause_48 wd_417 wd_419 wd_2 rfl K0 rfl rfl rfl (Nat.le_of_ble_eq_true rfl) (Nat.le_of_ble_eq_true rfl) (Nat.le_of_ble_eq_true rfl) (by omega) (by omega) (fun q zh150 zm152 zp153 => ?_)
            obtain ⟨rfl, ze151, zn154⟩ := zp153
            subst zm152
            subst zh150
            refine z_st (st' := [.int (d 10 >>> ((nI ck) &&& 31) &&& 1)]) rfl ?_
            refine z_iret X E dX11_ofCause_51 (by omega) (by omega) ⟨?_, ?_, ?_, ?_, ?_⟩
            · rw [opOfCause_c hck q5 (by assumption) (by assumption) (by assumption)]; rfl
            · rfl
            · exact fun zq hzq zn0 => rfl
            · exact Zr.refl
            · rw [opOfCause_c hck q5 (by assumption) (by assumption) (by assumption)]; exact K4
          · refine z_aload_n X 0 dX11_ofCause_39 rfl ?_
            refine z_get X fl_X11_140_4 dX11_ofCause_40 zK141 rfl ?_
            refine z_goto X 51 dX11_ofCause_43 (by decide) ?_
            refine z_iret X E dX11_ofCause_51 (by omega) (by omega) ⟨?_, ?_, ?_, ?_, ?_⟩
            · rw [opOfCause_b hck q5 (by assumption)]; rfl
            · rfl
            · exact fun zq hzq zn0 => rfl
            · exact Zr.refl
            · rw [opOfCause_b hck q5 (by assumption)]; exact K4
        · refine z_aload_n X 0 dX11_ofCause_29 rfl ?_
          refine z_get X fl_X11_135_4 dX11_ofCause_30 zK141 rfl ?_
          refine z_iret X E dX11_ofCause_33 (by omega) (by omega) ⟨?_, ?_, ?_, ?_, ?_⟩
          · rw [(opOfCause_a hck q5 (by assumption)).trans (congrArg (fun z => (0, z)) ha4)]; rfl
          · rfl
          · exact fun zq hzq zn0 => rfl
          · exact Zr.refl
          · rw [(opOfCause_a hck q5 (by assumption)).trans (congrArg (fun z => (0, z)) ha4)]; exact K4
      · replace zc147 := b2i_f zc147
        refine z_aload_n X 1 dX11_ofCause_19 rfl ?_
        refine z_iconst (v := 1) X dX11_ofCause_20 (by decide) ?_
        refine z_callV X (c_fail (κ := κ) (n := n) (o := (o)) (im := (im)) (fo := (fo)) (k := (1)) K0 K4 (by first | assumption | omega) (by first | assumption | omega)) mk_X11_fail dX11_ofCause_21 wd_260 wd_262 wd_0 rfl K0 rfl rfl rfl (Nat.le_of_ble_eq_true rfl) (Nat.le_of_ble_eq_true rfl) (Nat.le_of_ble_eq_true rfl) (by omega) (by omega) (fun q zh155 zm157 zp158 => ?_)
        obtain ⟨rfl, ze156, zn159⟩ := zp158
        subst zm157
        refine z_st (st' := [.int (lowE 1)]) rfl ?_
        have zK160 : zh155 o = some (.inr (11, [.ref (o + 1), .ref (o + 14), .ref (o + 27), .ref (o + 33), .ref (o + 42), .ref (o + 55), .ref (o + 57), .ref (o + 59), .ref (o + 61), .int im])) := by rw [ze156]; rw [va_up_ne _ _ (show o ≠ o + 61 by omega)]; exact K0
        have zK161 : zh155 (o + 1) = some (.inr (3, [.ref (o + 1 + 1), .ref (o + 1 + 7), .ref (o + 1 + 9), .ref (o + 1 + 11), .int (d 13)])) := by rw [ze156]; rw [va_up_ne _ _ (show o + 1 ≠ o + 61 by omega)]; exact K1
        have zK162 : zh155 (o + 2) = some (.inr (2, [.ref (o + 3), .ref (o + 4), .ref (o + 5), .ref (o + 6), .ref (o + 7), .int (nI len), .int (d 0), .int (d 2), .int (d 3), .int (nI nc), .int (d 10), .int cold, .int wind])) := by rw [ze156]; rw [va_up_ne _ _ (show o + 2 ≠ o + 61 by omega)]; exact K2
        have zK163 : zh155 (o + 6) = arR κ 1 6 cs := by rw [ze156]; rw [va_up_ne _ _ (show o + 6 ≠ o + 61 by omega)]; exact K3
        have zK164 : zh155 (o + 61) = arI κ 6 (bmp fo 1) := by rw [ze156]; exact va_up_self _ _ _
        have zK165 : zh155 a = some (.inr (4, [.int (nI 5), .int (nI ck), .int (d (20 + 2 * ck + 1))])) := by rw [ze156]; rw [va_up_ne _ _ (show a ≠ o + 61 by omega)]; exact zK141
        have zl166 : ∀ zq : Nat, zq < (o + 76) → zq ≠ (o + 61) → zh155 zq = h zq := by intro zq hzq zn0; rw [ze156, va_up_ne _ _ (show zq ≠ o + 61 by omega)]; try rfl
        have zr167 : Zr κ (o + 76) h zh155 := (Zr.refl).trans (Zr.same (fun zq h1 => by rw [ze156, va_up_ne _ _ (show zq ≠ o + 61 by omega)]))
        refine z_iret X E dX11_ofCause_24 (by omega) (by omega) ⟨?_, ?_, ?_, ?_, ?_⟩
        · rw [opOfCause_e (fun zq => (by assumption : ¬ (0 ≤ w.toInt ∧ w.toInt ≤ 2)) zq.2.2)]; rfl
        · rfl
        · exact fun zq hzq zn0 => zl166 zq hzq zn0
        · exact zr167
        · rw [opOfCause_e (fun zq => (by assumption : ¬ (0 ≤ w.toInt ∧ w.toInt ≤ 2)) zq.2.2)]; exact zK164
    · skip
      have zK168 : h a = some (.inr (1, [.int (nI 6), .int (nI ck), .int (d (20 + 2 * ck + 1))])) := ha5
      refine z_astore_n (ls' := [(3, .ref a), (0, .ref o), (1, .int (nI ck)), (2, .int w)]) X dX11_ofCause_5 (by decide) rfl ?_
      refine z_aload_n X 0 dX11_ofCause_6 rfl ?_
      refine z_ifnull X dX11_ofCause_7 ?_
      refine z_iload_n X 3 dX11_ofCause_10 rfl ?_
      refine z_iconst (v := 0) X dX11_ofCause_11 (by decide) ?_
      refine z_iconst (v := 2) X dX11_ofCause_12 (by decide) ?_
      refine z_callS X (c_within (κ := κ) (n := n) (v := (w)) (lo := (0)) (hi := (2))  ) mk_X11_within dX11_ofCause_13 wd_259 wd_257 rfl rfl (Nat.le_of_ble_eq_true rfl) (Nat.le_of_ble_eq_true rfl) (Nat.le_of_ble_eq_true rfl) (by omega) (by omega) (fun q zh169 zm171 zp172 => ?_)
      obtain ⟨rfl, ze170, zn173⟩ := zp172
      subst zm171
      subst zh169
      refine z_st (st' := [.int (b2i ((0 : Int32).toInt ≤ (w : Int32).toInt ∧ (w : Int32).toInt ≤ (2 : Int32).toInt))]) rfl ?_
      refine z_toe (y := b2i (0 ≤ w.toInt ∧ w.toInt ≤ 2)) (by simp only [show (0 : Int32).toInt = 0 by decide, show (2 : Int32).toInt = 2 by decide]) ?_
      refine z_if_ne X 25 dX11_ofCause_16 (by decide) (fun zc174 => ?_) (fun zc174 => ?_)
      · replace zc174 := b2i_t zc174
        refine z_iload_n X 3 dX11_ofCause_25 rfl ?_
        refine z_if_ne X 34 dX11_ofCause_26 (by decide) (fun zc175 => ?_) (fun zc175 => ?_)
        · refine z_iload_n X 3 dX11_ofCause_34 rfl ?_
          refine z_iconst (v := 1) X dX11_ofCause_35 (by decide) ?_
          refine z_icmp_ne X 46 dX11_ofCause_36 (by decide) (fun zc176 => ?_) (fun zc176 => ?_)
          · refine z_aload_n X 1 dX11_ofCause_46 rfl ?_
            refine z_iload_n X 2 dX11_ofCause_47 rfl ?_
            refine z_callV X (c_onOf (κ := κ) (n := n) (o := (o)) (im := (im)) (len := (len)) (nc := (nc)) (cold := (cold)) (wind := (wind)) (c := (nI ck)) K0 K1 K2 ) mk_X11_onOf dX11_ofCause_48 wd_417 wd_419 wd_2 rfl K0 rfl rfl rfl (Nat.le_of_ble_eq_true rfl) (Nat.le_of_ble_eq_true rfl) (Nat.le_of_ble_eq_true rfl) (by omega) (by omega) (fun q zh177 zm179 zp180 => ?_)
            obtain ⟨rfl, ze178, zn181⟩ := zp180
            subst zm179
            subst zh177
            refine z_st (st' := [.int (d 10 >>> ((nI ck) &&& 31) &&& 1)]) rfl ?_
            refine z_iret X E dX11_ofCause_51 (by omega) (by omega) ⟨?_, ?_, ?_, ?_, ?_⟩
            · rw [opOfCause_c hck q5 (by assumption) (by assumption) (by assumption)]; rfl
            · rfl
            · exact fun zq hzq zn0 => rfl
            · exact Zr.refl
            · rw [opOfCause_c hck q5 (by assumption) (by assumption) (by assumption)]; exact K4
          · refine z_aload_n X 0 dX11_ofCause_39 rfl ?_
            refine z_get X fl_X11_140_1 dX11_ofCause_40 zK168 rfl ?_
            refine z_goto X 51 dX11_ofCause_43 (by decide) ?_
            refine z_iret X E dX11_ofCause_51 (by omega) (by omega) ⟨?_, ?_, ?_, ?_, ?_⟩
            · rw [opOfCause_b hck q5 (by assumption)]; rfl
            · rfl
            · exact fun zq hzq zn0 => rfl
            · exact Zr.refl
            · rw [opOfCause_b hck q5 (by assumption)]; exact K4
        · refine z_aload_n X 0 dX11_ofCause_29 rfl ?_
          refine z_get X fl_X11_135_1 dX11_ofCause_30 zK168 rfl ?_
          refine z_iret X E dX11_ofCause_33 (by omega) (by omega) ⟨?_, ?_, ?_, ?_, ?_⟩
          · rw [(opOfCause_a hck q5 (by assumption)).trans (congrArg (fun z => (0, z)) ha4)]; rfl
          · rfl
          · exact fun zq hzq zn0 => rfl
          · exact Zr.refl
          · rw [(opOfCause_a hck q5 (by assumption)).trans (congrArg (fun z => (0, z)) ha4)]; exact K4
      · replace zc174 := b2i_f zc174
        refine z_aload_n X 1 dX11_ofCause_19 rfl ?_
        refine z_iconst (v := 1) X dX11_ofCause_20 (by decide) ?_
        refine z_callV X (c_fail (κ := κ) (n := n) (o := (o)) (im := (im)) (fo := (fo)) (k := (1)) K0 K4 (by first | assumption | omega) (by first | assumption | omega)) mk_X11_fail dX11_ofCause_21 wd_260 wd_262 wd_0 rfl K0 rfl rfl rfl (Nat.le_of_ble_eq_true rfl) (Nat.le_of_ble_eq_true rfl) (Nat.le_of_ble_eq_true rfl) (by omega) (by omega) (fun q zh182 zm184 zp185 => ?_)
        obtain ⟨rfl, ze183, zn186⟩ := zp185
        subst zm184
        refine z_st (st' := [.int (lowE 1)]) rfl ?_
        have zK187 : zh182 o = some (.inr (11, [.ref (o + 1), .ref (o + 14), .ref (o + 27), .ref (o + 33), .ref (o + 42), .ref (o + 55), .ref (o + 57), .ref (o + 59), .ref (o + 61), .int im])) := by rw [ze183]; rw [va_up_ne _ _ (show o ≠ o + 61 by omega)]; exact K0
        have zK188 : zh182 (o + 1) = some (.inr (3, [.ref (o + 1 + 1), .ref (o + 1 + 7), .ref (o + 1 + 9), .ref (o + 1 + 11), .int (d 13)])) := by rw [ze183]; rw [va_up_ne _ _ (show o + 1 ≠ o + 61 by omega)]; exact K1
        have zK189 : zh182 (o + 2) = some (.inr (2, [.ref (o + 3), .ref (o + 4), .ref (o + 5), .ref (o + 6), .ref (o + 7), .int (nI len), .int (d 0), .int (d 2), .int (d 3), .int (nI nc), .int (d 10), .int cold, .int wind])) := by rw [ze183]; rw [va_up_ne _ _ (show o + 2 ≠ o + 61 by omega)]; exact K2
        have zK190 : zh182 (o + 6) = arR κ 1 6 cs := by rw [ze183]; rw [va_up_ne _ _ (show o + 6 ≠ o + 61 by omega)]; exact K3
        have zK191 : zh182 (o + 61) = arI κ 6 (bmp fo 1) := by rw [ze183]; exact va_up_self _ _ _
        have zK192 : zh182 a = some (.inr (1, [.int (nI 6), .int (nI ck), .int (d (20 + 2 * ck + 1))])) := by rw [ze183]; rw [va_up_ne _ _ (show a ≠ o + 61 by omega)]; exact zK168
        have zl193 : ∀ zq : Nat, zq < (o + 76) → zq ≠ (o + 61) → zh182 zq = h zq := by intro zq hzq zn0; rw [ze183, va_up_ne _ _ (show zq ≠ o + 61 by omega)]; try rfl
        have zr194 : Zr κ (o + 76) h zh182 := (Zr.refl).trans (Zr.same (fun zq h1 => by rw [ze183, va_up_ne _ _ (show zq ≠ o + 61 by omega)]))
        refine z_iret X E dX11_ofCause_24 (by omega) (by omega) ⟨?_, ?_, ?_, ?_, ?_⟩
        · rw [opOfCause_e (fun zq => (by assumption : ¬ (0 ≤ w.toInt ∧ w.toInt ≤ 2)) zq.2.2)]; rfl
        · rfl
        · exact fun zq hzq zn0 => zl193 zq hzq zn0
        · exact zr194
        · rw [opOfCause_e (fun zq => (by assumption : ¬ (0 ≤ w.toInt ∧ w.toInt ≤ 2)) zq.2.2)]; exact zK191
  · skip
    refine z_callV X (c_causeAt_n (κ := κ) (n := n) (o := (o)) (im := (im)) (len := (len)) (nc := (nc)) (cold := (cold)) (wind := (wind)) (cs := (cs)) (c := (c)) K0 K1 K2 K3 (by first | assumption | omega) (hin)) mk_X11_causeAt dX11_ofCause_2 wd_413 wd_415 wd_1 rfl K0 rfl rfl rfl (Nat.le_of_ble_eq_true rfl) (Nat.le_of_ble_eq_true rfl) (Nat.le_of_ble_eq_true rfl) (by omega) (by omega) (fun q zh195 zm197 zp198 => ?_)
    obtain ⟨rfl, ze196, zn199⟩ := zp198
    subst zm197
    subst zh195
    refine z_st (st' := [.null]) rfl ?_
    · skip
      refine z_astore_nN (ls' := [(3, .null), (0, .ref o), (1, .int c), (2, .int w)]) X dX11_ofCause_5 (by decide) rfl ?_
      refine z_aload_nN X 0 dX11_ofCause_6 rfl ?_
      refine z_ifnullN X 19 dX11_ofCause_7 (by decide) ?_
      refine z_aload_n X 1 dX11_ofCause_19 rfl ?_
      refine z_iconst (v := 1) X dX11_ofCause_20 (by decide) ?_
      refine z_callV X (c_fail (κ := κ) (n := n) (o := (o)) (im := (im)) (fo := (fo)) (k := (1)) K0 K4 (by first | assumption | omega) (by first | assumption | omega)) mk_X11_fail dX11_ofCause_21 wd_260 wd_262 wd_0 rfl K0 rfl rfl rfl (Nat.le_of_ble_eq_true rfl) (Nat.le_of_ble_eq_true rfl) (Nat.le_of_ble_eq_true rfl) (by omega) (by omega) (fun q zh200 zm202 zp203 => ?_)
      obtain ⟨rfl, ze201, zn204⟩ := zp203
      subst zm202
      refine z_st (st' := [.int (lowE 1)]) rfl ?_
      have zK205 : zh200 o = some (.inr (11, [.ref (o + 1), .ref (o + 14), .ref (o + 27), .ref (o + 33), .ref (o + 42), .ref (o + 55), .ref (o + 57), .ref (o + 59), .ref (o + 61), .int im])) := by rw [ze201]; rw [va_up_ne _ _ (show o ≠ o + 61 by omega)]; exact K0
      have zK206 : zh200 (o + 1) = some (.inr (3, [.ref (o + 1 + 1), .ref (o + 1 + 7), .ref (o + 1 + 9), .ref (o + 1 + 11), .int (d 13)])) := by rw [ze201]; rw [va_up_ne _ _ (show o + 1 ≠ o + 61 by omega)]; exact K1
      have zK207 : zh200 (o + 2) = some (.inr (2, [.ref (o + 3), .ref (o + 4), .ref (o + 5), .ref (o + 6), .ref (o + 7), .int (nI len), .int (d 0), .int (d 2), .int (d 3), .int (nI nc), .int (d 10), .int cold, .int wind])) := by rw [ze201]; rw [va_up_ne _ _ (show o + 2 ≠ o + 61 by omega)]; exact K2
      have zK208 : zh200 (o + 6) = arR κ 1 6 cs := by rw [ze201]; rw [va_up_ne _ _ (show o + 6 ≠ o + 61 by omega)]; exact K3
      have zK209 : zh200 (o + 61) = arI κ 6 (bmp fo 1) := by rw [ze201]; exact va_up_self _ _ _
      have zl210 : ∀ zq : Nat, zq < (o + 76) → zq ≠ (o + 61) → zh200 zq = h zq := by intro zq hzq zn0; rw [ze201, va_up_ne _ _ (show zq ≠ o + 61 by omega)]; try rfl
      have zr211 : Zr κ (o + 76) h zh200 := (Zr.refl).trans (Zr.same (fun zq h1 => by rw [ze201, va_up_ne _ _ (show zq ≠ o + 61 by omega)]))
      refine z_iret X E dX11_ofCause_24 (by omega) (by omega) ⟨?_, ?_, ?_, ?_, ?_⟩
      · rw [opOfCause_e (fun zq => hin ⟨zq.1, zq.2.1⟩)]; rfl
      · rfl
      · exact fun zq hzq zn0 => zl210 zq hzq zn0
      · exact zr211
      · rw [opOfCause_e (fun zq => hin ⟨zq.1, zq.2.1⟩)]; exact zK209
set_option maxHeartbeats 4000000 in
set_option maxRecDepth 100000 in
theorem p_turn {κ : Wc} {l : Launch} {h : Mm} {n : Nat} {o : Nat} {im : Int32} {d : Nat → Int32} {len : Nat} {nc : Nat} {cold : Int32} {wind : Int32} {cs : Nat → Option Nat} {fo : Nat → Int32} {c : Int32} {w : Int32} (K0 : h o = some (.inr (11, [.ref (o + 1), .ref (o + 14), .ref (o + 27), .ref (o + 33), .ref (o + 42), .ref (o + 55), .ref (o + 57), .ref (o + 59), .ref (o + 61), .int im]))) (K1 : h (o + 1) = some (.inr (3, [.ref (o + 1 + 1), .ref (o + 1 + 7), .ref (o + 1 + 9), .ref (o + 1 + 11), .int (d 13)]))) (K2 : h (o + 2) = some (.inr (2, [.ref (o + 3), .ref (o + 4), .ref (o + 5), .ref (o + 6), .ref (o + 7), .int (nI len), .int (d 0), .int (d 2), .int (d 3), .int (nI nc), .int (d 10), .int cold, .int wind]))) (K3 : h (o + 6) = arR κ 1 6 cs) (K4 : h (o + 61) = arI κ 6 fo) (q4 : d 11 = nI nc) (q5 : nc ≤ 6) (hCs : CsO (o + 76) h cs d nc) : Con κ l yX11_turn cX11_turn 5 (some .int) 4 0 0 [.ref o, .int c, .int w] h n (fun q h' n' => q = some (.int (ansOf (opTurn d nc c w))) ∧ n' = n ∧ (∀ zq : Nat, zq < (o + 76) → zq ≠ (o + 2) → zq ≠ (o + 61) → h' zq = h zq) ∧ Zr κ (o + 76) h h' ∧ h' (o + 2) = some (.inr (2, [.ref (o + 3), .ref (o + 4), .ref (o + 5), .ref (o + 6), .ref (o + 7), .int (nI len), .int (d 0), .int (d 2), .int (d 3), .int (nI nc), .int ((dTurn d nc c w) 10), .int cold, .int wind])) ∧ h' (o + 61) = arI κ 6 (bump (opTurn d nc c w) fo)) := by
  refine Con.of mk_X11_turn (Nat.le_of_ble_eq_true rfl) (fun G hG X E => ?_)
  subst hG
  refine z_ls (ls' := [(0, .ref o), (1, .int c), (2, .int w)]) rfl ?_
  refine z_aload_n X 0 dX11_turn_0 rfl ?_
  refine z_iload_n X 1 dX11_turn_1 rfl ?_
  by_cases hin : 0 ≤ c.toInt ∧ c.toInt ≤ ((nc : Nat) : Int) - 1
  · skip
    obtain ⟨ck, hck, rfl⟩ := ix_of (c := c) (len := nc) (by omega) (by omega)
    obtain ⟨a, kd, ha1, ha2, ha3, ha4, ha5⟩ := hCs ck (by omega)
    refine z_callV X (c_causeAt_s (κ := κ) (n := n) (o := (o)) (im := (im)) (len := (len)) (nc := (nc)) (cold := (cold)) (wind := (wind)) (cs := (cs)) (ck := (ck)) (a := (a)) K0 K1 K2 K3 (by first | assumption | omega) (by first | assumption | omega) (ha2)) mk_X11_causeAt dX11_turn_2 wd_413 wd_415 wd_1 rfl K0 rfl rfl rfl (Nat.le_of_ble_eq_true rfl) (Nat.le_of_ble_eq_true rfl) (Nat.le_of_ble_eq_true rfl) (by omega) (by omega) (fun q zh1 zm3 zp4 => ?_)
    obtain ⟨rfl, ze2, zn5⟩ := zp4
    subst zm3
    subst zh1
    refine z_st (st' := [.ref a]) rfl ?_
    refine z_ifnull X dX11_turn_5 ?_
    refine z_iload_n X 2 dX11_turn_8 rfl ?_
    refine z_iconst (v := 0) X dX11_turn_9 (by decide) ?_
    refine z_iconst (v := 1) X dX11_turn_10 (by decide) ?_
    refine z_callS X (c_within (κ := κ) (n := n) (v := (w)) (lo := (0)) (hi := (1))  ) mk_X11_within dX11_turn_11 wd_259 wd_257 rfl rfl (Nat.le_of_ble_eq_true rfl) (Nat.le_of_ble_eq_true rfl) (Nat.le_of_ble_eq_true rfl) (by omega) (by omega) (fun q zh6 zm8 zp9 => ?_)
    obtain ⟨rfl, ze7, zn10⟩ := zp9
    subst zm8
    subst zh6
    refine z_st (st' := [.int (b2i ((0 : Int32).toInt ≤ (w : Int32).toInt ∧ (w : Int32).toInt ≤ (1 : Int32).toInt))]) rfl ?_
    refine z_toe (y := b2i (0 ≤ w.toInt ∧ w.toInt ≤ 1)) (by simp only [show (0 : Int32).toInt = 0 by decide, show (1 : Int32).toInt = 1 by decide]) ?_
    refine z_if_ne X 23 dX11_turn_14 (by decide) (fun zc11 => ?_) (fun zc11 => ?_)
    · replace zc11 := b2i_t zc11
      refine z_aload_n X 0 dX11_turn_23 rfl ?_
      refine z_iload_n X 1 dX11_turn_24 rfl ?_
      refine z_callV X (c_onOf (κ := κ) (n := n) (o := (o)) (im := (im)) (len := (len)) (nc := (nc)) (cold := (cold)) (wind := (wind)) (c := (nI ck)) K0 K1 K2 ) mk_X11_onOf dX11_turn_25 wd_417 wd_419 wd_2 rfl K0 rfl rfl rfl (Nat.le_of_ble_eq_true rfl) (Nat.le_of_ble_eq_true rfl) (Nat.le_of_ble_eq_true rfl) (by omega) (by omega) (fun q zh12 zm14 zp15 => ?_)
      obtain ⟨rfl, ze13, zn16⟩ := zp15
      subst zm14
      subst zh12
      refine z_st (st' := [.int (d 10 >>> ((nI ck) &&& 31) &&& 1)]) rfl ?_
      refine z_istore_n (ls' := [(3, .int (d 10 >>> ((nI ck) &&& 31) &&& 1)), (0, .ref o), (1, .int (nI ck)), (2, .int w)]) X dX11_turn_28 (by decide) rfl ?_
      refine z_aload_n X 1 dX11_turn_29 rfl ?_
      refine z_get X fl_X11_10_11 dX11_turn_30 K0 rfl ?_
      refine z_get X fl_X11_56_3 dX11_turn_33 K1 rfl ?_
      refine z_astore (ls' := [(4, .ref (o + 1 + 1)), (3, .int (d 10 >>> ((nI ck) &&& 31) &&& 1)), (0, .ref o), (1, .int (nI ck)), (2, .int w)]) X dX11_turn_36 (by decide) rfl ?_
      refine z_aload X 0 dX11_turn_38 rfl ?_
      refine z_aload X 0 dX11_turn_40 rfl ?_
      refine z_get X fl_X11_128_2 dX11_turn_42 K2 rfl ?_
      refine z_iconst (v := 1) X dX11_turn_45 (by decide) ?_
      refine z_iload_n X 3 dX11_turn_46 rfl ?_
      refine z_ishl X dX11_turn_47 ?_
      refine z_iconst (v := -1) X dX11_turn_48 (by decide) ?_
      refine z_ixor X dX11_turn_49 ?_
      refine z_iand X dX11_turn_50 ?_
      refine z_iload_n X 4 dX11_turn_51 rfl ?_
      refine z_iload_n X 3 dX11_turn_52 rfl ?_
      refine z_ishl X dX11_turn_53 ?_
      refine z_ior X dX11_turn_54 ?_
      refine z_put X fp_X11_128_2 dX11_turn_55 K2 (by first | rfl | decide) (by first | rfl | decide) (Nat.le_of_ble_eq_true rfl) rfl ?_
      obtain ⟨zh17, ze18⟩ : ∃ z : Mm, z = va_up h (o + 1 + 1) (some (.inr (2, [.ref (o + 3), .ref (o + 4), .ref (o + 5), .ref (o + 6), .ref (o + 7), .int (nI len), .int (d 0), .int (d 2), .int (d 3), .int (nI nc), .int (((d 10) &&& ((1 <<< ((nI ck) &&& 31)) ^^^ ((-1)))) ||| (w <<< ((nI ck) &&& 31))), .int cold, .int wind]))) := ⟨_, rfl⟩
      refine z_heap (h' := zh17) ze18.symm ?_
      have zK19 := up_off ze18 (show o ≠ o + 2 by omega) K0
      have zK20 := up_off ze18 (show o + 1 ≠ o + 2 by omega) K1
      have zK21 := up_at ze18
      have zK22 := up_off ze18 (show o + 6 ≠ o + 2 by omega) K3
      have zK23 := up_off ze18 (show o + 61 ≠ o + 2 by omega) K4
      have zl24 : ∀ zq : Nat, zq < (o + 76) → zq ≠ (o + 2) → zh17 zq = h zq := by intro zq hzq zn0; rw [ze18, va_up_ne _ _ (show zq ≠ o + 2 by omega)]; try rfl
      have zr25 : Zr κ (o + 76) h zh17 := (Zr.refl).trans (Zr.same (fun zq h1 => by rw [ze18, va_up_ne _ _ (show zq ≠ o + 2 by omega)]))
      refine z_iload_n X 1 dX11_turn_58 rfl ?_
      refine z_iret X E dX11_turn_59 (by omega) (by omega) ⟨?_, ?_, ?_, ?_, ?_, ?_⟩
      · generalize hzz : opTurn d nc (nI ck) w = zz1; unfold opTurn at hzz; (try simp only [i_nI (n := ck) (by omega), nI_clamp (n := ck) (by omega),  i_eq, i_lt, i_le, show (-1 : Int32).toInt = -1 by decide, show (0 : Int32).toInt = 0 by decide, show (1 : Int32).toInt = 1 by decide, show (2 : Int32).toInt = 2 by decide, show (3 : Int32).toInt = 3 by decide, show (4 : Int32).toInt = 4 by decide, show (5 : Int32).toInt = 5 by decide, show (6 : Int32).toInt = 6 by decide, show (7 : Int32).toInt = 7 by decide, show (8 : Int32).toInt = 8 by decide, show (9 : Int32).toInt = 9 by decide, show (10 : Int32).toInt = 10 by decide, show (11 : Int32).toInt = 11 by decide, show (12 : Int32).toInt = 12 by decide, show (13 : Int32).toInt = 13 by decide, show (14 : Int32).toInt = 14 by decide, show (15 : Int32).toInt = 15 by decide, show (16 : Int32).toInt = 16 by decide, show (20 : Int32).toInt = 20 by decide, show (39 : Int32).toInt = 39 by decide, show (40 : Int32).toInt = 40 by decide, show (50 : Int32).toInt = 50 by decide, show (60 : Int32).toInt = 60 by decide, show (99 : Int32).toInt = 99 by decide, show (100 : Int32).toInt = 100 by decide, show (999 : Int32).toInt = 999 by decide, show (9999 : Int32).toInt = 9999 by decide, show (99999 : Int32).toInt = 99999 by decide, show (999999 : Int32).toInt = 999999 by decide, show (9999999 : Int32).toInt = 9999999 by decide, show (-50 : Int32).toInt = -50 by decide, show (32 : Int32).toInt = 32 by decide] at *); (repeat first | rw [if_pos (by omega)] at hzz | rw [if_neg (by omega)] at hzz); subst hzz; first | rfl | exact congrArg (fun z => some (Value.int z)) (ansOf_0 _).symm
      · rfl
      · exact fun zq hzq zn0 zn1 => zl24 zq hzq zn0
      · exact zr25
      · generalize hzz : dTurn d nc (nI ck) w = zz1; unfold dTurn at hzz; (try simp only [i_nI (n := ck) (by omega), nI_clamp (n := ck) (by omega),  i_eq, i_lt, i_le, show (-1 : Int32).toInt = -1 by decide, show (0 : Int32).toInt = 0 by decide, show (1 : Int32).toInt = 1 by decide, show (2 : Int32).toInt = 2 by decide, show (3 : Int32).toInt = 3 by decide, show (4 : Int32).toInt = 4 by decide, show (5 : Int32).toInt = 5 by decide, show (6 : Int32).toInt = 6 by decide, show (7 : Int32).toInt = 7 by decide, show (8 : Int32).toInt = 8 by decide, show (9 : Int32).toInt = 9 by decide, show (10 : Int32).toInt = 10 by decide, show (11 : Int32).toInt = 11 by decide, show (12 : Int32).toInt = 12 by decide, show (13 : Int32).toInt = 13 by decide, show (14 : Int32).toInt = 14 by decide, show (15 : Int32).toInt = 15 by decide, show (16 : Int32).toInt = 16 by decide, show (20 : Int32).toInt = 20 by decide, show (39 : Int32).toInt = 39 by decide, show (40 : Int32).toInt = 40 by decide, show (50 : Int32).toInt = 50 by decide, show (60 : Int32).toInt = 60 by decide, show (99 : Int32).toInt = 99 by decide, show (100 : Int32).toInt = 100 by decide, show (999 : Int32).toInt = 999 by decide, show (9999 : Int32).toInt = 9999 by decide, show (99999 : Int32).toInt = 99999 by decide, show (999999 : Int32).toInt = 999999 by decide, show (9999999 : Int32).toInt = 9999999 by decide, show (-50 : Int32).toInt = -50 by decide, show (32 : Int32).toInt = 32 by decide] at *); (repeat first | rw [if_pos (by omega)] at hzz | rw [if_neg (by omega)] at hzz); subst hzz; rw [pk_us]; exact zK21
      · generalize hzz : opTurn d nc (nI ck) w = zz1; unfold opTurn at hzz; (try simp only [i_nI (n := ck) (by omega), nI_clamp (n := ck) (by omega),  i_eq, i_lt, i_le, show (-1 : Int32).toInt = -1 by decide, show (0 : Int32).toInt = 0 by decide, show (1 : Int32).toInt = 1 by decide, show (2 : Int32).toInt = 2 by decide, show (3 : Int32).toInt = 3 by decide, show (4 : Int32).toInt = 4 by decide, show (5 : Int32).toInt = 5 by decide, show (6 : Int32).toInt = 6 by decide, show (7 : Int32).toInt = 7 by decide, show (8 : Int32).toInt = 8 by decide, show (9 : Int32).toInt = 9 by decide, show (10 : Int32).toInt = 10 by decide, show (11 : Int32).toInt = 11 by decide, show (12 : Int32).toInt = 12 by decide, show (13 : Int32).toInt = 13 by decide, show (14 : Int32).toInt = 14 by decide, show (15 : Int32).toInt = 15 by decide, show (16 : Int32).toInt = 16 by decide, show (20 : Int32).toInt = 20 by decide, show (39 : Int32).toInt = 39 by decide, show (40 : Int32).toInt = 40 by decide, show (50 : Int32).toInt = 50 by decide, show (60 : Int32).toInt = 60 by decide, show (99 : Int32).toInt = 99 by decide, show (100 : Int32).toInt = 100 by decide, show (999 : Int32).toInt = 999 by decide, show (9999 : Int32).toInt = 9999 by decide, show (99999 : Int32).toInt = 99999 by decide, show (999999 : Int32).toInt = 999999 by decide, show (9999999 : Int32).toInt = 9999999 by decide, show (-50 : Int32).toInt = -50 by decide, show (32 : Int32).toInt = 32 by decide] at *); (repeat first | rw [if_pos (by omega)] at hzz | rw [if_neg (by omega)] at hzz); subst hzz; exact zK23
    · replace zc11 := b2i_f zc11
      refine z_aload_n X 0 dX11_turn_17 rfl ?_
      refine z_iconst (v := 1) X dX11_turn_18 (by decide) ?_
      refine z_callV X (c_fail (κ := κ) (n := n) (o := (o)) (im := (im)) (fo := (fo)) (k := (1)) K0 K4 (by first | assumption | omega) (by first | assumption | omega)) mk_X11_fail dX11_turn_19 wd_260 wd_262 wd_0 rfl K0 rfl rfl rfl (Nat.le_of_ble_eq_true rfl) (Nat.le_of_ble_eq_true rfl) (Nat.le_of_ble_eq_true rfl) (by omega) (by omega) (fun q zh26 zm28 zp29 => ?_)
      obtain ⟨rfl, ze27, zn30⟩ := zp29
      subst zm28
      refine z_st (st' := [.int (lowE 1)]) rfl ?_
      have zK31 : zh26 o = some (.inr (11, [.ref (o + 1), .ref (o + 14), .ref (o + 27), .ref (o + 33), .ref (o + 42), .ref (o + 55), .ref (o + 57), .ref (o + 59), .ref (o + 61), .int im])) := by rw [ze27]; rw [va_up_ne _ _ (show o ≠ o + 61 by omega)]; exact K0
      have zK32 : zh26 (o + 1) = some (.inr (3, [.ref (o + 1 + 1), .ref (o + 1 + 7), .ref (o + 1 + 9), .ref (o + 1 + 11), .int (d 13)])) := by rw [ze27]; rw [va_up_ne _ _ (show o + 1 ≠ o + 61 by omega)]; exact K1
      have zK33 : zh26 (o + 2) = some (.inr (2, [.ref (o + 3), .ref (o + 4), .ref (o + 5), .ref (o + 6), .ref (o + 7), .int (nI len), .int (d 0), .int (d 2), .int (d 3), .int (nI nc), .int (d 10), .int cold, .int wind])) := by rw [ze27]; rw [va_up_ne _ _ (show o + 2 ≠ o + 61 by omega)]; exact K2
      have zK34 : zh26 (o + 6) = arR κ 1 6 cs := by rw [ze27]; rw [va_up_ne _ _ (show o + 6 ≠ o + 61 by omega)]; exact K3
      have zK35 : zh26 (o + 61) = arI κ 6 (bmp fo 1) := by rw [ze27]; exact va_up_self _ _ _
      have zl36 : ∀ zq : Nat, zq < (o + 76) → zq ≠ (o + 61) → zh26 zq = h zq := by intro zq hzq zn0; rw [ze27, va_up_ne _ _ (show zq ≠ o + 61 by omega)]; try rfl
      have zr37 : Zr κ (o + 76) h zh26 := (Zr.refl).trans (Zr.same (fun zq h1 => by rw [ze27, va_up_ne _ _ (show zq ≠ o + 61 by omega)]))
      refine z_iret X E dX11_turn_22 (by omega) (by omega) ⟨?_, ?_, ?_, ?_, ?_, ?_⟩
      · generalize hzz : opTurn d nc (nI ck) w = zz1; unfold opTurn at hzz; (try simp only [i_nI (n := ck) (by omega), nI_clamp (n := ck) (by omega),  i_eq, i_lt, i_le, show (-1 : Int32).toInt = -1 by decide, show (0 : Int32).toInt = 0 by decide, show (1 : Int32).toInt = 1 by decide, show (2 : Int32).toInt = 2 by decide, show (3 : Int32).toInt = 3 by decide, show (4 : Int32).toInt = 4 by decide, show (5 : Int32).toInt = 5 by decide, show (6 : Int32).toInt = 6 by decide, show (7 : Int32).toInt = 7 by decide, show (8 : Int32).toInt = 8 by decide, show (9 : Int32).toInt = 9 by decide, show (10 : Int32).toInt = 10 by decide, show (11 : Int32).toInt = 11 by decide, show (12 : Int32).toInt = 12 by decide, show (13 : Int32).toInt = 13 by decide, show (14 : Int32).toInt = 14 by decide, show (15 : Int32).toInt = 15 by decide, show (16 : Int32).toInt = 16 by decide, show (20 : Int32).toInt = 20 by decide, show (39 : Int32).toInt = 39 by decide, show (40 : Int32).toInt = 40 by decide, show (50 : Int32).toInt = 50 by decide, show (60 : Int32).toInt = 60 by decide, show (99 : Int32).toInt = 99 by decide, show (100 : Int32).toInt = 100 by decide, show (999 : Int32).toInt = 999 by decide, show (9999 : Int32).toInt = 9999 by decide, show (99999 : Int32).toInt = 99999 by decide, show (999999 : Int32).toInt = 999999 by decide, show (9999999 : Int32).toInt = 9999999 by decide, show (-50 : Int32).toInt = -50 by decide, show (32 : Int32).toInt = 32 by decide] at *); (repeat first | rw [if_pos (by omega)] at hzz | rw [if_neg (by omega)] at hzz); subst hzz; first | rfl | exact congrArg (fun z => some (Value.int z)) (ansOf_0 _).symm
      · rfl
      · exact fun zq hzq zn0 zn1 => zl36 zq hzq zn1
      · exact zr37
      · generalize hzz : dTurn d nc (nI ck) w = zz1; unfold dTurn at hzz; (try simp only [i_nI (n := ck) (by omega), nI_clamp (n := ck) (by omega),  i_eq, i_lt, i_le, show (-1 : Int32).toInt = -1 by decide, show (0 : Int32).toInt = 0 by decide, show (1 : Int32).toInt = 1 by decide, show (2 : Int32).toInt = 2 by decide, show (3 : Int32).toInt = 3 by decide, show (4 : Int32).toInt = 4 by decide, show (5 : Int32).toInt = 5 by decide, show (6 : Int32).toInt = 6 by decide, show (7 : Int32).toInt = 7 by decide, show (8 : Int32).toInt = 8 by decide, show (9 : Int32).toInt = 9 by decide, show (10 : Int32).toInt = 10 by decide, show (11 : Int32).toInt = 11 by decide, show (12 : Int32).toInt = 12 by decide, show (13 : Int32).toInt = 13 by decide, show (14 : Int32).toInt = 14 by decide, show (15 : Int32).toInt = 15 by decide, show (16 : Int32).toInt = 16 by decide, show (20 : Int32).toInt = 20 by decide, show (39 : Int32).toInt = 39 by decide, show (40 : Int32).toInt = 40 by decide, show (50 : Int32).toInt = 50 by decide, show (60 : Int32).toInt = 60 by decide, show (99 : Int32).toInt = 99 by decide, show (100 : Int32).toInt = 100 by decide, show (999 : Int32).toInt = 999 by decide, show (9999 : Int32).toInt = 9999 by decide, show (99999 : Int32).toInt = 99999 by decide, show (999999 : Int32).toInt = 999999 by decide, show (9999999 : Int32).toInt = 9999999 by decide, show (-50 : Int32).toInt = -50 by decide, show (32 : Int32).toInt = 32 by decide] at *); (repeat first | rw [if_pos (by omega)] at hzz | rw [if_neg (by omega)] at hzz); subst hzz; exact zK33
      · generalize hzz : opTurn d nc (nI ck) w = zz1; unfold opTurn at hzz; (try simp only [i_nI (n := ck) (by omega), nI_clamp (n := ck) (by omega),  i_eq, i_lt, i_le, show (-1 : Int32).toInt = -1 by decide, show (0 : Int32).toInt = 0 by decide, show (1 : Int32).toInt = 1 by decide, show (2 : Int32).toInt = 2 by decide, show (3 : Int32).toInt = 3 by decide, show (4 : Int32).toInt = 4 by decide, show (5 : Int32).toInt = 5 by decide, show (6 : Int32).toInt = 6 by decide, show (7 : Int32).toInt = 7 by decide, show (8 : Int32).toInt = 8 by decide, show (9 : Int32).toInt = 9 by decide, show (10 : Int32).toInt = 10 by decide, show (11 : Int32).toInt = 11 by decide, show (12 : Int32).toInt = 12 by decide, show (13 : Int32).toInt = 13 by decide, show (14 : Int32).toInt = 14 by decide, show (15 : Int32).toInt = 15 by decide, show (16 : Int32).toInt = 16 by decide, show (20 : Int32).toInt = 20 by decide, show (39 : Int32).toInt = 39 by decide, show (40 : Int32).toInt = 40 by decide, show (50 : Int32).toInt = 50 by decide, show (60 : Int32).toInt = 60 by decide, show (99 : Int32).toInt = 99 by decide, show (100 : Int32).toInt = 100 by decide, show (999 : Int32).toInt = 999 by decide, show (9999 : Int32).toInt = 9999 by decide, show (99999 : Int32).toInt = 99999 by decide, show (999999 : Int32).toInt = 999999 by decide, show (9999999 : Int32).toInt = 9999999 by decide, show (-50 : Int32).toInt = -50 by decide, show (32 : Int32).toInt = 32 by decide] at *); (repeat first | rw [if_pos (by omega)] at hzz | rw [if_neg (by omega)] at hzz); subst hzz; exact zK35
  · skip
    refine z_callV X (c_causeAt_n (κ := κ) (n := n) (o := (o)) (im := (im)) (len := (len)) (nc := (nc)) (cold := (cold)) (wind := (wind)) (cs := (cs)) (c := (c)) K0 K1 K2 K3 (by first | assumption | omega) (hin)) mk_X11_causeAt dX11_turn_2 wd_413 wd_415 wd_1 rfl K0 rfl rfl rfl (Nat.le_of_ble_eq_true rfl) (Nat.le_of_ble_eq_true rfl) (Nat.le_of_ble_eq_true rfl) (by omega) (by omega) (fun q zh38 zm40 zp41 => ?_)
    obtain ⟨rfl, ze39, zn42⟩ := zp41
    subst zm40
    subst zh38
    refine z_st (st' := [.null]) rfl ?_
    refine z_ifnullN X 17 dX11_turn_5 (by decide) ?_
    refine z_aload_n X 0 dX11_turn_17 rfl ?_
    refine z_iconst (v := 1) X dX11_turn_18 (by decide) ?_
    refine z_callV X (c_fail (κ := κ) (n := n) (o := (o)) (im := (im)) (fo := (fo)) (k := (1)) K0 K4 (by first | assumption | omega) (by first | assumption | omega)) mk_X11_fail dX11_turn_19 wd_260 wd_262 wd_0 rfl K0 rfl rfl rfl (Nat.le_of_ble_eq_true rfl) (Nat.le_of_ble_eq_true rfl) (Nat.le_of_ble_eq_true rfl) (by omega) (by omega) (fun q zh43 zm45 zp46 => ?_)
    obtain ⟨rfl, ze44, zn47⟩ := zp46
    subst zm45
    refine z_st (st' := [.int (lowE 1)]) rfl ?_
    have zK48 : zh43 o = some (.inr (11, [.ref (o + 1), .ref (o + 14), .ref (o + 27), .ref (o + 33), .ref (o + 42), .ref (o + 55), .ref (o + 57), .ref (o + 59), .ref (o + 61), .int im])) := by rw [ze44]; rw [va_up_ne _ _ (show o ≠ o + 61 by omega)]; exact K0
    have zK49 : zh43 (o + 1) = some (.inr (3, [.ref (o + 1 + 1), .ref (o + 1 + 7), .ref (o + 1 + 9), .ref (o + 1 + 11), .int (d 13)])) := by rw [ze44]; rw [va_up_ne _ _ (show o + 1 ≠ o + 61 by omega)]; exact K1
    have zK50 : zh43 (o + 2) = some (.inr (2, [.ref (o + 3), .ref (o + 4), .ref (o + 5), .ref (o + 6), .ref (o + 7), .int (nI len), .int (d 0), .int (d 2), .int (d 3), .int (nI nc), .int (d 10), .int cold, .int wind])) := by rw [ze44]; rw [va_up_ne _ _ (show o + 2 ≠ o + 61 by omega)]; exact K2
    have zK51 : zh43 (o + 6) = arR κ 1 6 cs := by rw [ze44]; rw [va_up_ne _ _ (show o + 6 ≠ o + 61 by omega)]; exact K3
    have zK52 : zh43 (o + 61) = arI κ 6 (bmp fo 1) := by rw [ze44]; exact va_up_self _ _ _
    have zl53 : ∀ zq : Nat, zq < (o + 76) → zq ≠ (o + 61) → zh43 zq = h zq := by intro zq hzq zn0; rw [ze44, va_up_ne _ _ (show zq ≠ o + 61 by omega)]; try rfl
    have zr54 : Zr κ (o + 76) h zh43 := (Zr.refl).trans (Zr.same (fun zq h1 => by rw [ze44, va_up_ne _ _ (show zq ≠ o + 61 by omega)]))
    refine z_iret X E dX11_turn_22 (by omega) (by omega) ⟨?_, ?_, ?_, ?_, ?_, ?_⟩
    · generalize hzz : opTurn d nc c w = zz1; unfold opTurn at hzz; (try simp only [ i_eq, i_lt, i_le, show (-1 : Int32).toInt = -1 by decide, show (0 : Int32).toInt = 0 by decide, show (1 : Int32).toInt = 1 by decide, show (2 : Int32).toInt = 2 by decide, show (3 : Int32).toInt = 3 by decide, show (4 : Int32).toInt = 4 by decide, show (5 : Int32).toInt = 5 by decide, show (6 : Int32).toInt = 6 by decide, show (7 : Int32).toInt = 7 by decide, show (8 : Int32).toInt = 8 by decide, show (9 : Int32).toInt = 9 by decide, show (10 : Int32).toInt = 10 by decide, show (11 : Int32).toInt = 11 by decide, show (12 : Int32).toInt = 12 by decide, show (13 : Int32).toInt = 13 by decide, show (14 : Int32).toInt = 14 by decide, show (15 : Int32).toInt = 15 by decide, show (16 : Int32).toInt = 16 by decide, show (20 : Int32).toInt = 20 by decide, show (39 : Int32).toInt = 39 by decide, show (40 : Int32).toInt = 40 by decide, show (50 : Int32).toInt = 50 by decide, show (60 : Int32).toInt = 60 by decide, show (99 : Int32).toInt = 99 by decide, show (100 : Int32).toInt = 100 by decide, show (999 : Int32).toInt = 999 by decide, show (9999 : Int32).toInt = 9999 by decide, show (99999 : Int32).toInt = 99999 by decide, show (999999 : Int32).toInt = 999999 by decide, show (9999999 : Int32).toInt = 9999999 by decide, show (-50 : Int32).toInt = -50 by decide, show (32 : Int32).toInt = 32 by decide] at *); (repeat first | rw [if_pos (by omega)] at hzz | rw [if_neg (by omega)] at hzz); subst hzz; first | rfl | exact congrArg (fun z => some (Value.int z)) (ansOf_0 _).symm
    · rfl
    · exact fun zq hzq zn0 zn1 => zl53 zq hzq zn1
    · exact zr54
    · generalize hzz : dTurn d nc c w = zz1; unfold dTurn at hzz; (try simp only [ i_eq, i_lt, i_le, show (-1 : Int32).toInt = -1 by decide, show (0 : Int32).toInt = 0 by decide, show (1 : Int32).toInt = 1 by decide, show (2 : Int32).toInt = 2 by decide, show (3 : Int32).toInt = 3 by decide, show (4 : Int32).toInt = 4 by decide, show (5 : Int32).toInt = 5 by decide, show (6 : Int32).toInt = 6 by decide, show (7 : Int32).toInt = 7 by decide, show (8 : Int32).toInt = 8 by decide, show (9 : Int32).toInt = 9 by decide, show (10 : Int32).toInt = 10 by decide, show (11 : Int32).toInt = 11 by decide, show (12 : Int32).toInt = 12 by decide, show (13 : Int32).toInt = 13 by decide, show (14 : Int32).toInt = 14 by decide, show (15 : Int32).toInt = 15 by decide, show (16 : Int32).toInt = 16 by decide, show (20 : Int32).toInt = 20 by decide, show (39 : Int32).toInt = 39 by decide, show (40 : Int32).toInt = 40 by decide, show (50 : Int32).toInt = 50 by decide, show (60 : Int32).toInt = 60 by decide, show (99 : Int32).toInt = 99 by decide, show (100 : Int32).toInt = 100 by decide, show (999 : Int32).toInt = 999 by decide, show (9999 : Int32).toInt = 9999 by decide, show (99999 : Int32).toInt = 99999 by decide, show (999999 : Int32).toInt = 999999 by decide, show (9999999 : Int32).toInt = 9999999 by decide, show (-50 : Int32).toInt = -50 by decide, show (32 : Int32).toInt = 32 by decide] at *); (repeat first | rw [if_pos (by omega)] at hzz | rw [if_neg (by omega)] at hzz); subst hzz; exact zK50
    · generalize hzz : opTurn d nc c w = zz1; unfold opTurn at hzz; (try simp only [ i_eq, i_lt, i_le, show (-1 : Int32).toInt = -1 by decide, show (0 : Int32).toInt = 0 by decide, show (1 : Int32).toInt = 1 by decide, show (2 : Int32).toInt = 2 by decide, show (3 : Int32).toInt = 3 by decide, show (4 : Int32).toInt = 4 by decide, show (5 : Int32).toInt = 5 by decide, show (6 : Int32).toInt = 6 by decide, show (7 : Int32).toInt = 7 by decide, show (8 : Int32).toInt = 8 by decide, show (9 : Int32).toInt = 9 by decide, show (10 : Int32).toInt = 10 by decide, show (11 : Int32).toInt = 11 by decide, show (12 : Int32).toInt = 12 by decide, show (13 : Int32).toInt = 13 by decide, show (14 : Int32).toInt = 14 by decide, show (15 : Int32).toInt = 15 by decide, show (16 : Int32).toInt = 16 by decide, show (20 : Int32).toInt = 20 by decide, show (39 : Int32).toInt = 39 by decide, show (40 : Int32).toInt = 40 by decide, show (50 : Int32).toInt = 50 by decide, show (60 : Int32).toInt = 60 by decide, show (99 : Int32).toInt = 99 by decide, show (100 : Int32).toInt = 100 by decide, show (999 : Int32).toInt = 999 by decide, show (9999 : Int32).toInt = 9999 by decide, show (99999 : Int32).toInt = 99999 by decide, show (999999 : Int32).toInt = 999999 by decide, show (9999999 : Int32).toInt = 9999999 by decide, show (-50 : Int32).toInt = -50 by decide, show (32 : Int32).toInt = 32 by decide] at *); (repeat first | rw [if_pos (by omega)] at hzz | rw [if_neg (by omega)] at hzz); subst hzz; exact zK52
set_option maxHeartbeats 4000000 in
set_option maxRecDepth 100000 in
theorem p_as {κ : Wc} {l : Launch} {h : Mm} {n : Nat} {o : Nat} {im : Int32} {d : Nat → Int32} {len : Nat} {nc : Nat} {cold : Int32} {wind : Int32} {cs : Nat → Option Nat} {fo : Nat → Int32} {c : Int32} {w : Int32} (K0 : h o = some (.inr (11, [.ref (o + 1), .ref (o + 14), .ref (o + 27), .ref (o + 33), .ref (o + 42), .ref (o + 55), .ref (o + 57), .ref (o + 59), .ref (o + 61), .int im]))) (K1 : h (o + 1) = some (.inr (3, [.ref (o + 1 + 1), .ref (o + 1 + 7), .ref (o + 1 + 9), .ref (o + 1 + 11), .int (d 13)]))) (K2 : h (o + 2) = some (.inr (2, [.ref (o + 3), .ref (o + 4), .ref (o + 5), .ref (o + 6), .ref (o + 7), .int (nI len), .int (d 0), .int (d 2), .int (d 3), .int (nI nc), .int (d 10), .int cold, .int wind]))) (K3 : h (o + 6) = arR κ 1 6 cs) (K4 : h (o + 61) = arI κ 6 fo) (q4 : d 11 = nI nc) (q5 : nc ≤ 6) (hCs : CsO (o + 76) h cs d nc) : Con κ l yX11_as cX11_as 4 (some .int) 4 0 0 [.ref o, .int c, .int w] h n (fun q h' n' => q = some (.int (ansOf (opAs d nc c w))) ∧ n' = n ∧ (∀ zq : Nat, zq < (o + 76) → zq ≠ (o + 61) → h' zq = h zq) ∧ Zr κ (o + 76) h h' ∧ h' (o + 61) = arI κ 6 (bump (opAs d nc c w) fo)) := by
  refine Con.of mk_X11_as (Nat.le_of_ble_eq_true rfl) (fun G hG X E => ?_)
  subst hG
  refine z_ls (ls' := [(0, .ref o), (1, .int c), (2, .int w)]) rfl ?_
  refine z_aload_n X 0 dX11_as_0 rfl ?_
  refine z_iload_n X 1 dX11_as_1 rfl ?_
  by_cases hin : 0 ≤ c.toInt ∧ c.toInt ≤ ((nc : Nat) : Int) - 1
  · skip
    obtain ⟨ck, hck, rfl⟩ := ix_of (c := c) (len := nc) (by omega) (by omega)
    obtain ⟨a, kd, ha1, ha2, ha3, ha4, ha5⟩ := hCs ck (by omega)
    refine z_callV X (c_causeAt_s (κ := κ) (n := n) (o := (o)) (im := (im)) (len := (len)) (nc := (nc)) (cold := (cold)) (wind := (wind)) (cs := (cs)) (ck := (ck)) (a := (a)) K0 K1 K2 K3 (by first | assumption | omega) (by first | assumption | omega) (ha2)) mk_X11_causeAt dX11_as_2 wd_413 wd_415 wd_1 rfl K0 rfl rfl rfl (Nat.le_of_ble_eq_true rfl) (Nat.le_of_ble_eq_true rfl) (Nat.le_of_ble_eq_true rfl) (by omega) (by omega) (fun q zh1 zm3 zp4 => ?_)
    obtain ⟨rfl, ze2, zn5⟩ := zp4
    subst zm3
    subst zh1
    refine z_st (st' := [.ref a]) rfl ?_
    rcases lt7 ha3 with rfl | rfl | rfl | rfl | rfl | rfl | rfl
    · skip
      have zK6 : h a = some (.inr (0, [.int (nI 0), .int (nI ck), .int (d (20 + 2 * ck + 1))])) := ha5
      refine z_astore_n (ls' := [(3, .ref a), (0, .ref o), (1, .int (nI ck)), (2, .int w)]) X dX11_as_5 (by decide) rfl ?_
      refine z_aload_n X 0 dX11_as_6 rfl ?_
      refine z_ifnull X dX11_as_7 ?_
      refine z_iload_n X 3 dX11_as_10 rfl ?_
      refine z_iconst (v := 0) X dX11_as_11 (by decide) ?_
      refine z_bipush (v := 6) X dX11_as_12 (by decide) ?_
      refine z_callS X (c_within (κ := κ) (n := n) (v := (w)) (lo := (0)) (hi := (6))  ) mk_X11_within dX11_as_14 wd_259 wd_257 rfl rfl (Nat.le_of_ble_eq_true rfl) (Nat.le_of_ble_eq_true rfl) (Nat.le_of_ble_eq_true rfl) (by omega) (by omega) (fun q zh7 zm9 zp10 => ?_)
      obtain ⟨rfl, ze8, zn11⟩ := zp10
      subst zm9
      subst zh7
      refine z_st (st' := [.int (b2i ((0 : Int32).toInt ≤ (w : Int32).toInt ∧ (w : Int32).toInt ≤ (6 : Int32).toInt))]) rfl ?_
      refine z_toe (y := b2i (0 ≤ w.toInt ∧ w.toInt ≤ 6)) (by simp only [show (0 : Int32).toInt = 0 by decide, show (6 : Int32).toInt = 6 by decide]) ?_
      refine z_if_ne X 26 dX11_as_17 (by decide) (fun zc12 => ?_) (fun zc12 => ?_)
      · replace zc12 := b2i_t zc12
        obtain ⟨wq, hwq, rfl⟩ := ix_of (c := w) (len := 7) (by omega) (by omega)
        rcases lt7 hwq with rfl | rfl | rfl | rfl | rfl | rfl | rfl
        · skip
          refine z_aload_n X 0 dX11_as_26 rfl ?_
          refine z_iload_n X 3 dX11_as_27 rfl ?_
          refine z_callS X (c_isOfKind_0_0 (κ := κ) (n := n) (a := (a)) (v1 := (nI 0)) (v2 := (nI ck)) (v3 := (d (20 + 2 * ck + 1))) zK6 ) mk_X11_isOfKind dX11_as_28 wd_425 wd_426 rfl rfl (Nat.le_of_ble_eq_true rfl) (Nat.le_of_ble_eq_true rfl) (Nat.le_of_ble_eq_true rfl) (by omega) (by omega) (fun q zh13 zm15 zp16 => ?_)
          obtain ⟨rfl, ze14, zn17⟩ := zp16
          subst zm15
          subst zh13
          refine z_st (st' := [.int (b2i (isOfP (nI 0) (nI 0)))]) rfl ?_
          refine z_if_eq X 41 dX11_as_31 (by decide) (fun zc18 => ?_) (fun zc18 => ?_)
          · replace zc18 := b2i_f zc18
            refine z_aload_n X 1 dX11_as_41 rfl ?_
            refine z_iconst (v := 5) X dX11_as_42 (by decide) ?_
            refine z_callV X (c_fail (κ := κ) (n := n) (o := (o)) (im := (im)) (fo := (fo)) (k := (5)) K0 K4 (by first | assumption | omega) (by first | assumption | omega)) mk_X11_fail dX11_as_43 wd_260 wd_262 wd_0 rfl K0 rfl rfl rfl (Nat.le_of_ble_eq_true rfl) (Nat.le_of_ble_eq_true rfl) (Nat.le_of_ble_eq_true rfl) (by omega) (by omega) (fun q zh19 zm21 zp22 => ?_)
            obtain ⟨rfl, ze20, zn23⟩ := zp22
            subst zm21
            refine z_st (st' := [.int (lowE 5)]) rfl ?_
            have zK24 : zh19 o = some (.inr (11, [.ref (o + 1), .ref (o + 14), .ref (o + 27), .ref (o + 33), .ref (o + 42), .ref (o + 55), .ref (o + 57), .ref (o + 59), .ref (o + 61), .int im])) := by rw [ze20]; rw [va_up_ne _ _ (show o ≠ o + 61 by omega)]; exact K0
            have zK25 : zh19 (o + 1) = some (.inr (3, [.ref (o + 1 + 1), .ref (o + 1 + 7), .ref (o + 1 + 9), .ref (o + 1 + 11), .int (d 13)])) := by rw [ze20]; rw [va_up_ne _ _ (show o + 1 ≠ o + 61 by omega)]; exact K1
            have zK26 : zh19 (o + 2) = some (.inr (2, [.ref (o + 3), .ref (o + 4), .ref (o + 5), .ref (o + 6), .ref (o + 7), .int (nI len), .int (d 0), .int (d 2), .int (d 3), .int (nI nc), .int (d 10), .int cold, .int wind])) := by rw [ze20]; rw [va_up_ne _ _ (show o + 2 ≠ o + 61 by omega)]; exact K2
            have zK27 : zh19 (o + 6) = arR κ 1 6 cs := by rw [ze20]; rw [va_up_ne _ _ (show o + 6 ≠ o + 61 by omega)]; exact K3
            have zK28 : zh19 (o + 61) = arI κ 6 (bmp fo 5) := by rw [ze20]; exact va_up_self _ _ _
            have zK29 : zh19 a = some (.inr (0, [.int (nI 0), .int (nI ck), .int (d (20 + 2 * ck + 1))])) := by rw [ze20]; rw [va_up_ne _ _ (show a ≠ o + 61 by omega)]; exact zK6
            have zl30 : ∀ zq : Nat, zq < (o + 76) → zq ≠ (o + 61) → zh19 zq = h zq := by intro zq hzq zn0; rw [ze20, va_up_ne _ _ (show zq ≠ o + 61 by omega)]; try rfl
            have zr31 : Zr κ (o + 76) h zh19 := (Zr.refl).trans (Zr.same (fun zq h1 => by rw [ze20, va_up_ne _ _ (show zq ≠ o + 61 by omega)]))
            refine z_iret X E dX11_as_46 (by omega) (by omega) ⟨?_, ?_, ?_, ?_, ?_⟩
            · rw [opAs_5 (x := 0) (y := 0) hck q5 (by decide) ha4 (by assumption)]; rfl
            · rfl
            · exact fun zq hzq zn0 => zl30 zq hzq zn0
            · exact zr31
            · rw [opAs_5 (x := 0) (y := 0) hck q5 (by decide) ha4 (by assumption)]; exact zK28
          · replace zc18 := b2i_t zc18
            refine z_aload_n X 0 dX11_as_34 rfl ?_
            refine z_get X fl_X11_140_0 dX11_as_35 zK6 rfl ?_
            refine z_goto X 46 dX11_as_38 (by decide) ?_
            refine z_iret X E dX11_as_46 (by omega) (by omega) ⟨?_, ?_, ?_, ?_, ?_⟩
            · rw [opAs_0 (x := 0) (y := 0) hck q5 (by decide) ha4 (by assumption)]; rfl
            · rfl
            · exact fun zq hzq zn0 => rfl
            · exact Zr.refl
            · rw [opAs_0 (x := 0) (y := 0) hck q5 (by decide) ha4 (by assumption)]; exact K4
        · skip
          refine z_aload_n X 0 dX11_as_26 rfl ?_
          refine z_iload_n X 3 dX11_as_27 rfl ?_
          refine z_callS X (c_isOfKind_0_1 (κ := κ) (n := n) (a := (a)) (v1 := (nI 0)) (v2 := (nI ck)) (v3 := (d (20 + 2 * ck + 1))) zK6 ) mk_X11_isOfKind dX11_as_28 wd_425 wd_426 rfl rfl (Nat.le_of_ble_eq_true rfl) (Nat.le_of_ble_eq_true rfl) (Nat.le_of_ble_eq_true rfl) (by omega) (by omega) (fun q zh32 zm34 zp35 => ?_)
          obtain ⟨rfl, ze33, zn36⟩ := zp35
          subst zm34
          subst zh32
          refine z_st (st' := [.int (b2i (isOfP (nI 0) (nI 1)))]) rfl ?_
          refine z_if_eq X 41 dX11_as_31 (by decide) (fun zc37 => ?_) (fun zc37 => ?_)
          · replace zc37 := b2i_f zc37
            refine z_aload_n X 1 dX11_as_41 rfl ?_
            refine z_iconst (v := 5) X dX11_as_42 (by decide) ?_
            refine z_callV X (c_fail (κ := κ) (n := n) (o := (o)) (im := (im)) (fo := (fo)) (k := (5)) K0 K4 (by first | assumption | omega) (by first | assumption | omega)) mk_X11_fail dX11_as_43 wd_260 wd_262 wd_0 rfl K0 rfl rfl rfl (Nat.le_of_ble_eq_true rfl) (Nat.le_of_ble_eq_true rfl) (Nat.le_of_ble_eq_true rfl) (by omega) (by omega) (fun q zh38 zm40 zp41 => ?_)
            obtain ⟨rfl, ze39, zn42⟩ := zp41
            subst zm40
            refine z_st (st' := [.int (lowE 5)]) rfl ?_
            have zK43 : zh38 o = some (.inr (11, [.ref (o + 1), .ref (o + 14), .ref (o + 27), .ref (o + 33), .ref (o + 42), .ref (o + 55), .ref (o + 57), .ref (o + 59), .ref (o + 61), .int im])) := by rw [ze39]; rw [va_up_ne _ _ (show o ≠ o + 61 by omega)]; exact K0
            have zK44 : zh38 (o + 1) = some (.inr (3, [.ref (o + 1 + 1), .ref (o + 1 + 7), .ref (o + 1 + 9), .ref (o + 1 + 11), .int (d 13)])) := by rw [ze39]; rw [va_up_ne _ _ (show o + 1 ≠ o + 61 by omega)]; exact K1
            have zK45 : zh38 (o + 2) = some (.inr (2, [.ref (o + 3), .ref (o + 4), .ref (o + 5), .ref (o + 6), .ref (o + 7), .int (nI len), .int (d 0), .int (d 2), .int (d 3), .int (nI nc), .int (d 10), .int cold, .int wind])) := by rw [ze39]; rw [va_up_ne _ _ (show o + 2 ≠ o + 61 by omega)]; exact K2
            have zK46 : zh38 (o + 6) = arR κ 1 6 cs := by rw [ze39]; rw [va_up_ne _ _ (show o + 6 ≠ o + 61 by omega)]; exact K3
            have zK47 : zh38 (o + 61) = arI κ 6 (bmp fo 5) := by rw [ze39]; exact va_up_self _ _ _
            have zK48 : zh38 a = some (.inr (0, [.int (nI 0), .int (nI ck), .int (d (20 + 2 * ck + 1))])) := by rw [ze39]; rw [va_up_ne _ _ (show a ≠ o + 61 by omega)]; exact zK6
            have zl49 : ∀ zq : Nat, zq < (o + 76) → zq ≠ (o + 61) → zh38 zq = h zq := by intro zq hzq zn0; rw [ze39, va_up_ne _ _ (show zq ≠ o + 61 by omega)]; try rfl
            have zr50 : Zr κ (o + 76) h zh38 := (Zr.refl).trans (Zr.same (fun zq h1 => by rw [ze39, va_up_ne _ _ (show zq ≠ o + 61 by omega)]))
            refine z_iret X E dX11_as_46 (by omega) (by omega) ⟨?_, ?_, ?_, ?_, ?_⟩
            · rw [opAs_5 (x := 1) (y := 0) hck q5 (by decide) ha4 (by assumption)]; rfl
            · rfl
            · exact fun zq hzq zn0 => zl49 zq hzq zn0
            · exact zr50
            · rw [opAs_5 (x := 1) (y := 0) hck q5 (by decide) ha4 (by assumption)]; exact zK47
          · replace zc37 := b2i_t zc37
            refine z_aload_n X 0 dX11_as_34 rfl ?_
            refine z_get X fl_X11_140_0 dX11_as_35 zK6 rfl ?_
            refine z_goto X 46 dX11_as_38 (by decide) ?_
            refine z_iret X E dX11_as_46 (by omega) (by omega) ⟨?_, ?_, ?_, ?_, ?_⟩
            · rw [opAs_0 (x := 1) (y := 0) hck q5 (by decide) ha4 (by assumption)]; rfl
            · rfl
            · exact fun zq hzq zn0 => rfl
            · exact Zr.refl
            · rw [opAs_0 (x := 1) (y := 0) hck q5 (by decide) ha4 (by assumption)]; exact K4
        · skip
          refine z_aload_n X 0 dX11_as_26 rfl ?_
          refine z_iload_n X 3 dX11_as_27 rfl ?_
          refine z_callS X (c_isOfKind_0_2 (κ := κ) (n := n) (a := (a)) (v1 := (nI 0)) (v2 := (nI ck)) (v3 := (d (20 + 2 * ck + 1))) zK6 ) mk_X11_isOfKind dX11_as_28 wd_425 wd_426 rfl rfl (Nat.le_of_ble_eq_true rfl) (Nat.le_of_ble_eq_true rfl) (Nat.le_of_ble_eq_true rfl) (by omega) (by omega) (fun q zh51 zm53 zp54 => ?_)
          obtain ⟨rfl, ze52, zn55⟩ := zp54
          subst zm53
          subst zh51
          refine z_st (st' := [.int (b2i (isOfP (nI 0) (nI 2)))]) rfl ?_
          refine z_if_eq X 41 dX11_as_31 (by decide) (fun zc56 => ?_) (fun zc56 => ?_)
          · replace zc56 := b2i_f zc56
            refine z_aload_n X 1 dX11_as_41 rfl ?_
            refine z_iconst (v := 5) X dX11_as_42 (by decide) ?_
            refine z_callV X (c_fail (κ := κ) (n := n) (o := (o)) (im := (im)) (fo := (fo)) (k := (5)) K0 K4 (by first | assumption | omega) (by first | assumption | omega)) mk_X11_fail dX11_as_43 wd_260 wd_262 wd_0 rfl K0 rfl rfl rfl (Nat.le_of_ble_eq_true rfl) (Nat.le_of_ble_eq_true rfl) (Nat.le_of_ble_eq_true rfl) (by omega) (by omega) (fun q zh57 zm59 zp60 => ?_)
            obtain ⟨rfl, ze58, zn61⟩ := zp60
            subst zm59
            refine z_st (st' := [.int (lowE 5)]) rfl ?_
            have zK62 : zh57 o = some (.inr (11, [.ref (o + 1), .ref (o + 14), .ref (o + 27), .ref (o + 33), .ref (o + 42), .ref (o + 55), .ref (o + 57), .ref (o + 59), .ref (o + 61), .int im])) := by rw [ze58]; rw [va_up_ne _ _ (show o ≠ o + 61 by omega)]; exact K0
            have zK63 : zh57 (o + 1) = some (.inr (3, [.ref (o + 1 + 1), .ref (o + 1 + 7), .ref (o + 1 + 9), .ref (o + 1 + 11), .int (d 13)])) := by rw [ze58]; rw [va_up_ne _ _ (show o + 1 ≠ o + 61 by omega)]; exact K1
            have zK64 : zh57 (o + 2) = some (.inr (2, [.ref (o + 3), .ref (o + 4), .ref (o + 5), .ref (o + 6), .ref (o + 7), .int (nI len), .int (d 0), .int (d 2), .int (d 3), .int (nI nc), .int (d 10), .int cold, .int wind])) := by rw [ze58]; rw [va_up_ne _ _ (show o + 2 ≠ o + 61 by omega)]; exact K2
            have zK65 : zh57 (o + 6) = arR κ 1 6 cs := by rw [ze58]; rw [va_up_ne _ _ (show o + 6 ≠ o + 61 by omega)]; exact K3
            have zK66 : zh57 (o + 61) = arI κ 6 (bmp fo 5) := by rw [ze58]; exact va_up_self _ _ _
            have zK67 : zh57 a = some (.inr (0, [.int (nI 0), .int (nI ck), .int (d (20 + 2 * ck + 1))])) := by rw [ze58]; rw [va_up_ne _ _ (show a ≠ o + 61 by omega)]; exact zK6
            have zl68 : ∀ zq : Nat, zq < (o + 76) → zq ≠ (o + 61) → zh57 zq = h zq := by intro zq hzq zn0; rw [ze58, va_up_ne _ _ (show zq ≠ o + 61 by omega)]; try rfl
            have zr69 : Zr κ (o + 76) h zh57 := (Zr.refl).trans (Zr.same (fun zq h1 => by rw [ze58, va_up_ne _ _ (show zq ≠ o + 61 by omega)]))
            refine z_iret X E dX11_as_46 (by omega) (by omega) ⟨?_, ?_, ?_, ?_, ?_⟩
            · rw [opAs_5 (x := 2) (y := 0) hck q5 (by decide) ha4 (by assumption)]; rfl
            · rfl
            · exact fun zq hzq zn0 => zl68 zq hzq zn0
            · exact zr69
            · rw [opAs_5 (x := 2) (y := 0) hck q5 (by decide) ha4 (by assumption)]; exact zK66
          · replace zc56 := b2i_t zc56
            refine z_aload_n X 0 dX11_as_34 rfl ?_
            refine z_get X fl_X11_140_0 dX11_as_35 zK6 rfl ?_
            refine z_goto X 46 dX11_as_38 (by decide) ?_
            refine z_iret X E dX11_as_46 (by omega) (by omega) ⟨?_, ?_, ?_, ?_, ?_⟩
            · rw [opAs_0 (x := 2) (y := 0) hck q5 (by decide) ha4 (by assumption)]; rfl
            · rfl
            · exact fun zq hzq zn0 => rfl
            · exact Zr.refl
            · rw [opAs_0 (x := 2) (y := 0) hck q5 (by decide) ha4 (by assumption)]; exact K4
        · skip
          refine z_aload_n X 0 dX11_as_26 rfl ?_
          refine z_iload_n X 3 dX11_as_27 rfl ?_
          refine z_callS X (c_isOfKind_0_3 (κ := κ) (n := n) (a := (a)) (v1 := (nI 0)) (v2 := (nI ck)) (v3 := (d (20 + 2 * ck + 1))) zK6 ) mk_X11_isOfKind dX11_as_28 wd_425 wd_426 rfl rfl (Nat.le_of_ble_eq_true rfl) (Nat.le_of_ble_eq_true rfl) (Nat.le_of_ble_eq_true rfl) (by omega) (by omega) (fun q zh70 zm72 zp73 => ?_)
          obtain ⟨rfl, ze71, zn74⟩ := zp73
          subst zm72
          subst zh70
          refine z_st (st' := [.int (b2i (isOfP (nI 0) (nI 3)))]) rfl ?_
          refine z_if_eq X 41 dX11_as_31 (by decide) (fun zc75 => ?_) (fun zc75 => ?_)
          · replace zc75 := b2i_f zc75
            refine z_aload_n X 1 dX11_as_41 rfl ?_
            refine z_iconst (v := 5) X dX11_as_42 (by decide) ?_
            refine z_callV X (c_fail (κ := κ) (n := n) (o := (o)) (im := (im)) (fo := (fo)) (k := (5)) K0 K4 (by first | assumption | omega) (by first | assumption | omega)) mk_X11_fail dX11_as_43 wd_260 wd_262 wd_0 rfl K0 rfl rfl rfl (Nat.le_of_ble_eq_true rfl) (Nat.le_of_ble_eq_true rfl) (Nat.le_of_ble_eq_true rfl) (by omega) (by omega) (fun q zh76 zm78 zp79 => ?_)
            obtain ⟨rfl, ze77, zn80⟩ := zp79
            subst zm78
            refine z_st (st' := [.int (lowE 5)]) rfl ?_
            have zK81 : zh76 o = some (.inr (11, [.ref (o + 1), .ref (o + 14), .ref (o + 27), .ref (o + 33), .ref (o + 42), .ref (o + 55), .ref (o + 57), .ref (o + 59), .ref (o + 61), .int im])) := by rw [ze77]; rw [va_up_ne _ _ (show o ≠ o + 61 by omega)]; exact K0
            have zK82 : zh76 (o + 1) = some (.inr (3, [.ref (o + 1 + 1), .ref (o + 1 + 7), .ref (o + 1 + 9), .ref (o + 1 + 11), .int (d 13)])) := by rw [ze77]; rw [va_up_ne _ _ (show o + 1 ≠ o + 61 by omega)]; exact K1
            have zK83 : zh76 (o + 2) = some (.inr (2, [.ref (o + 3), .ref (o + 4), .ref (o + 5), .ref (o + 6), .ref (o + 7), .int (nI len), .int (d 0), .int (d 2), .int (d 3), .int (nI nc), .int (d 10), .int cold, .int wind])) := by rw [ze77]; rw [va_up_ne _ _ (show o + 2 ≠ o + 61 by omega)]; exact K2
            have zK84 : zh76 (o + 6) = arR κ 1 6 cs := by rw [ze77]; rw [va_up_ne _ _ (show o + 6 ≠ o + 61 by omega)]; exact K3
            have zK85 : zh76 (o + 61) = arI κ 6 (bmp fo 5) := by rw [ze77]; exact va_up_self _ _ _
            have zK86 : zh76 a = some (.inr (0, [.int (nI 0), .int (nI ck), .int (d (20 + 2 * ck + 1))])) := by rw [ze77]; rw [va_up_ne _ _ (show a ≠ o + 61 by omega)]; exact zK6
            have zl87 : ∀ zq : Nat, zq < (o + 76) → zq ≠ (o + 61) → zh76 zq = h zq := by intro zq hzq zn0; rw [ze77, va_up_ne _ _ (show zq ≠ o + 61 by omega)]; try rfl
            have zr88 : Zr κ (o + 76) h zh76 := (Zr.refl).trans (Zr.same (fun zq h1 => by rw [ze77, va_up_ne _ _ (show zq ≠ o + 61 by omega)]))
            refine z_iret X E dX11_as_46 (by omega) (by omega) ⟨?_, ?_, ?_, ?_, ?_⟩
            · rw [opAs_5 (x := 3) (y := 0) hck q5 (by decide) ha4 (by assumption)]; rfl
            · rfl
            · exact fun zq hzq zn0 => zl87 zq hzq zn0
            · exact zr88
            · rw [opAs_5 (x := 3) (y := 0) hck q5 (by decide) ha4 (by assumption)]; exact zK85
          · replace zc75 := b2i_t zc75
            refine z_aload_n X 0 dX11_as_34 rfl ?_
            refine z_get X fl_X11_140_0 dX11_as_35 zK6 rfl ?_
            refine z_goto X 46 dX11_as_38 (by decide) ?_
            refine z_iret X E dX11_as_46 (by omega) (by omega) ⟨?_, ?_, ?_, ?_, ?_⟩
            · rw [opAs_0 (x := 3) (y := 0) hck q5 (by decide) ha4 (by assumption)]; rfl
            · rfl
            · exact fun zq hzq zn0 => rfl
            · exact Zr.refl
            · rw [opAs_0 (x := 3) (y := 0) hck q5 (by decide) ha4 (by assumption)]; exact K4
        · skip
          refine z_aload_n X 0 dX11_as_26 rfl ?_
          refine z_iload_n X 3 dX11_as_27 rfl ?_
          refine z_callS X (c_isOfKind_0_4 (κ := κ) (n := n) (a := (a)) (v1 := (nI 0)) (v2 := (nI ck)) (v3 := (d (20 + 2 * ck + 1))) zK6 ) mk_X11_isOfKind dX11_as_28 wd_425 wd_426 rfl rfl (Nat.le_of_ble_eq_true rfl) (Nat.le_of_ble_eq_true rfl) (Nat.le_of_ble_eq_true rfl) (by omega) (by omega) (fun q zh89 zm91 zp92 => ?_)
          obtain ⟨rfl, ze90, zn93⟩ := zp92
          subst zm91
          subst zh89
          refine z_st (st' := [.int (b2i (isOfP (nI 0) (nI 4)))]) rfl ?_
          refine z_if_eq X 41 dX11_as_31 (by decide) (fun zc94 => ?_) (fun zc94 => ?_)
          · replace zc94 := b2i_f zc94
            refine z_aload_n X 1 dX11_as_41 rfl ?_
            refine z_iconst (v := 5) X dX11_as_42 (by decide) ?_
            refine z_callV X (c_fail (κ := κ) (n := n) (o := (o)) (im := (im)) (fo := (fo)) (k := (5)) K0 K4 (by first | assumption | omega) (by first | assumption | omega)) mk_X11_fail dX11_as_43 wd_260 wd_262 wd_0 rfl K0 rfl rfl rfl (Nat.le_of_ble_eq_true rfl) (Nat.le_of_ble_eq_true rfl) (Nat.le_of_ble_eq_true rfl) (by omega) (by omega) (fun q zh95 zm97 zp98 => ?_)
            obtain ⟨rfl, ze96, zn99⟩ := zp98
            subst zm97
            refine z_st (st' := [.int (lowE 5)]) rfl ?_
            have zK100 : zh95 o = some (.inr (11, [.ref (o + 1), .ref (o + 14), .ref (o + 27), .ref (o + 33), .ref (o + 42), .ref (o + 55), .ref (o + 57), .ref (o + 59), .ref (o + 61), .int im])) := by rw [ze96]; rw [va_up_ne _ _ (show o ≠ o + 61 by omega)]; exact K0
            have zK101 : zh95 (o + 1) = some (.inr (3, [.ref (o + 1 + 1), .ref (o + 1 + 7), .ref (o + 1 + 9), .ref (o + 1 + 11), .int (d 13)])) := by rw [ze96]; rw [va_up_ne _ _ (show o + 1 ≠ o + 61 by omega)]; exact K1
            have zK102 : zh95 (o + 2) = some (.inr (2, [.ref (o + 3), .ref (o + 4), .ref (o + 5), .ref (o + 6), .ref (o + 7), .int (nI len), .int (d 0), .int (d 2), .int (d 3), .int (nI nc), .int (d 10), .int cold, .int wind])) := by rw [ze96]; rw [va_up_ne _ _ (show o + 2 ≠ o + 61 by omega)]; exact K2
            have zK103 : zh95 (o + 6) = arR κ 1 6 cs := by rw [ze96]; rw [va_up_ne _ _ (show o + 6 ≠ o + 61 by omega)]; exact K3
            have zK104 : zh95 (o + 61) = arI κ 6 (bmp fo 5) := by rw [ze96]; exact va_up_self _ _ _
            have zK105 : zh95 a = some (.inr (0, [.int (nI 0), .int (nI ck), .int (d (20 + 2 * ck + 1))])) := by rw [ze96]; rw [va_up_ne _ _ (show a ≠ o + 61 by omega)]; exact zK6
            have zl106 : ∀ zq : Nat, zq < (o + 76) → zq ≠ (o + 61) → zh95 zq = h zq := by intro zq hzq zn0; rw [ze96, va_up_ne _ _ (show zq ≠ o + 61 by omega)]; try rfl
            have zr107 : Zr κ (o + 76) h zh95 := (Zr.refl).trans (Zr.same (fun zq h1 => by rw [ze96, va_up_ne _ _ (show zq ≠ o + 61 by omega)]))
            refine z_iret X E dX11_as_46 (by omega) (by omega) ⟨?_, ?_, ?_, ?_, ?_⟩
            · rw [opAs_5 (x := 4) (y := 0) hck q5 (by decide) ha4 (by assumption)]; rfl
            · rfl
            · exact fun zq hzq zn0 => zl106 zq hzq zn0
            · exact zr107
            · rw [opAs_5 (x := 4) (y := 0) hck q5 (by decide) ha4 (by assumption)]; exact zK104
          · replace zc94 := b2i_t zc94
            refine z_aload_n X 0 dX11_as_34 rfl ?_
            refine z_get X fl_X11_140_0 dX11_as_35 zK6 rfl ?_
            refine z_goto X 46 dX11_as_38 (by decide) ?_
            refine z_iret X E dX11_as_46 (by omega) (by omega) ⟨?_, ?_, ?_, ?_, ?_⟩
            · rw [opAs_0 (x := 4) (y := 0) hck q5 (by decide) ha4 (by assumption)]; rfl
            · rfl
            · exact fun zq hzq zn0 => rfl
            · exact Zr.refl
            · rw [opAs_0 (x := 4) (y := 0) hck q5 (by decide) ha4 (by assumption)]; exact K4
        · skip
          refine z_aload_n X 0 dX11_as_26 rfl ?_
          refine z_iload_n X 3 dX11_as_27 rfl ?_
          refine z_callS X (c_isOfKind_0_5 (κ := κ) (n := n) (a := (a)) (v1 := (nI 0)) (v2 := (nI ck)) (v3 := (d (20 + 2 * ck + 1))) zK6 ) mk_X11_isOfKind dX11_as_28 wd_425 wd_426 rfl rfl (Nat.le_of_ble_eq_true rfl) (Nat.le_of_ble_eq_true rfl) (Nat.le_of_ble_eq_true rfl) (by omega) (by omega) (fun q zh108 zm110 zp111 => ?_)
          obtain ⟨rfl, ze109, zn112⟩ := zp111
          subst zm110
          subst zh108
          refine z_st (st' := [.int (b2i (isOfP (nI 0) (nI 5)))]) rfl ?_
          refine z_if_eq X 41 dX11_as_31 (by decide) (fun zc113 => ?_) (fun zc113 => ?_)
          · replace zc113 := b2i_f zc113
            refine z_aload_n X 1 dX11_as_41 rfl ?_
            refine z_iconst (v := 5) X dX11_as_42 (by decide) ?_
            refine z_callV X (c_fail (κ := κ) (n := n) (o := (o)) (im := (im)) (fo := (fo)) (k := (5)) K0 K4 (by first | assumption | omega) (by first | assumption | omega)) mk_X11_fail dX11_as_43 wd_260 wd_262 wd_0 rfl K0 rfl rfl rfl (Nat.le_of_ble_eq_true rfl) (Nat.le_of_ble_eq_true rfl) (Nat.le_of_ble_eq_true rfl) (by omega) (by omega) (fun q zh114 zm116 zp117 => ?_)
            obtain ⟨rfl, ze115, zn118⟩ := zp117
            subst zm116
            refine z_st (st' := [.int (lowE 5)]) rfl ?_
            have zK119 : zh114 o = some (.inr (11, [.ref (o + 1), .ref (o + 14), .ref (o + 27), .ref (o + 33), .ref (o + 42), .ref (o + 55), .ref (o + 57), .ref (o + 59), .ref (o + 61), .int im])) := by rw [ze115]; rw [va_up_ne _ _ (show o ≠ o + 61 by omega)]; exact K0
            have zK120 : zh114 (o + 1) = some (.inr (3, [.ref (o + 1 + 1), .ref (o + 1 + 7), .ref (o + 1 + 9), .ref (o + 1 + 11), .int (d 13)])) := by rw [ze115]; rw [va_up_ne _ _ (show o + 1 ≠ o + 61 by omega)]; exact K1
            have zK121 : zh114 (o + 2) = some (.inr (2, [.ref (o + 3), .ref (o + 4), .ref (o + 5), .ref (o + 6), .ref (o + 7), .int (nI len), .int (d 0), .int (d 2), .int (d 3), .int (nI nc), .int (d 10), .int cold, .int wind])) := by rw [ze115]; rw [va_up_ne _ _ (show o + 2 ≠ o + 61 by omega)]; exact K2
            have zK122 : zh114 (o + 6) = arR κ 1 6 cs := by rw [ze115]; rw [va_up_ne _ _ (show o + 6 ≠ o + 61 by omega)]; exact K3
            have zK123 : zh114 (o + 61) = arI κ 6 (bmp fo 5) := by rw [ze115]; exact va_up_self _ _ _
            have zK124 : zh114 a = some (.inr (0, [.int (nI 0), .int (nI ck), .int (d (20 + 2 * ck + 1))])) := by rw [ze115]; rw [va_up_ne _ _ (show a ≠ o + 61 by omega)]; exact zK6
            have zl125 : ∀ zq : Nat, zq < (o + 76) → zq ≠ (o + 61) → zh114 zq = h zq := by intro zq hzq zn0; rw [ze115, va_up_ne _ _ (show zq ≠ o + 61 by omega)]; try rfl
            have zr126 : Zr κ (o + 76) h zh114 := (Zr.refl).trans (Zr.same (fun zq h1 => by rw [ze115, va_up_ne _ _ (show zq ≠ o + 61 by omega)]))
            refine z_iret X E dX11_as_46 (by omega) (by omega) ⟨?_, ?_, ?_, ?_, ?_⟩
            · rw [opAs_5 (x := 5) (y := 0) hck q5 (by decide) ha4 (by assumption)]; rfl
            · rfl
            · exact fun zq hzq zn0 => zl125 zq hzq zn0
            · exact zr126
            · rw [opAs_5 (x := 5) (y := 0) hck q5 (by decide) ha4 (by assumption)]; exact zK123
          · replace zc113 := b2i_t zc113
            refine z_aload_n X 0 dX11_as_34 rfl ?_
            refine z_get X fl_X11_140_0 dX11_as_35 zK6 rfl ?_
            refine z_goto X 46 dX11_as_38 (by decide) ?_
            refine z_iret X E dX11_as_46 (by omega) (by omega) ⟨?_, ?_, ?_, ?_, ?_⟩
            · rw [opAs_0 (x := 5) (y := 0) hck q5 (by decide) ha4 (by assumption)]; rfl
            · rfl
            · exact fun zq hzq zn0 => rfl
            · exact Zr.refl
            · rw [opAs_0 (x := 5) (y := 0) hck q5 (by decide) ha4 (by assumption)]; exact K4
        · skip
          refine z_aload_n X 0 dX11_as_26 rfl ?_
          refine z_iload_n X 3 dX11_as_27 rfl ?_
          refine z_callS X (c_isOfKind_0_6 (κ := κ) (n := n) (a := (a)) (v1 := (nI 0)) (v2 := (nI ck)) (v3 := (d (20 + 2 * ck + 1))) zK6 ) mk_X11_isOfKind dX11_as_28 wd_425 wd_426 rfl rfl (Nat.le_of_ble_eq_true rfl) (Nat.le_of_ble_eq_true rfl) (Nat.le_of_ble_eq_true rfl) (by omega) (by omega) (fun q zh127 zm129 zp130 => ?_)
          obtain ⟨rfl, ze128, zn131⟩ := zp130
          subst zm129
          subst zh127
          refine z_st (st' := [.int (b2i (isOfP (nI 0) (nI 6)))]) rfl ?_
          refine z_if_eq X 41 dX11_as_31 (by decide) (fun zc132 => ?_) (fun zc132 => ?_)
          · replace zc132 := b2i_f zc132
            refine z_aload_n X 1 dX11_as_41 rfl ?_
            refine z_iconst (v := 5) X dX11_as_42 (by decide) ?_
            refine z_callV X (c_fail (κ := κ) (n := n) (o := (o)) (im := (im)) (fo := (fo)) (k := (5)) K0 K4 (by first | assumption | omega) (by first | assumption | omega)) mk_X11_fail dX11_as_43 wd_260 wd_262 wd_0 rfl K0 rfl rfl rfl (Nat.le_of_ble_eq_true rfl) (Nat.le_of_ble_eq_true rfl) (Nat.le_of_ble_eq_true rfl) (by omega) (by omega) (fun q zh133 zm135 zp136 => ?_)
            obtain ⟨rfl, ze134, zn137⟩ := zp136
            subst zm135
            refine z_st (st' := [.int (lowE 5)]) rfl ?_
            have zK138 : zh133 o = some (.inr (11, [.ref (o + 1), .ref (o + 14), .ref (o + 27), .ref (o + 33), .ref (o + 42), .ref (o + 55), .ref (o + 57), .ref (o + 59), .ref (o + 61), .int im])) := by rw [ze134]; rw [va_up_ne _ _ (show o ≠ o + 61 by omega)]; exact K0
            have zK139 : zh133 (o + 1) = some (.inr (3, [.ref (o + 1 + 1), .ref (o + 1 + 7), .ref (o + 1 + 9), .ref (o + 1 + 11), .int (d 13)])) := by rw [ze134]; rw [va_up_ne _ _ (show o + 1 ≠ o + 61 by omega)]; exact K1
            have zK140 : zh133 (o + 2) = some (.inr (2, [.ref (o + 3), .ref (o + 4), .ref (o + 5), .ref (o + 6), .ref (o + 7), .int (nI len), .int (d 0), .int (d 2), .int (d 3), .int (nI nc), .int (d 10), .int cold, .int wind])) := by rw [ze134]; rw [va_up_ne _ _ (show o + 2 ≠ o + 61 by omega)]; exact K2
            have zK141 : zh133 (o + 6) = arR κ 1 6 cs := by rw [ze134]; rw [va_up_ne _ _ (show o + 6 ≠ o + 61 by omega)]; exact K3
            have zK142 : zh133 (o + 61) = arI κ 6 (bmp fo 5) := by rw [ze134]; exact va_up_self _ _ _
            have zK143 : zh133 a = some (.inr (0, [.int (nI 0), .int (nI ck), .int (d (20 + 2 * ck + 1))])) := by rw [ze134]; rw [va_up_ne _ _ (show a ≠ o + 61 by omega)]; exact zK6
            have zl144 : ∀ zq : Nat, zq < (o + 76) → zq ≠ (o + 61) → zh133 zq = h zq := by intro zq hzq zn0; rw [ze134, va_up_ne _ _ (show zq ≠ o + 61 by omega)]; try rfl
            have zr145 : Zr κ (o + 76) h zh133 := (Zr.refl).trans (Zr.same (fun zq h1 => by rw [ze134, va_up_ne _ _ (show zq ≠ o + 61 by omega)]))
            refine z_iret X E dX11_as_46 (by omega) (by omega) ⟨?_, ?_, ?_, ?_, ?_⟩
            · rw [opAs_5 (x := 6) (y := 0) hck q5 (by decide) ha4 (by assumption)]; rfl
            · rfl
            · exact fun zq hzq zn0 => zl144 zq hzq zn0
            · exact zr145
            · rw [opAs_5 (x := 6) (y := 0) hck q5 (by decide) ha4 (by assumption)]; exact zK142
          · replace zc132 := b2i_t zc132
            refine z_aload_n X 0 dX11_as_34 rfl ?_
            refine z_get X fl_X11_140_0 dX11_as_35 zK6 rfl ?_
            refine z_goto X 46 dX11_as_38 (by decide) ?_
            refine z_iret X E dX11_as_46 (by omega) (by omega) ⟨?_, ?_, ?_, ?_, ?_⟩
            · rw [opAs_0 (x := 6) (y := 0) hck q5 (by decide) ha4 (by assumption)]; rfl
            · rfl
            · exact fun zq hzq zn0 => rfl
            · exact Zr.refl
            · rw [opAs_0 (x := 6) (y := 0) hck q5 (by decide) ha4 (by assumption)]; exact K4
      · replace zc12 := b2i_f zc12
        refine z_aload_n X 1 dX11_as_20 rfl ?_
        refine z_iconst (v := 1) X dX11_as_21 (by decide) ?_
        refine z_callV X (c_fail (κ := κ) (n := n) (o := (o)) (im := (im)) (fo := (fo)) (k := (1)) K0 K4 (by first | assumption | omega) (by first | assumption | omega)) mk_X11_fail dX11_as_22 wd_260 wd_262 wd_0 rfl K0 rfl rfl rfl (Nat.le_of_ble_eq_true rfl) (Nat.le_of_ble_eq_true rfl) (Nat.le_of_ble_eq_true rfl) (by omega) (by omega) (fun q zh146 zm148 zp149 => ?_)
        obtain ⟨rfl, ze147, zn150⟩ := zp149
        subst zm148
        refine z_st (st' := [.int (lowE 1)]) rfl ?_
        have zK151 : zh146 o = some (.inr (11, [.ref (o + 1), .ref (o + 14), .ref (o + 27), .ref (o + 33), .ref (o + 42), .ref (o + 55), .ref (o + 57), .ref (o + 59), .ref (o + 61), .int im])) := by rw [ze147]; rw [va_up_ne _ _ (show o ≠ o + 61 by omega)]; exact K0
        have zK152 : zh146 (o + 1) = some (.inr (3, [.ref (o + 1 + 1), .ref (o + 1 + 7), .ref (o + 1 + 9), .ref (o + 1 + 11), .int (d 13)])) := by rw [ze147]; rw [va_up_ne _ _ (show o + 1 ≠ o + 61 by omega)]; exact K1
        have zK153 : zh146 (o + 2) = some (.inr (2, [.ref (o + 3), .ref (o + 4), .ref (o + 5), .ref (o + 6), .ref (o + 7), .int (nI len), .int (d 0), .int (d 2), .int (d 3), .int (nI nc), .int (d 10), .int cold, .int wind])) := by rw [ze147]; rw [va_up_ne _ _ (show o + 2 ≠ o + 61 by omega)]; exact K2
        have zK154 : zh146 (o + 6) = arR κ 1 6 cs := by rw [ze147]; rw [va_up_ne _ _ (show o + 6 ≠ o + 61 by omega)]; exact K3
        have zK155 : zh146 (o + 61) = arI κ 6 (bmp fo 1) := by rw [ze147]; exact va_up_self _ _ _
        have zK156 : zh146 a = some (.inr (0, [.int (nI 0), .int (nI ck), .int (d (20 + 2 * ck + 1))])) := by rw [ze147]; rw [va_up_ne _ _ (show a ≠ o + 61 by omega)]; exact zK6
        have zl157 : ∀ zq : Nat, zq < (o + 76) → zq ≠ (o + 61) → zh146 zq = h zq := by intro zq hzq zn0; rw [ze147, va_up_ne _ _ (show zq ≠ o + 61 by omega)]; try rfl
        have zr158 : Zr κ (o + 76) h zh146 := (Zr.refl).trans (Zr.same (fun zq h1 => by rw [ze147, va_up_ne _ _ (show zq ≠ o + 61 by omega)]))
        refine z_iret X E dX11_as_25 (by omega) (by omega) ⟨?_, ?_, ?_, ?_, ?_⟩
        · rw [opAs_e (fun zq => (by assumption : ¬ (0 ≤ w.toInt ∧ w.toInt ≤ 6)) zq.2.2)]; rfl
        · rfl
        · exact fun zq hzq zn0 => zl157 zq hzq zn0
        · exact zr158
        · rw [opAs_e (fun zq => (by assumption : ¬ (0 ≤ w.toInt ∧ w.toInt ≤ 6)) zq.2.2)]; exact zK155
    · skip
      have zK159 : h a = some (.inr (10, [.int (nI 1), .int (nI ck), .int (d (20 + 2 * ck + 1))])) := ha5
      refine z_astore_n (ls' := [(3, .ref a), (0, .ref o), (1, .int (nI ck)), (2, .int w)]) X dX11_as_5 (by decide) rfl ?_
      refine z_aload_n X 0 dX11_as_6 rfl ?_
      refine z_ifnull X dX11_as_7 ?_
      refine z_iload_n X 3 dX11_as_10 rfl ?_
      refine z_iconst (v := 0) X dX11_as_11 (by decide) ?_
      refine z_bipush (v := 6) X dX11_as_12 (by decide) ?_
      refine z_callS X (c_within (κ := κ) (n := n) (v := (w)) (lo := (0)) (hi := (6))  ) mk_X11_within dX11_as_14 wd_259 wd_257 rfl rfl (Nat.le_of_ble_eq_true rfl) (Nat.le_of_ble_eq_true rfl) (Nat.le_of_ble_eq_true rfl) (by omega) (by omega) (fun q zh160 zm162 zp163 => ?_)
      obtain ⟨rfl, ze161, zn164⟩ := zp163
      subst zm162
      subst zh160
      refine z_st (st' := [.int (b2i ((0 : Int32).toInt ≤ (w : Int32).toInt ∧ (w : Int32).toInt ≤ (6 : Int32).toInt))]) rfl ?_
      refine z_toe (y := b2i (0 ≤ w.toInt ∧ w.toInt ≤ 6)) (by simp only [show (0 : Int32).toInt = 0 by decide, show (6 : Int32).toInt = 6 by decide]) ?_
      refine z_if_ne X 26 dX11_as_17 (by decide) (fun zc165 => ?_) (fun zc165 => ?_)
      · replace zc165 := b2i_t zc165
        obtain ⟨wq, hwq, rfl⟩ := ix_of (c := w) (len := 7) (by omega) (by omega)
        rcases lt7 hwq with rfl | rfl | rfl | rfl | rfl | rfl | rfl
        · skip
          refine z_aload_n X 0 dX11_as_26 rfl ?_
          refine z_iload_n X 3 dX11_as_27 rfl ?_
          refine z_callS X (c_isOfKind_1_0 (κ := κ) (n := n) (a := (a)) (v1 := (nI 1)) (v2 := (nI ck)) (v3 := (d (20 + 2 * ck + 1))) zK159 ) mk_X11_isOfKind dX11_as_28 wd_425 wd_426 rfl rfl (Nat.le_of_ble_eq_true rfl) (Nat.le_of_ble_eq_true rfl) (Nat.le_of_ble_eq_true rfl) (by omega) (by omega) (fun q zh166 zm168 zp169 => ?_)
          obtain ⟨rfl, ze167, zn170⟩ := zp169
          subst zm168
          subst zh166
          refine z_st (st' := [.int (b2i (isOfP (nI 1) (nI 0)))]) rfl ?_
          refine z_if_eq X 41 dX11_as_31 (by decide) (fun zc171 => ?_) (fun zc171 => ?_)
          · replace zc171 := b2i_f zc171
            refine z_aload_n X 1 dX11_as_41 rfl ?_
            refine z_iconst (v := 5) X dX11_as_42 (by decide) ?_
            refine z_callV X (c_fail (κ := κ) (n := n) (o := (o)) (im := (im)) (fo := (fo)) (k := (5)) K0 K4 (by first | assumption | omega) (by first | assumption | omega)) mk_X11_fail dX11_as_43 wd_260 wd_262 wd_0 rfl K0 rfl rfl rfl (Nat.le_of_ble_eq_true rfl) (Nat.le_of_ble_eq_true rfl) (Nat.le_of_ble_eq_true rfl) (by omega) (by omega) (fun q zh172 zm174 zp175 => ?_)
            obtain ⟨rfl, ze173, zn176⟩ := zp175
            subst zm174
            refine z_st (st' := [.int (lowE 5)]) rfl ?_
            have zK177 : zh172 o = some (.inr (11, [.ref (o + 1), .ref (o + 14), .ref (o + 27), .ref (o + 33), .ref (o + 42), .ref (o + 55), .ref (o + 57), .ref (o + 59), .ref (o + 61), .int im])) := by rw [ze173]; rw [va_up_ne _ _ (show o ≠ o + 61 by omega)]; exact K0
            have zK178 : zh172 (o + 1) = some (.inr (3, [.ref (o + 1 + 1), .ref (o + 1 + 7), .ref (o + 1 + 9), .ref (o + 1 + 11), .int (d 13)])) := by rw [ze173]; rw [va_up_ne _ _ (show o + 1 ≠ o + 61 by omega)]; exact K1
            have zK179 : zh172 (o + 2) = some (.inr (2, [.ref (o + 3), .ref (o + 4), .ref (o + 5), .ref (o + 6), .ref (o + 7), .int (nI len), .int (d 0), .int (d 2), .int (d 3), .int (nI nc), .int (d 10), .int cold, .int wind])) := by rw [ze173]; rw [va_up_ne _ _ (show o + 2 ≠ o + 61 by omega)]; exact K2
            have zK180 : zh172 (o + 6) = arR κ 1 6 cs := by rw [ze173]; rw [va_up_ne _ _ (show o + 6 ≠ o + 61 by omega)]; exact K3
            have zK181 : zh172 (o + 61) = arI κ 6 (bmp fo 5) := by rw [ze173]; exact va_up_self _ _ _
            have zK182 : zh172 a = some (.inr (10, [.int (nI 1), .int (nI ck), .int (d (20 + 2 * ck + 1))])) := by rw [ze173]; rw [va_up_ne _ _ (show a ≠ o + 61 by omega)]; exact zK159
            have zl183 : ∀ zq : Nat, zq < (o + 76) → zq ≠ (o + 61) → zh172 zq = h zq := by intro zq hzq zn0; rw [ze173, va_up_ne _ _ (show zq ≠ o + 61 by omega)]; try rfl
            have zr184 : Zr κ (o + 76) h zh172 := (Zr.refl).trans (Zr.same (fun zq h1 => by rw [ze173, va_up_ne _ _ (show zq ≠ o + 61 by omega)]))
            refine z_iret X E dX11_as_46 (by omega) (by omega) ⟨?_, ?_, ?_, ?_, ?_⟩
            · rw [opAs_5 (x := 0) (y := 1) hck q5 (by decide) ha4 (by assumption)]; rfl
            · rfl
            · exact fun zq hzq zn0 => zl183 zq hzq zn0
            · exact zr184
            · rw [opAs_5 (x := 0) (y := 1) hck q5 (by decide) ha4 (by assumption)]; exact zK181
          · replace zc171 := b2i_t zc171
            refine z_aload_n X 0 dX11_as_34 rfl ?_
            refine z_get X fl_X11_140_10 dX11_as_35 zK159 rfl ?_
            refine z_goto X 46 dX11_as_38 (by decide) ?_
            refine z_iret X E dX11_as_46 (by omega) (by omega) ⟨?_, ?_, ?_, ?_, ?_⟩
            · rw [opAs_0 (x := 0) (y := 1) hck q5 (by decide) ha4 (by assumption)]; rfl
            · rfl
            · exact fun zq hzq zn0 => rfl
            · exact Zr.refl
            · rw [opAs_0 (x := 0) (y := 1) hck q5 (by decide) ha4 (by assumption)]; exact K4
        · skip
          refine z_aload_n X 0 dX11_as_26 rfl ?_
          refine z_iload_n X 3 dX11_as_27 rfl ?_
          refine z_callS X (c_isOfKind_1_1 (κ := κ) (n := n) (a := (a)) (v1 := (nI 1)) (v2 := (nI ck)) (v3 := (d (20 + 2 * ck + 1))) zK159 ) mk_X11_isOfKind dX11_as_28 wd_425 wd_426 rfl rfl (Nat.le_of_ble_eq_true rfl) (Nat.le_of_ble_eq_true rfl) (Nat.le_of_ble_eq_true rfl) (by omega) (by omega) (fun q zh185 zm187 zp188 => ?_)
          obtain ⟨rfl, ze186, zn189⟩ := zp188
          subst zm187
          subst zh185
          refine z_st (st' := [.int (b2i (isOfP (nI 1) (nI 1)))]) rfl ?_
          refine z_if_eq X 41 dX11_as_31 (by decide) (fun zc190 => ?_) (fun zc190 => ?_)
          · replace zc190 := b2i_f zc190
            refine z_aload_n X 1 dX11_as_41 rfl ?_
            refine z_iconst (v := 5) X dX11_as_42 (by decide) ?_
            refine z_callV X (c_fail (κ := κ) (n := n) (o := (o)) (im := (im)) (fo := (fo)) (k := (5)) K0 K4 (by first | assumption | omega) (by first | assumption | omega)) mk_X11_fail dX11_as_43 wd_260 wd_262 wd_0 rfl K0 rfl rfl rfl (Nat.le_of_ble_eq_true rfl) (Nat.le_of_ble_eq_true rfl) (Nat.le_of_ble_eq_true rfl) (by omega) (by omega) (fun q zh191 zm193 zp194 => ?_)
            obtain ⟨rfl, ze192, zn195⟩ := zp194
            subst zm193
            refine z_st (st' := [.int (lowE 5)]) rfl ?_
            have zK196 : zh191 o = some (.inr (11, [.ref (o + 1), .ref (o + 14), .ref (o + 27), .ref (o + 33), .ref (o + 42), .ref (o + 55), .ref (o + 57), .ref (o + 59), .ref (o + 61), .int im])) := by rw [ze192]; rw [va_up_ne _ _ (show o ≠ o + 61 by omega)]; exact K0
            have zK197 : zh191 (o + 1) = some (.inr (3, [.ref (o + 1 + 1), .ref (o + 1 + 7), .ref (o + 1 + 9), .ref (o + 1 + 11), .int (d 13)])) := by rw [ze192]; rw [va_up_ne _ _ (show o + 1 ≠ o + 61 by omega)]; exact K1
            have zK198 : zh191 (o + 2) = some (.inr (2, [.ref (o + 3), .ref (o + 4), .ref (o + 5), .ref (o + 6), .ref (o + 7), .int (nI len), .int (d 0), .int (d 2), .int (d 3), .int (nI nc), .int (d 10), .int cold, .int wind])) := by rw [ze192]; rw [va_up_ne _ _ (show o + 2 ≠ o + 61 by omega)]; exact K2
            have zK199 : zh191 (o + 6) = arR κ 1 6 cs := by rw [ze192]; rw [va_up_ne _ _ (show o + 6 ≠ o + 61 by omega)]; exact K3
            have zK200 : zh191 (o + 61) = arI κ 6 (bmp fo 5) := by rw [ze192]; exact va_up_self _ _ _
            have zK201 : zh191 a = some (.inr (10, [.int (nI 1), .int (nI ck), .int (d (20 + 2 * ck + 1))])) := by rw [ze192]; rw [va_up_ne _ _ (show a ≠ o + 61 by omega)]; exact zK159
            have zl202 : ∀ zq : Nat, zq < (o + 76) → zq ≠ (o + 61) → zh191 zq = h zq := by intro zq hzq zn0; rw [ze192, va_up_ne _ _ (show zq ≠ o + 61 by omega)]; try rfl
            have zr203 : Zr κ (o + 76) h zh191 := (Zr.refl).trans (Zr.same (fun zq h1 => by rw [ze192, va_up_ne _ _ (show zq ≠ o + 61 by omega)]))
            refine z_iret X E dX11_as_46 (by omega) (by omega) ⟨?_, ?_, ?_, ?_, ?_⟩
            · rw [opAs_5 (x := 1) (y := 1) hck q5 (by decide) ha4 (by assumption)]; rfl
            · rfl
            · exact fun zq hzq zn0 => zl202 zq hzq zn0
            · exact zr203
            · rw [opAs_5 (x := 1) (y := 1) hck q5 (by decide) ha4 (by assumption)]; exact zK200
          · replace zc190 := b2i_t zc190
            refine z_aload_n X 0 dX11_as_34 rfl ?_
            refine z_get X fl_X11_140_10 dX11_as_35 zK159 rfl ?_
            refine z_goto X 46 dX11_as_38 (by decide) ?_
            refine z_iret X E dX11_as_46 (by omega) (by omega) ⟨?_, ?_, ?_, ?_, ?_⟩
            · rw [opAs_0 (x := 1) (y := 1) hck q5 (by decide) ha4 (by assumption)]; rfl
            · rfl
            · exact fun zq hzq zn0 => rfl
            · exact Zr.refl
            · rw [opAs_0 (x := 1) (y := 1) hck q5 (by decide) ha4 (by assumption)]; exact K4
        · skip
          refine z_aload_n X 0 dX11_as_26 rfl ?_
          refine z_iload_n X 3 dX11_as_27 rfl ?_
          refine z_callS X (c_isOfKind_1_2 (κ := κ) (n := n) (a := (a)) (v1 := (nI 1)) (v2 := (nI ck)) (v3 := (d (20 + 2 * ck + 1))) zK159 ) mk_X11_isOfKind dX11_as_28 wd_425 wd_426 rfl rfl (Nat.le_of_ble_eq_true rfl) (Nat.le_of_ble_eq_true rfl) (Nat.le_of_ble_eq_true rfl) (by omega) (by omega) (fun q zh204 zm206 zp207 => ?_)
          obtain ⟨rfl, ze205, zn208⟩ := zp207
          subst zm206
          subst zh204
          refine z_st (st' := [.int (b2i (isOfP (nI 1) (nI 2)))]) rfl ?_
          refine z_if_eq X 41 dX11_as_31 (by decide) (fun zc209 => ?_) (fun zc209 => ?_)
          · replace zc209 := b2i_f zc209
            refine z_aload_n X 1 dX11_as_41 rfl ?_
            refine z_iconst (v := 5) X dX11_as_42 (by decide) ?_
            refine z_callV X (c_fail (κ := κ) (n := n) (o := (o)) (im := (im)) (fo := (fo)) (k := (5)) K0 K4 (by first | assumption | omega) (by first | assumption | omega)) mk_X11_fail dX11_as_43 wd_260 wd_262 wd_0 rfl K0 rfl rfl rfl (Nat.le_of_ble_eq_true rfl) (Nat.le_of_ble_eq_true rfl) (Nat.le_of_ble_eq_true rfl) (by omega) (by omega) (fun q zh210 zm212 zp213 => ?_)
            obtain ⟨rfl, ze211, zn214⟩ := zp213
            subst zm212
            refine z_st (st' := [.int (lowE 5)]) rfl ?_
            have zK215 : zh210 o = some (.inr (11, [.ref (o + 1), .ref (o + 14), .ref (o + 27), .ref (o + 33), .ref (o + 42), .ref (o + 55), .ref (o + 57), .ref (o + 59), .ref (o + 61), .int im])) := by rw [ze211]; rw [va_up_ne _ _ (show o ≠ o + 61 by omega)]; exact K0
            have zK216 : zh210 (o + 1) = some (.inr (3, [.ref (o + 1 + 1), .ref (o + 1 + 7), .ref (o + 1 + 9), .ref (o + 1 + 11), .int (d 13)])) := by rw [ze211]; rw [va_up_ne _ _ (show o + 1 ≠ o + 61 by omega)]; exact K1
            have zK217 : zh210 (o + 2) = some (.inr (2, [.ref (o + 3), .ref (o + 4), .ref (o + 5), .ref (o + 6), .ref (o + 7), .int (nI len), .int (d 0), .int (d 2), .int (d 3), .int (nI nc), .int (d 10), .int cold, .int wind])) := by rw [ze211]; rw [va_up_ne _ _ (show o + 2 ≠ o + 61 by omega)]; exact K2
            have zK218 : zh210 (o + 6) = arR κ 1 6 cs := by rw [ze211]; rw [va_up_ne _ _ (show o + 6 ≠ o + 61 by omega)]; exact K3
            have zK219 : zh210 (o + 61) = arI κ 6 (bmp fo 5) := by rw [ze211]; exact va_up_self _ _ _
            have zK220 : zh210 a = some (.inr (10, [.int (nI 1), .int (nI ck), .int (d (20 + 2 * ck + 1))])) := by rw [ze211]; rw [va_up_ne _ _ (show a ≠ o + 61 by omega)]; exact zK159
            have zl221 : ∀ zq : Nat, zq < (o + 76) → zq ≠ (o + 61) → zh210 zq = h zq := by intro zq hzq zn0; rw [ze211, va_up_ne _ _ (show zq ≠ o + 61 by omega)]; try rfl
            have zr222 : Zr κ (o + 76) h zh210 := (Zr.refl).trans (Zr.same (fun zq h1 => by rw [ze211, va_up_ne _ _ (show zq ≠ o + 61 by omega)]))
            refine z_iret X E dX11_as_46 (by omega) (by omega) ⟨?_, ?_, ?_, ?_, ?_⟩
            · rw [opAs_5 (x := 2) (y := 1) hck q5 (by decide) ha4 (by assumption)]; rfl
            · rfl
            · exact fun zq hzq zn0 => zl221 zq hzq zn0
            · exact zr222
            · rw [opAs_5 (x := 2) (y := 1) hck q5 (by decide) ha4 (by assumption)]; exact zK219
          · replace zc209 := b2i_t zc209
            refine z_aload_n X 0 dX11_as_34 rfl ?_
            refine z_get X fl_X11_140_10 dX11_as_35 zK159 rfl ?_
            refine z_goto X 46 dX11_as_38 (by decide) ?_
            refine z_iret X E dX11_as_46 (by omega) (by omega) ⟨?_, ?_, ?_, ?_, ?_⟩
            · rw [opAs_0 (x := 2) (y := 1) hck q5 (by decide) ha4 (by assumption)]; rfl
            · rfl
            · exact fun zq hzq zn0 => rfl
            · exact Zr.refl
            · rw [opAs_0 (x := 2) (y := 1) hck q5 (by decide) ha4 (by assumption)]; exact K4
        · skip
          refine z_aload_n X 0 dX11_as_26 rfl ?_
          refine z_iload_n X 3 dX11_as_27 rfl ?_
          refine z_callS X (c_isOfKind_1_3 (κ := κ) (n := n) (a := (a)) (v1 := (nI 1)) (v2 := (nI ck)) (v3 := (d (20 + 2 * ck + 1))) zK159 ) mk_X11_isOfKind dX11_as_28 wd_425 wd_426 rfl rfl (Nat.le_of_ble_eq_true rfl) (Nat.le_of_ble_eq_true rfl) (Nat.le_of_ble_eq_true rfl) (by omega) (by omega) (fun q zh223 zm225 zp226 => ?_)
          obtain ⟨rfl, ze224, zn227⟩ := zp226
          subst zm225
          subst zh223
          refine z_st (st' := [.int (b2i (isOfP (nI 1) (nI 3)))]) rfl ?_
          refine z_if_eq X 41 dX11_as_31 (by decide) (fun zc228 => ?_) (fun zc228 => ?_)
          · replace zc228 := b2i_f zc228
            refine z_aload_n X 1 dX11_as_41 rfl ?_
            refine z_iconst (v := 5) X dX11_as_42 (by decide) ?_
            refine z_callV X (c_fail (κ := κ) (n := n) (o := (o)) (im := (im)) (fo := (fo)) (k := (5)) K0 K4 (by first | assumption | omega) (by first | assumption | omega)) mk_X11_fail dX11_as_43 wd_260 wd_262 wd_0 rfl K0 rfl rfl rfl (Nat.le_of_ble_eq_true rfl) (Nat.le_of_ble_eq_true rfl) (Nat.le_of_ble_eq_true rfl) (by omega) (by omega) (fun q zh229 zm231 zp232 => ?_)
            obtain ⟨rfl, ze230, zn233⟩ := zp232
            subst zm231
            refine z_st (st' := [.int (lowE 5)]) rfl ?_
            have zK234 : zh229 o = some (.inr (11, [.ref (o + 1), .ref (o + 14), .ref (o + 27), .ref (o + 33), .ref (o + 42), .ref (o + 55), .ref (o + 57), .ref (o + 59), .ref (o + 61), .int im])) := by rw [ze230]; rw [va_up_ne _ _ (show o ≠ o + 61 by omega)]; exact K0
            have zK235 : zh229 (o + 1) = some (.inr (3, [.ref (o + 1 + 1), .ref (o + 1 + 7), .ref (o + 1 + 9), .ref (o + 1 + 11), .int (d 13)])) := by rw [ze230]; rw [va_up_ne _ _ (show o + 1 ≠ o + 61 by omega)]; exact K1
            have zK236 : zh229 (o + 2) = some (.inr (2, [.ref (o + 3), .ref (o + 4), .ref (o + 5), .ref (o + 6), .ref (o + 7), .int (nI len), .int (d 0), .int (d 2), .int (d 3), .int (nI nc), .int (d 10), .int cold, .int wind])) := by rw [ze230]; rw [va_up_ne _ _ (show o + 2 ≠ o + 61 by omega)]; exact K2
            have zK237 : zh229 (o + 6) = arR κ 1 6 cs := by rw [ze230]; rw [va_up_ne _ _ (show o + 6 ≠ o + 61 by omega)]; exact K3
            have zK238 : zh229 (o + 61) = arI κ 6 (bmp fo 5) := by rw [ze230]; exact va_up_self _ _ _
            have zK239 : zh229 a = some (.inr (10, [.int (nI 1), .int (nI ck), .int (d (20 + 2 * ck + 1))])) := by rw [ze230]; rw [va_up_ne _ _ (show a ≠ o + 61 by omega)]; exact zK159
            have zl240 : ∀ zq : Nat, zq < (o + 76) → zq ≠ (o + 61) → zh229 zq = h zq := by intro zq hzq zn0; rw [ze230, va_up_ne _ _ (show zq ≠ o + 61 by omega)]; try rfl
            have zr241 : Zr κ (o + 76) h zh229 := (Zr.refl).trans (Zr.same (fun zq h1 => by rw [ze230, va_up_ne _ _ (show zq ≠ o + 61 by omega)]))
            refine z_iret X E dX11_as_46 (by omega) (by omega) ⟨?_, ?_, ?_, ?_, ?_⟩
            · rw [opAs_5 (x := 3) (y := 1) hck q5 (by decide) ha4 (by assumption)]; rfl
            · rfl
            · exact fun zq hzq zn0 => zl240 zq hzq zn0
            · exact zr241
            · rw [opAs_5 (x := 3) (y := 1) hck q5 (by decide) ha4 (by assumption)]; exact zK238
          · replace zc228 := b2i_t zc228
            refine z_aload_n X 0 dX11_as_34 rfl ?_
            refine z_get X fl_X11_140_10 dX11_as_35 zK159 rfl ?_
            refine z_goto X 46 dX11_as_38 (by decide) ?_
            refine z_iret X E dX11_as_46 (by omega) (by omega) ⟨?_, ?_, ?_, ?_, ?_⟩
            · rw [opAs_0 (x := 3) (y := 1) hck q5 (by decide) ha4 (by assumption)]; rfl
            · rfl
            · exact fun zq hzq zn0 => rfl
            · exact Zr.refl
            · rw [opAs_0 (x := 3) (y := 1) hck q5 (by decide) ha4 (by assumption)]; exact K4
        · skip
          refine z_aload_n X 0 dX11_as_26 rfl ?_
          refine z_iload_n X 3 dX11_as_27 rfl ?_
          refine z_callS X (c_isOfKind_1_4 (κ := κ) (n := n) (a := (a)) (v1 := (nI 1)) (v2 := (nI ck)) (v3 := (d (20 + 2 * ck + 1))) zK159 ) mk_X11_isOfKind dX11_as_28 wd_425 wd_426 rfl rfl (Nat.le_of_ble_eq_true rfl) (Nat.le_of_ble_eq_true rfl) (Nat.le_of_ble_eq_true rfl) (by omega) (by omega) (fun q zh242 zm244 zp245 => ?_)
          obtain ⟨rfl, ze243, zn246⟩ := zp245
          subst zm244
          subst zh242
          refine z_st (st' := [.int (b2i (isOfP (nI 1) (nI 4)))]) rfl ?_
          refine z_if_eq X 41 dX11_as_31 (by decide) (fun zc247 => ?_) (fun zc247 => ?_)
          · replace zc247 := b2i_f zc247
            refine z_aload_n X 1 dX11_as_41 rfl ?_
            refine z_iconst (v := 5) X dX11_as_42 (by decide) ?_
            refine z_callV X (c_fail (κ := κ) (n := n) (o := (o)) (im := (im)) (fo := (fo)) (k := (5)) K0 K4 (by first | assumption | omega) (by first | assumption | omega)) mk_X11_fail dX11_as_43 wd_260 wd_262 wd_0 rfl K0 rfl rfl rfl (Nat.le_of_ble_eq_true rfl) (Nat.le_of_ble_eq_true rfl) (Nat.le_of_ble_eq_true rfl) (by omega) (by omega) (fun q zh248 zm250 zp251 => ?_)
            obtain ⟨rfl, ze249, zn252⟩ := zp251
            subst zm250
            refine z_st (st' := [.int (lowE 5)]) rfl ?_
            have zK253 : zh248 o = some (.inr (11, [.ref (o + 1), .ref (o + 14), .ref (o + 27), .ref (o + 33), .ref (o + 42), .ref (o + 55), .ref (o + 57), .ref (o + 59), .ref (o + 61), .int im])) := by rw [ze249]; rw [va_up_ne _ _ (show o ≠ o + 61 by omega)]; exact K0
            have zK254 : zh248 (o + 1) = some (.inr (3, [.ref (o + 1 + 1), .ref (o + 1 + 7), .ref (o + 1 + 9), .ref (o + 1 + 11), .int (d 13)])) := by rw [ze249]; rw [va_up_ne _ _ (show o + 1 ≠ o + 61 by omega)]; exact K1
            have zK255 : zh248 (o + 2) = some (.inr (2, [.ref (o + 3), .ref (o + 4), .ref (o + 5), .ref (o + 6), .ref (o + 7), .int (nI len), .int (d 0), .int (d 2), .int (d 3), .int (nI nc), .int (d 10), .int cold, .int wind])) := by rw [ze249]; rw [va_up_ne _ _ (show o + 2 ≠ o + 61 by omega)]; exact K2
            have zK256 : zh248 (o + 6) = arR κ 1 6 cs := by rw [ze249]; rw [va_up_ne _ _ (show o + 6 ≠ o + 61 by omega)]; exact K3
            have zK257 : zh248 (o + 61) = arI κ 6 (bmp fo 5) := by rw [ze249]; exact va_up_self _ _ _
            have zK258 : zh248 a = some (.inr (10, [.int (nI 1), .int (nI ck), .int (d (20 + 2 * ck + 1))])) := by rw [ze249]; rw [va_up_ne _ _ (show a ≠ o + 61 by omega)]; exact zK159
            have zl259 : ∀ zq : Nat, zq < (o + 76) → zq ≠ (o + 61) → zh248 zq = h zq := by intro zq hzq zn0; rw [ze249, va_up_ne _ _ (show zq ≠ o + 61 by omega)]; try rfl
            have zr260 : Zr κ (o + 76) h zh248 := (Zr.refl).trans (Zr.same (fun zq h1 => by rw [ze249, va_up_ne _ _ (show zq ≠ o + 61 by omega)]))
            refine z_iret X E dX11_as_46 (by omega) (by omega) ⟨?_, ?_, ?_, ?_, ?_⟩
            · rw [opAs_5 (x := 4) (y := 1) hck q5 (by decide) ha4 (by assumption)]; rfl
            · rfl
            · exact fun zq hzq zn0 => zl259 zq hzq zn0
            · exact zr260
            · rw [opAs_5 (x := 4) (y := 1) hck q5 (by decide) ha4 (by assumption)]; exact zK257
          · replace zc247 := b2i_t zc247
            refine z_aload_n X 0 dX11_as_34 rfl ?_
            refine z_get X fl_X11_140_10 dX11_as_35 zK159 rfl ?_
            refine z_goto X 46 dX11_as_38 (by decide) ?_
            refine z_iret X E dX11_as_46 (by omega) (by omega) ⟨?_, ?_, ?_, ?_, ?_⟩
            · rw [opAs_0 (x := 4) (y := 1) hck q5 (by decide) ha4 (by assumption)]; rfl
            · rfl
            · exact fun zq hzq zn0 => rfl
            · exact Zr.refl
            · rw [opAs_0 (x := 4) (y := 1) hck q5 (by decide) ha4 (by assumption)]; exact K4
        · skip
          refine z_aload_n X 0 dX11_as_26 rfl ?_
          refine z_iload_n X 3 dX11_as_27 rfl ?_
          refine z_callS X (c_isOfKind_1_5 (κ := κ) (n := n) (a := (a)) (v1 := (nI 1)) (v2 := (nI ck)) (v3 := (d (20 + 2 * ck + 1))) zK159 ) mk_X11_isOfKind dX11_as_28 wd_425 wd_426 rfl rfl (Nat.le_of_ble_eq_true rfl) (Nat.le_of_ble_eq_true rfl) (Nat.le_of_ble_eq_true rfl) (by omega) (by omega) (fun q zh261 zm263 zp264 => ?_)
          obtain ⟨rfl, ze262, zn265⟩ := zp264
          subst zm263
          subst zh261
          refine z_st (st' := [.int (b2i (isOfP (nI 1) (nI 5)))]) rfl ?_
          refine z_if_eq X 41 dX11_as_31 (by decide) (fun zc266 => ?_) (fun zc266 => ?_)
          · replace zc266 := b2i_f zc266
            refine z_aload_n X 1 dX11_as_41 rfl ?_
            refine z_iconst (v := 5) X dX11_as_42 (by decide) ?_
            refine z_callV X (c_fail (κ := κ) (n := n) (o := (o)) (im := (im)) (fo := (fo)) (k := (5)) K0 K4 (by first | assumption | omega) (by first | assumption | omega)) mk_X11_fail dX11_as_43 wd_260 wd_262 wd_0 rfl K0 rfl rfl rfl (Nat.le_of_ble_eq_true rfl) (Nat.le_of_ble_eq_true rfl) (Nat.le_of_ble_eq_true rfl) (by omega) (by omega) (fun q zh267 zm269 zp270 => ?_)
            obtain ⟨rfl, ze268, zn271⟩ := zp270
            subst zm269
            refine z_st (st' := [.int (lowE 5)]) rfl ?_
            have zK272 : zh267 o = some (.inr (11, [.ref (o + 1), .ref (o + 14), .ref (o + 27), .ref (o + 33), .ref (o + 42), .ref (o + 55), .ref (o + 57), .ref (o + 59), .ref (o + 61), .int im])) := by rw [ze268]; rw [va_up_ne _ _ (show o ≠ o + 61 by omega)]; exact K0
            have zK273 : zh267 (o + 1) = some (.inr (3, [.ref (o + 1 + 1), .ref (o + 1 + 7), .ref (o + 1 + 9), .ref (o + 1 + 11), .int (d 13)])) := by rw [ze268]; rw [va_up_ne _ _ (show o + 1 ≠ o + 61 by omega)]; exact K1
            have zK274 : zh267 (o + 2) = some (.inr (2, [.ref (o + 3), .ref (o + 4), .ref (o + 5), .ref (o + 6), .ref (o + 7), .int (nI len), .int (d 0), .int (d 2), .int (d 3), .int (nI nc), .int (d 10), .int cold, .int wind])) := by rw [ze268]; rw [va_up_ne _ _ (show o + 2 ≠ o + 61 by omega)]; exact K2
            have zK275 : zh267 (o + 6) = arR κ 1 6 cs := by rw [ze268]; rw [va_up_ne _ _ (show o + 6 ≠ o + 61 by omega)]; exact K3
            have zK276 : zh267 (o + 61) = arI κ 6 (bmp fo 5) := by rw [ze268]; exact va_up_self _ _ _
            have zK277 : zh267 a = some (.inr (10, [.int (nI 1), .int (nI ck), .int (d (20 + 2 * ck + 1))])) := by rw [ze268]; rw [va_up_ne _ _ (show a ≠ o + 61 by omega)]; exact zK159
            have zl278 : ∀ zq : Nat, zq < (o + 76) → zq ≠ (o + 61) → zh267 zq = h zq := by intro zq hzq zn0; rw [ze268, va_up_ne _ _ (show zq ≠ o + 61 by omega)]; try rfl
            have zr279 : Zr κ (o + 76) h zh267 := (Zr.refl).trans (Zr.same (fun zq h1 => by rw [ze268, va_up_ne _ _ (show zq ≠ o + 61 by omega)]))
            refine z_iret X E dX11_as_46 (by omega) (by omega) ⟨?_, ?_, ?_, ?_, ?_⟩
            · rw [opAs_5 (x := 5) (y := 1) hck q5 (by decide) ha4 (by assumption)]; rfl
            · rfl
            · exact fun zq hzq zn0 => zl278 zq hzq zn0
            · exact zr279
            · rw [opAs_5 (x := 5) (y := 1) hck q5 (by decide) ha4 (by assumption)]; exact zK276
          · replace zc266 := b2i_t zc266
            refine z_aload_n X 0 dX11_as_34 rfl ?_
            refine z_get X fl_X11_140_10 dX11_as_35 zK159 rfl ?_
            refine z_goto X 46 dX11_as_38 (by decide) ?_
            refine z_iret X E dX11_as_46 (by omega) (by omega) ⟨?_, ?_, ?_, ?_, ?_⟩
            · rw [opAs_0 (x := 5) (y := 1) hck q5 (by decide) ha4 (by assumption)]; rfl
            · rfl
            · exact fun zq hzq zn0 => rfl
            · exact Zr.refl
            · rw [opAs_0 (x := 5) (y := 1) hck q5 (by decide) ha4 (by assumption)]; exact K4
        · skip
          refine z_aload_n X 0 dX11_as_26 rfl ?_
          refine z_iload_n X 3 dX11_as_27 rfl ?_
          refine z_callS X (c_isOfKind_1_6 (κ := κ) (n := n) (a := (a)) (v1 := (nI 1)) (v2 := (nI ck)) (v3 := (d (20 + 2 * ck + 1))) zK159 ) mk_X11_isOfKind dX11_as_28 wd_425 wd_426 rfl rfl (Nat.le_of_ble_eq_true rfl) (Nat.le_of_ble_eq_true rfl) (Nat.le_of_ble_eq_true rfl) (by omega) (by omega) (fun q zh280 zm282 zp283 => ?_)
          obtain ⟨rfl, ze281, zn284⟩ := zp283
          subst zm282
          subst zh280
          refine z_st (st' := [.int (b2i (isOfP (nI 1) (nI 6)))]) rfl ?_
          refine z_if_eq X 41 dX11_as_31 (by decide) (fun zc285 => ?_) (fun zc285 => ?_)
          · replace zc285 := b2i_f zc285
            refine z_aload_n X 1 dX11_as_41 rfl ?_
            refine z_iconst (v := 5) X dX11_as_42 (by decide) ?_
            refine z_callV X (c_fail (κ := κ) (n := n) (o := (o)) (im := (im)) (fo := (fo)) (k := (5)) K0 K4 (by first | assumption | omega) (by first | assumption | omega)) mk_X11_fail dX11_as_43 wd_260 wd_262 wd_0 rfl K0 rfl rfl rfl (Nat.le_of_ble_eq_true rfl) (Nat.le_of_ble_eq_true rfl) (Nat.le_of_ble_eq_true rfl) (by omega) (by omega) (fun q zh286 zm288 zp289 => ?_)
            obtain ⟨rfl, ze287, zn290⟩ := zp289
            subst zm288
            refine z_st (st' := [.int (lowE 5)]) rfl ?_
            have zK291 : zh286 o = some (.inr (11, [.ref (o + 1), .ref (o + 14), .ref (o + 27), .ref (o + 33), .ref (o + 42), .ref (o + 55), .ref (o + 57), .ref (o + 59), .ref (o + 61), .int im])) := by rw [ze287]; rw [va_up_ne _ _ (show o ≠ o + 61 by omega)]; exact K0
            have zK292 : zh286 (o + 1) = some (.inr (3, [.ref (o + 1 + 1), .ref (o + 1 + 7), .ref (o + 1 + 9), .ref (o + 1 + 11), .int (d 13)])) := by rw [ze287]; rw [va_up_ne _ _ (show o + 1 ≠ o + 61 by omega)]; exact K1
            have zK293 : zh286 (o + 2) = some (.inr (2, [.ref (o + 3), .ref (o + 4), .ref (o + 5), .ref (o + 6), .ref (o + 7), .int (nI len), .int (d 0), .int (d 2), .int (d 3), .int (nI nc), .int (d 10), .int cold, .int wind])) := by rw [ze287]; rw [va_up_ne _ _ (show o + 2 ≠ o + 61 by omega)]; exact K2
            have zK294 : zh286 (o + 6) = arR κ 1 6 cs := by rw [ze287]; rw [va_up_ne _ _ (show o + 6 ≠ o + 61 by omega)]; exact K3
            have zK295 : zh286 (o + 61) = arI κ 6 (bmp fo 5) := by rw [ze287]; exact va_up_self _ _ _
            have zK296 : zh286 a = some (.inr (10, [.int (nI 1), .int (nI ck), .int (d (20 + 2 * ck + 1))])) := by rw [ze287]; rw [va_up_ne _ _ (show a ≠ o + 61 by omega)]; exact zK159
            have zl297 : ∀ zq : Nat, zq < (o + 76) → zq ≠ (o + 61) → zh286 zq = h zq := by intro zq hzq zn0; rw [ze287, va_up_ne _ _ (show zq ≠ o + 61 by omega)]; try rfl
            have zr298 : Zr κ (o + 76) h zh286 := (Zr.refl).trans (Zr.same (fun zq h1 => by rw [ze287, va_up_ne _ _ (show zq ≠ o + 61 by omega)]))
            refine z_iret X E dX11_as_46 (by omega) (by omega) ⟨?_, ?_, ?_, ?_, ?_⟩
            · rw [opAs_5 (x := 6) (y := 1) hck q5 (by decide) ha4 (by assumption)]; rfl
            · rfl
            · exact fun zq hzq zn0 => zl297 zq hzq zn0
            · exact zr298
            · rw [opAs_5 (x := 6) (y := 1) hck q5 (by decide) ha4 (by assumption)]; exact zK295
          · replace zc285 := b2i_t zc285
            refine z_aload_n X 0 dX11_as_34 rfl ?_
            refine z_get X fl_X11_140_10 dX11_as_35 zK159 rfl ?_
            refine z_goto X 46 dX11_as_38 (by decide) ?_
            refine z_iret X E dX11_as_46 (by omega) (by omega) ⟨?_, ?_, ?_, ?_, ?_⟩
            · rw [opAs_0 (x := 6) (y := 1) hck q5 (by decide) ha4 (by assumption)]; rfl
            · rfl
            · exact fun zq hzq zn0 => rfl
            · exact Zr.refl
            · rw [opAs_0 (x := 6) (y := 1) hck q5 (by decide) ha4 (by assumption)]; exact K4
      · replace zc165 := b2i_f zc165
        refine z_aload_n X 1 dX11_as_20 rfl ?_
        refine z_iconst (v := 1) X dX11_as_21 (by decide) ?_
        refine z_callV X (c_fail (κ := κ) (n := n) (o := (o)) (im := (im)) (fo := (fo)) (k := (1)) K0 K4 (by first | assumption | omega) (by first | assumption | omega)) mk_X11_fail dX11_as_22 wd_260 wd_262 wd_0 rfl K0 rfl rfl rfl (Nat.le_of_ble_eq_true rfl) (Nat.le_of_ble_eq_true rfl) (Nat.le_of_ble_eq_true rfl) (by omega) (by omega) (fun q zh299 zm301 zp302 => ?_)
        obtain ⟨rfl, ze300, zn303⟩ := zp302
        subst zm301
        refine z_st (st' := [.int (lowE 1)]) rfl ?_
        have zK304 : zh299 o = some (.inr (11, [.ref (o + 1), .ref (o + 14), .ref (o + 27), .ref (o + 33), .ref (o + 42), .ref (o + 55), .ref (o + 57), .ref (o + 59), .ref (o + 61), .int im])) := by rw [ze300]; rw [va_up_ne _ _ (show o ≠ o + 61 by omega)]; exact K0
        have zK305 : zh299 (o + 1) = some (.inr (3, [.ref (o + 1 + 1), .ref (o + 1 + 7), .ref (o + 1 + 9), .ref (o + 1 + 11), .int (d 13)])) := by rw [ze300]; rw [va_up_ne _ _ (show o + 1 ≠ o + 61 by omega)]; exact K1
        have zK306 : zh299 (o + 2) = some (.inr (2, [.ref (o + 3), .ref (o + 4), .ref (o + 5), .ref (o + 6), .ref (o + 7), .int (nI len), .int (d 0), .int (d 2), .int (d 3), .int (nI nc), .int (d 10), .int cold, .int wind])) := by rw [ze300]; rw [va_up_ne _ _ (show o + 2 ≠ o + 61 by omega)]; exact K2
        have zK307 : zh299 (o + 6) = arR κ 1 6 cs := by rw [ze300]; rw [va_up_ne _ _ (show o + 6 ≠ o + 61 by omega)]; exact K3
        have zK308 : zh299 (o + 61) = arI κ 6 (bmp fo 1) := by rw [ze300]; exact va_up_self _ _ _
        have zK309 : zh299 a = some (.inr (10, [.int (nI 1), .int (nI ck), .int (d (20 + 2 * ck + 1))])) := by rw [ze300]; rw [va_up_ne _ _ (show a ≠ o + 61 by omega)]; exact zK159
        have zl310 : ∀ zq : Nat, zq < (o + 76) → zq ≠ (o + 61) → zh299 zq = h zq := by intro zq hzq zn0; rw [ze300, va_up_ne _ _ (show zq ≠ o + 61 by omega)]; try rfl
        have zr311 : Zr κ (o + 76) h zh299 := (Zr.refl).trans (Zr.same (fun zq h1 => by rw [ze300, va_up_ne _ _ (show zq ≠ o + 61 by omega)]))
        refine z_iret X E dX11_as_25 (by omega) (by omega) ⟨?_, ?_, ?_, ?_, ?_⟩
        · rw [opAs_e (fun zq => (by assumption : ¬ (0 ≤ w.toInt ∧ w.toInt ≤ 6)) zq.2.2)]; rfl
        · rfl
        · exact fun zq hzq zn0 => zl310 zq hzq zn0
        · exact zr311
        · rw [opAs_e (fun zq => (by assumption : ¬ (0 ≤ w.toInt ∧ w.toInt ≤ 6)) zq.2.2)]; exact zK308
    · skip
      have zK312 : h a = some (.inr (8, [.int (nI 2), .int (nI ck), .int (d (20 + 2 * ck + 1))])) := ha5
      refine z_astore_n (ls' := [(3, .ref a), (0, .ref o), (1, .int (nI ck)), (2, .int w)]) X dX11_as_5 (by decide) rfl ?_
      refine z_aload_n X 0 dX11_as_6 rfl ?_
      refine z_ifnull X dX11_as_7 ?_
      refine z_iload_n X 3 dX11_as_10 rfl ?_
      refine z_iconst (v := 0) X dX11_as_11 (by decide) ?_
      refine z_bipush (v := 6) X dX11_as_12 (by decide) ?_
      refine z_callS X (c_within (κ := κ) (n := n) (v := (w)) (lo := (0)) (hi := (6))  ) mk_X11_within dX11_as_14 wd_259 wd_257 rfl rfl (Nat.le_of_ble_eq_true rfl) (Nat.le_of_ble_eq_true rfl) (Nat.le_of_ble_eq_true rfl) (by omega) (by omega) (fun q zh313 zm315 zp316 => ?_)
      obtain ⟨rfl, ze314, zn317⟩ := zp316
      subst zm315
      subst zh313
      refine z_st (st' := [.int (b2i ((0 : Int32).toInt ≤ (w : Int32).toInt ∧ (w : Int32).toInt ≤ (6 : Int32).toInt))]) rfl ?_
      refine z_toe (y := b2i (0 ≤ w.toInt ∧ w.toInt ≤ 6)) (by simp only [show (0 : Int32).toInt = 0 by decide, show (6 : Int32).toInt = 6 by decide]) ?_
      refine z_if_ne X 26 dX11_as_17 (by decide) (fun zc318 => ?_) (fun zc318 => ?_)
      · replace zc318 := b2i_t zc318
        obtain ⟨wq, hwq, rfl⟩ := ix_of (c := w) (len := 7) (by omega) (by omega)
        rcases lt7 hwq with rfl | rfl | rfl | rfl | rfl | rfl | rfl
        · skip
          refine z_aload_n X 0 dX11_as_26 rfl ?_
          refine z_iload_n X 3 dX11_as_27 rfl ?_
          refine z_callS X (c_isOfKind_2_0 (κ := κ) (n := n) (a := (a)) (v1 := (nI 2)) (v2 := (nI ck)) (v3 := (d (20 + 2 * ck + 1))) zK312 ) mk_X11_isOfKind dX11_as_28 wd_425 wd_426 rfl rfl (Nat.le_of_ble_eq_true rfl) (Nat.le_of_ble_eq_true rfl) (Nat.le_of_ble_eq_true rfl) (by omega) (by omega) (fun q zh319 zm321 zp322 => ?_)
          obtain ⟨rfl, ze320, zn323⟩ := zp322
          subst zm321
          subst zh319
          refine z_st (st' := [.int (b2i (isOfP (nI 2) (nI 0)))]) rfl ?_
          refine z_if_eq X 41 dX11_as_31 (by decide) (fun zc324 => ?_) (fun zc324 => ?_)
          · replace zc324 := b2i_f zc324
            refine z_aload_n X 1 dX11_as_41 rfl ?_
            refine z_iconst (v := 5) X dX11_as_42 (by decide) ?_
            refine z_callV X (c_fail (κ := κ) (n := n) (o := (o)) (im := (im)) (fo := (fo)) (k := (5)) K0 K4 (by first | assumption | omega) (by first | assumption | omega)) mk_X11_fail dX11_as_43 wd_260 wd_262 wd_0 rfl K0 rfl rfl rfl (Nat.le_of_ble_eq_true rfl) (Nat.le_of_ble_eq_true rfl) (Nat.le_of_ble_eq_true rfl) (by omega) (by omega) (fun q zh325 zm327 zp328 => ?_)
            obtain ⟨rfl, ze326, zn329⟩ := zp328
            subst zm327
            refine z_st (st' := [.int (lowE 5)]) rfl ?_
            have zK330 : zh325 o = some (.inr (11, [.ref (o + 1), .ref (o + 14), .ref (o + 27), .ref (o + 33), .ref (o + 42), .ref (o + 55), .ref (o + 57), .ref (o + 59), .ref (o + 61), .int im])) := by rw [ze326]; rw [va_up_ne _ _ (show o ≠ o + 61 by omega)]; exact K0
            have zK331 : zh325 (o + 1) = some (.inr (3, [.ref (o + 1 + 1), .ref (o + 1 + 7), .ref (o + 1 + 9), .ref (o + 1 + 11), .int (d 13)])) := by rw [ze326]; rw [va_up_ne _ _ (show o + 1 ≠ o + 61 by omega)]; exact K1
            have zK332 : zh325 (o + 2) = some (.inr (2, [.ref (o + 3), .ref (o + 4), .ref (o + 5), .ref (o + 6), .ref (o + 7), .int (nI len), .int (d 0), .int (d 2), .int (d 3), .int (nI nc), .int (d 10), .int cold, .int wind])) := by rw [ze326]; rw [va_up_ne _ _ (show o + 2 ≠ o + 61 by omega)]; exact K2
            have zK333 : zh325 (o + 6) = arR κ 1 6 cs := by rw [ze326]; rw [va_up_ne _ _ (show o + 6 ≠ o + 61 by omega)]; exact K3
            have zK334 : zh325 (o + 61) = arI κ 6 (bmp fo 5) := by rw [ze326]; exact va_up_self _ _ _
            have zK335 : zh325 a = some (.inr (8, [.int (nI 2), .int (nI ck), .int (d (20 + 2 * ck + 1))])) := by rw [ze326]; rw [va_up_ne _ _ (show a ≠ o + 61 by omega)]; exact zK312
            have zl336 : ∀ zq : Nat, zq < (o + 76) → zq ≠ (o + 61) → zh325 zq = h zq := by intro zq hzq zn0; rw [ze326, va_up_ne _ _ (show zq ≠ o + 61 by omega)]; try rfl
            have zr337 : Zr κ (o + 76) h zh325 := (Zr.refl).trans (Zr.same (fun zq h1 => by rw [ze326, va_up_ne _ _ (show zq ≠ o + 61 by omega)]))
            refine z_iret X E dX11_as_46 (by omega) (by omega) ⟨?_, ?_, ?_, ?_, ?_⟩
            · rw [opAs_5 (x := 0) (y := 2) hck q5 (by decide) ha4 (by assumption)]; rfl
            · rfl
            · exact fun zq hzq zn0 => zl336 zq hzq zn0
            · exact zr337
            · rw [opAs_5 (x := 0) (y := 2) hck q5 (by decide) ha4 (by assumption)]; exact zK334
          · replace zc324 := b2i_t zc324
            refine z_aload_n X 0 dX11_as_34 rfl ?_
            refine z_get X fl_X11_140_8 dX11_as_35 zK312 rfl ?_
            refine z_goto X 46 dX11_as_38 (by decide) ?_
            refine z_iret X E dX11_as_46 (by omega) (by omega) ⟨?_, ?_, ?_, ?_, ?_⟩
            · rw [opAs_0 (x := 0) (y := 2) hck q5 (by decide) ha4 (by assumption)]; rfl
            · rfl
            · exact fun zq hzq zn0 => rfl
            · exact Zr.refl
            · rw [opAs_0 (x := 0) (y := 2) hck q5 (by decide) ha4 (by assumption)]; exact K4
        · skip
          refine z_aload_n X 0 dX11_as_26 rfl ?_
          refine z_iload_n X 3 dX11_as_27 rfl ?_
          refine z_callS X (c_isOfKind_2_1 (κ := κ) (n := n) (a := (a)) (v1 := (nI 2)) (v2 := (nI ck)) (v3 := (d (20 + 2 * ck + 1))) zK312 ) mk_X11_isOfKind dX11_as_28 wd_425 wd_426 rfl rfl (Nat.le_of_ble_eq_true rfl) (Nat.le_of_ble_eq_true rfl) (Nat.le_of_ble_eq_true rfl) (by omega) (by omega) (fun q zh338 zm340 zp341 => ?_)
          obtain ⟨rfl, ze339, zn342⟩ := zp341
          subst zm340
          subst zh338
          refine z_st (st' := [.int (b2i (isOfP (nI 2) (nI 1)))]) rfl ?_
          refine z_if_eq X 41 dX11_as_31 (by decide) (fun zc343 => ?_) (fun zc343 => ?_)
          · replace zc343 := b2i_f zc343
            refine z_aload_n X 1 dX11_as_41 rfl ?_
            refine z_iconst (v := 5) X dX11_as_42 (by decide) ?_
            refine z_callV X (c_fail (κ := κ) (n := n) (o := (o)) (im := (im)) (fo := (fo)) (k := (5)) K0 K4 (by first | assumption | omega) (by first | assumption | omega)) mk_X11_fail dX11_as_43 wd_260 wd_262 wd_0 rfl K0 rfl rfl rfl (Nat.le_of_ble_eq_true rfl) (Nat.le_of_ble_eq_true rfl) (Nat.le_of_ble_eq_true rfl) (by omega) (by omega) (fun q zh344 zm346 zp347 => ?_)
            obtain ⟨rfl, ze345, zn348⟩ := zp347
            subst zm346
            refine z_st (st' := [.int (lowE 5)]) rfl ?_
            have zK349 : zh344 o = some (.inr (11, [.ref (o + 1), .ref (o + 14), .ref (o + 27), .ref (o + 33), .ref (o + 42), .ref (o + 55), .ref (o + 57), .ref (o + 59), .ref (o + 61), .int im])) := by rw [ze345]; rw [va_up_ne _ _ (show o ≠ o + 61 by omega)]; exact K0
            have zK350 : zh344 (o + 1) = some (.inr (3, [.ref (o + 1 + 1), .ref (o + 1 + 7), .ref (o + 1 + 9), .ref (o + 1 + 11), .int (d 13)])) := by rw [ze345]; rw [va_up_ne _ _ (show o + 1 ≠ o + 61 by omega)]; exact K1
            have zK351 : zh344 (o + 2) = some (.inr (2, [.ref (o + 3), .ref (o + 4), .ref (o + 5), .ref (o + 6), .ref (o + 7), .int (nI len), .int (d 0), .int (d 2), .int (d 3), .int (nI nc), .int (d 10), .int cold, .int wind])) := by rw [ze345]; rw [va_up_ne _ _ (show o + 2 ≠ o + 61 by omega)]; exact K2
            have zK352 : zh344 (o + 6) = arR κ 1 6 cs := by rw [ze345]; rw [va_up_ne _ _ (show o + 6 ≠ o + 61 by omega)]; exact K3
            have zK353 : zh344 (o + 61) = arI κ 6 (bmp fo 5) := by rw [ze345]; exact va_up_self _ _ _
            have zK354 : zh344 a = some (.inr (8, [.int (nI 2), .int (nI ck), .int (d (20 + 2 * ck + 1))])) := by rw [ze345]; rw [va_up_ne _ _ (show a ≠ o + 61 by omega)]; exact zK312
            have zl355 : ∀ zq : Nat, zq < (o + 76) → zq ≠ (o + 61) → zh344 zq = h zq := by intro zq hzq zn0; rw [ze345, va_up_ne _ _ (show zq ≠ o + 61 by omega)]; try rfl
            have zr356 : Zr κ (o + 76) h zh344 := (Zr.refl).trans (Zr.same (fun zq h1 => by rw [ze345, va_up_ne _ _ (show zq ≠ o + 61 by omega)]))
            refine z_iret X E dX11_as_46 (by omega) (by omega) ⟨?_, ?_, ?_, ?_, ?_⟩
            · rw [opAs_5 (x := 1) (y := 2) hck q5 (by decide) ha4 (by assumption)]; rfl
            · rfl
            · exact fun zq hzq zn0 => zl355 zq hzq zn0
            · exact zr356
            · rw [opAs_5 (x := 1) (y := 2) hck q5 (by decide) ha4 (by assumption)]; exact zK353
          · replace zc343 := b2i_t zc343
            refine z_aload_n X 0 dX11_as_34 rfl ?_
            refine z_get X fl_X11_140_8 dX11_as_35 zK312 rfl ?_
            refine z_goto X 46 dX11_as_38 (by decide) ?_
            refine z_iret X E dX11_as_46 (by omega) (by omega) ⟨?_, ?_, ?_, ?_, ?_⟩
            · rw [opAs_0 (x := 1) (y := 2) hck q5 (by decide) ha4 (by assumption)]; rfl
            · rfl
            · exact fun zq hzq zn0 => rfl
            · exact Zr.refl
            · rw [opAs_0 (x := 1) (y := 2) hck q5 (by decide) ha4 (by assumption)]; exact K4
        · skip
          refine z_aload_n X 0 dX11_as_26 rfl ?_
          refine z_iload_n X 3 dX11_as_27 rfl ?_
          refine z_callS X (c_isOfKind_2_2 (κ := κ) (n := n) (a := (a)) (v1 := (nI 2)) (v2 := (nI ck)) (v3 := (d (20 + 2 * ck + 1))) zK312 ) mk_X11_isOfKind dX11_as_28 wd_425 wd_426 rfl rfl (Nat.le_of_ble_eq_true rfl) (Nat.le_of_ble_eq_true rfl) (Nat.le_of_ble_eq_true rfl) (by omega) (by omega) (fun q zh357 zm359 zp360 => ?_)
          obtain ⟨rfl, ze358, zn361⟩ := zp360
          subst zm359
          subst zh357
          refine z_st (st' := [.int (b2i (isOfP (nI 2) (nI 2)))]) rfl ?_
          refine z_if_eq X 41 dX11_as_31 (by decide) (fun zc362 => ?_) (fun zc362 => ?_)
          · replace zc362 := b2i_f zc362
            refine z_aload_n X 1 dX11_as_41 rfl ?_
            refine z_iconst (v := 5) X dX11_as_42 (by decide) ?_
            refine z_callV X (c_fail (κ := κ) (n := n) (o := (o)) (im := (im)) (fo := (fo)) (k := (5)) K0 K4 (by first | assumption | omega) (by first | assumption | omega)) mk_X11_fail dX11_as_43 wd_260 wd_262 wd_0 rfl K0 rfl rfl rfl (Nat.le_of_ble_eq_true rfl) (Nat.le_of_ble_eq_true rfl) (Nat.le_of_ble_eq_true rfl) (by omega) (by omega) (fun q zh363 zm365 zp366 => ?_)
            obtain ⟨rfl, ze364, zn367⟩ := zp366
            subst zm365
            refine z_st (st' := [.int (lowE 5)]) rfl ?_
            have zK368 : zh363 o = some (.inr (11, [.ref (o + 1), .ref (o + 14), .ref (o + 27), .ref (o + 33), .ref (o + 42), .ref (o + 55), .ref (o + 57), .ref (o + 59), .ref (o + 61), .int im])) := by rw [ze364]; rw [va_up_ne _ _ (show o ≠ o + 61 by omega)]; exact K0
            have zK369 : zh363 (o + 1) = some (.inr (3, [.ref (o + 1 + 1), .ref (o + 1 + 7), .ref (o + 1 + 9), .ref (o + 1 + 11), .int (d 13)])) := by rw [ze364]; rw [va_up_ne _ _ (show o + 1 ≠ o + 61 by omega)]; exact K1
            have zK370 : zh363 (o + 2) = some (.inr (2, [.ref (o + 3), .ref (o + 4), .ref (o + 5), .ref (o + 6), .ref (o + 7), .int (nI len), .int (d 0), .int (d 2), .int (d 3), .int (nI nc), .int (d 10), .int cold, .int wind])) := by rw [ze364]; rw [va_up_ne _ _ (show o + 2 ≠ o + 61 by omega)]; exact K2
            have zK371 : zh363 (o + 6) = arR κ 1 6 cs := by rw [ze364]; rw [va_up_ne _ _ (show o + 6 ≠ o + 61 by omega)]; exact K3
            have zK372 : zh363 (o + 61) = arI κ 6 (bmp fo 5) := by rw [ze364]; exact va_up_self _ _ _
            have zK373 : zh363 a = some (.inr (8, [.int (nI 2), .int (nI ck), .int (d (20 + 2 * ck + 1))])) := by rw [ze364]; rw [va_up_ne _ _ (show a ≠ o + 61 by omega)]; exact zK312
            have zl374 : ∀ zq : Nat, zq < (o + 76) → zq ≠ (o + 61) → zh363 zq = h zq := by intro zq hzq zn0; rw [ze364, va_up_ne _ _ (show zq ≠ o + 61 by omega)]; try rfl
            have zr375 : Zr κ (o + 76) h zh363 := (Zr.refl).trans (Zr.same (fun zq h1 => by rw [ze364, va_up_ne _ _ (show zq ≠ o + 61 by omega)]))
            refine z_iret X E dX11_as_46 (by omega) (by omega) ⟨?_, ?_, ?_, ?_, ?_⟩
            · rw [opAs_5 (x := 2) (y := 2) hck q5 (by decide) ha4 (by assumption)]; rfl
            · rfl
            · exact fun zq hzq zn0 => zl374 zq hzq zn0
            · exact zr375
            · rw [opAs_5 (x := 2) (y := 2) hck q5 (by decide) ha4 (by assumption)]; exact zK372
          · replace zc362 := b2i_t zc362
            refine z_aload_n X 0 dX11_as_34 rfl ?_
            refine z_get X fl_X11_140_8 dX11_as_35 zK312 rfl ?_
            refine z_goto X 46 dX11_as_38 (by decide) ?_
            refine z_iret X E dX11_as_46 (by omega) (by omega) ⟨?_, ?_, ?_, ?_, ?_⟩
            · rw [opAs_0 (x := 2) (y := 2) hck q5 (by decide) ha4 (by assumption)]; rfl
            · rfl
            · exact fun zq hzq zn0 => rfl
            · exact Zr.refl
            · rw [opAs_0 (x := 2) (y := 2) hck q5 (by decide) ha4 (by assumption)]; exact K4
        · skip
          refine z_aload_n X 0 dX11_as_26 rfl ?_
          refine z_iload_n X 3 dX11_as_27 rfl ?_
          refine z_callS X (c_isOfKind_2_3 (κ := κ) (n := n) (a := (a)) (v1 := (nI 2)) (v2 := (nI ck)) (v3 := (d (20 + 2 * ck + 1))) zK312 ) mk_X11_isOfKind dX11_as_28 wd_425 wd_426 rfl rfl (Nat.le_of_ble_eq_true rfl) (Nat.le_of_ble_eq_true rfl) (Nat.le_of_ble_eq_true rfl) (by omega) (by omega) (fun q zh376 zm378 zp379 => ?_)
          obtain ⟨rfl, ze377, zn380⟩ := zp379
          subst zm378
          subst zh376
          refine z_st (st' := [.int (b2i (isOfP (nI 2) (nI 3)))]) rfl ?_
          refine z_if_eq X 41 dX11_as_31 (by decide) (fun zc381 => ?_) (fun zc381 => ?_)
          · replace zc381 := b2i_f zc381
            refine z_aload_n X 1 dX11_as_41 rfl ?_
            refine z_iconst (v := 5) X dX11_as_42 (by decide) ?_
            refine z_callV X (c_fail (κ := κ) (n := n) (o := (o)) (im := (im)) (fo := (fo)) (k := (5)) K0 K4 (by first | assumption | omega) (by first | assumption | omega)) mk_X11_fail dX11_as_43 wd_260 wd_262 wd_0 rfl K0 rfl rfl rfl (Nat.le_of_ble_eq_true rfl) (Nat.le_of_ble_eq_true rfl) (Nat.le_of_ble_eq_true rfl) (by omega) (by omega) (fun q zh382 zm384 zp385 => ?_)
            obtain ⟨rfl, ze383, zn386⟩ := zp385
            subst zm384
            refine z_st (st' := [.int (lowE 5)]) rfl ?_
            have zK387 : zh382 o = some (.inr (11, [.ref (o + 1), .ref (o + 14), .ref (o + 27), .ref (o + 33), .ref (o + 42), .ref (o + 55), .ref (o + 57), .ref (o + 59), .ref (o + 61), .int im])) := by rw [ze383]; rw [va_up_ne _ _ (show o ≠ o + 61 by omega)]; exact K0
            have zK388 : zh382 (o + 1) = some (.inr (3, [.ref (o + 1 + 1), .ref (o + 1 + 7), .ref (o + 1 + 9), .ref (o + 1 + 11), .int (d 13)])) := by rw [ze383]; rw [va_up_ne _ _ (show o + 1 ≠ o + 61 by omega)]; exact K1
            have zK389 : zh382 (o + 2) = some (.inr (2, [.ref (o + 3), .ref (o + 4), .ref (o + 5), .ref (o + 6), .ref (o + 7), .int (nI len), .int (d 0), .int (d 2), .int (d 3), .int (nI nc), .int (d 10), .int cold, .int wind])) := by rw [ze383]; rw [va_up_ne _ _ (show o + 2 ≠ o + 61 by omega)]; exact K2
            have zK390 : zh382 (o + 6) = arR κ 1 6 cs := by rw [ze383]; rw [va_up_ne _ _ (show o + 6 ≠ o + 61 by omega)]; exact K3
            have zK391 : zh382 (o + 61) = arI κ 6 (bmp fo 5) := by rw [ze383]; exact va_up_self _ _ _
            have zK392 : zh382 a = some (.inr (8, [.int (nI 2), .int (nI ck), .int (d (20 + 2 * ck + 1))])) := by rw [ze383]; rw [va_up_ne _ _ (show a ≠ o + 61 by omega)]; exact zK312
            have zl393 : ∀ zq : Nat, zq < (o + 76) → zq ≠ (o + 61) → zh382 zq = h zq := by intro zq hzq zn0; rw [ze383, va_up_ne _ _ (show zq ≠ o + 61 by omega)]; try rfl
            have zr394 : Zr κ (o + 76) h zh382 := (Zr.refl).trans (Zr.same (fun zq h1 => by rw [ze383, va_up_ne _ _ (show zq ≠ o + 61 by omega)]))
            refine z_iret X E dX11_as_46 (by omega) (by omega) ⟨?_, ?_, ?_, ?_, ?_⟩
            · rw [opAs_5 (x := 3) (y := 2) hck q5 (by decide) ha4 (by assumption)]; rfl
            · rfl
            · exact fun zq hzq zn0 => zl393 zq hzq zn0
            · exact zr394
            · rw [opAs_5 (x := 3) (y := 2) hck q5 (by decide) ha4 (by assumption)]; exact zK391
          · replace zc381 := b2i_t zc381
            refine z_aload_n X 0 dX11_as_34 rfl ?_
            refine z_get X fl_X11_140_8 dX11_as_35 zK312 rfl ?_
            refine z_goto X 46 dX11_as_38 (by decide) ?_
            refine z_iret X E dX11_as_46 (by omega) (by omega) ⟨?_, ?_, ?_, ?_, ?_⟩
            · rw [opAs_0 (x := 3) (y := 2) hck q5 (by decide) ha4 (by assumption)]; rfl
            · rfl
            · exact fun zq hzq zn0 => rfl
            · exact Zr.refl
            · rw [opAs_0 (x := 3) (y := 2) hck q5 (by decide) ha4 (by assumption)]; exact K4
        · skip
          refine z_aload_n X 0 dX11_as_26 rfl ?_
          refine z_iload_n X 3 dX11_as_27 rfl ?_
          refine z_callS X (c_isOfKind_2_4 (κ := κ) (n := n) (a := (a)) (v1 := (nI 2)) (v2 := (nI ck)) (v3 := (d (20 + 2 * ck + 1))) zK312 ) mk_X11_isOfKind dX11_as_28 wd_425 wd_426 rfl rfl (Nat.le_of_ble_eq_true rfl) (Nat.le_of_ble_eq_true rfl) (Nat.le_of_ble_eq_true rfl) (by omega) (by omega) (fun q zh395 zm397 zp398 => ?_)
          obtain ⟨rfl, ze396, zn399⟩ := zp398
          subst zm397
          subst zh395
          refine z_st (st' := [.int (b2i (isOfP (nI 2) (nI 4)))]) rfl ?_
          refine z_if_eq X 41 dX11_as_31 (by decide) (fun zc400 => ?_) (fun zc400 => ?_)
          · replace zc400 := b2i_f zc400
            refine z_aload_n X 1 dX11_as_41 rfl ?_
            refine z_iconst (v := 5) X dX11_as_42 (by decide) ?_
            refine z_callV X (c_fail (κ := κ) (n := n) (o := (o)) (im := (im)) (fo := (fo)) (k := (5)) K0 K4 (by first | assumption | omega) (by first | assumption | omega)) mk_X11_fail dX11_as_43 wd_260 wd_262 wd_0 rfl K0 rfl rfl rfl (Nat.le_of_ble_eq_true rfl) (Nat.le_of_ble_eq_true rfl) (Nat.le_of_ble_eq_true rfl) (by omega) (by omega) (fun q zh401 zm403 zp404 => ?_)
            obtain ⟨rfl, ze402, zn405⟩ := zp404
            subst zm403
            refine z_st (st' := [.int (lowE 5)]) rfl ?_
            have zK406 : zh401 o = some (.inr (11, [.ref (o + 1), .ref (o + 14), .ref (o + 27), .ref (o + 33), .ref (o + 42), .ref (o + 55), .ref (o + 57), .ref (o + 59), .ref (o + 61), .int im])) := by rw [ze402]; rw [va_up_ne _ _ (show o ≠ o + 61 by omega)]; exact K0
            have zK407 : zh401 (o + 1) = some (.inr (3, [.ref (o + 1 + 1), .ref (o + 1 + 7), .ref (o + 1 + 9), .ref (o + 1 + 11), .int (d 13)])) := by rw [ze402]; rw [va_up_ne _ _ (show o + 1 ≠ o + 61 by omega)]; exact K1
            have zK408 : zh401 (o + 2) = some (.inr (2, [.ref (o + 3), .ref (o + 4), .ref (o + 5), .ref (o + 6), .ref (o + 7), .int (nI len), .int (d 0), .int (d 2), .int (d 3), .int (nI nc), .int (d 10), .int cold, .int wind])) := by rw [ze402]; rw [va_up_ne _ _ (show o + 2 ≠ o + 61 by omega)]; exact K2
            have zK409 : zh401 (o + 6) = arR κ 1 6 cs := by rw [ze402]; rw [va_up_ne _ _ (show o + 6 ≠ o + 61 by omega)]; exact K3
            have zK410 : zh401 (o + 61) = arI κ 6 (bmp fo 5) := by rw [ze402]; exact va_up_self _ _ _
            have zK411 : zh401 a = some (.inr (8, [.int (nI 2), .int (nI ck), .int (d (20 + 2 * ck + 1))])) := by rw [ze402]; rw [va_up_ne _ _ (show a ≠ o + 61 by omega)]; exact zK312
            have zl412 : ∀ zq : Nat, zq < (o + 76) → zq ≠ (o + 61) → zh401 zq = h zq := by intro zq hzq zn0; rw [ze402, va_up_ne _ _ (show zq ≠ o + 61 by omega)]; try rfl
            have zr413 : Zr κ (o + 76) h zh401 := (Zr.refl).trans (Zr.same (fun zq h1 => by rw [ze402, va_up_ne _ _ (show zq ≠ o + 61 by omega)]))
            refine z_iret X E dX11_as_46 (by omega) (by omega) ⟨?_, ?_, ?_, ?_, ?_⟩
            · rw [opAs_5 (x := 4) (y := 2) hck q5 (by decide) ha4 (by assumption)]; rfl
            · rfl
            · exact fun zq hzq zn0 => zl412 zq hzq zn0
            · exact zr413
            · rw [opAs_5 (x := 4) (y := 2) hck q5 (by decide) ha4 (by assumption)]; exact zK410
          · replace zc400 := b2i_t zc400
            refine z_aload_n X 0 dX11_as_34 rfl ?_
            refine z_get X fl_X11_140_8 dX11_as_35 zK312 rfl ?_
            refine z_goto X 46 dX11_as_38 (by decide) ?_
            refine z_iret X E dX11_as_46 (by omega) (by omega) ⟨?_, ?_, ?_, ?_, ?_⟩
            · rw [opAs_0 (x := 4) (y := 2) hck q5 (by decide) ha4 (by assumption)]; rfl
            · rfl
            · exact fun zq hzq zn0 => rfl
            · exact Zr.refl
            · rw [opAs_0 (x := 4) (y := 2) hck q5 (by decide) ha4 (by assumption)]; exact K4
        · skip
          refine z_aload_n X 0 dX11_as_26 rfl ?_
          refine z_iload_n X 3 dX11_as_27 rfl ?_
          refine z_callS X (c_isOfKind_2_5 (κ := κ) (n := n) (a := (a)) (v1 := (nI 2)) (v2 := (nI ck)) (v3 := (d (20 + 2 * ck + 1))) zK312 ) mk_X11_isOfKind dX11_as_28 wd_425 wd_426 rfl rfl (Nat.le_of_ble_eq_true rfl) (Nat.le_of_ble_eq_true rfl) (Nat.le_of_ble_eq_true rfl) (by omega) (by omega) (fun q zh414 zm416 zp417 => ?_)
          obtain ⟨rfl, ze415, zn418⟩ := zp417
          subst zm416
          subst zh414
          refine z_st (st' := [.int (b2i (isOfP (nI 2) (nI 5)))]) rfl ?_
          refine z_if_eq X 41 dX11_as_31 (by decide) (fun zc419 => ?_) (fun zc419 => ?_)
          · replace zc419 := b2i_f zc419
            refine z_aload_n X 1 dX11_as_41 rfl ?_
            refine z_iconst (v := 5) X dX11_as_42 (by decide) ?_
            refine z_callV X (c_fail (κ := κ) (n := n) (o := (o)) (im := (im)) (fo := (fo)) (k := (5)) K0 K4 (by first | assumption | omega) (by first | assumption | omega)) mk_X11_fail dX11_as_43 wd_260 wd_262 wd_0 rfl K0 rfl rfl rfl (Nat.le_of_ble_eq_true rfl) (Nat.le_of_ble_eq_true rfl) (Nat.le_of_ble_eq_true rfl) (by omega) (by omega) (fun q zh420 zm422 zp423 => ?_)
            obtain ⟨rfl, ze421, zn424⟩ := zp423
            subst zm422
            refine z_st (st' := [.int (lowE 5)]) rfl ?_
            have zK425 : zh420 o = some (.inr (11, [.ref (o + 1), .ref (o + 14), .ref (o + 27), .ref (o + 33), .ref (o + 42), .ref (o + 55), .ref (o + 57), .ref (o + 59), .ref (o + 61), .int im])) := by rw [ze421]; rw [va_up_ne _ _ (show o ≠ o + 61 by omega)]; exact K0
            have zK426 : zh420 (o + 1) = some (.inr (3, [.ref (o + 1 + 1), .ref (o + 1 + 7), .ref (o + 1 + 9), .ref (o + 1 + 11), .int (d 13)])) := by rw [ze421]; rw [va_up_ne _ _ (show o + 1 ≠ o + 61 by omega)]; exact K1
            have zK427 : zh420 (o + 2) = some (.inr (2, [.ref (o + 3), .ref (o + 4), .ref (o + 5), .ref (o + 6), .ref (o + 7), .int (nI len), .int (d 0), .int (d 2), .int (d 3), .int (nI nc), .int (d 10), .int cold, .int wind])) := by rw [ze421]; rw [va_up_ne _ _ (show o + 2 ≠ o + 61 by omega)]; exact K2
            have zK428 : zh420 (o + 6) = arR κ 1 6 cs := by rw [ze421]; rw [va_up_ne _ _ (show o + 6 ≠ o + 61 by omega)]; exact K3
            have zK429 : zh420 (o + 61) = arI κ 6 (bmp fo 5) := by rw [ze421]; exact va_up_self _ _ _
            have zK430 : zh420 a = some (.inr (8, [.int (nI 2), .int (nI ck), .int (d (20 + 2 * ck + 1))])) := by rw [ze421]; rw [va_up_ne _ _ (show a ≠ o + 61 by omega)]; exact zK312
            have zl431 : ∀ zq : Nat, zq < (o + 76) → zq ≠ (o + 61) → zh420 zq = h zq := by intro zq hzq zn0; rw [ze421, va_up_ne _ _ (show zq ≠ o + 61 by omega)]; try rfl
            have zr432 : Zr κ (o + 76) h zh420 := (Zr.refl).trans (Zr.same (fun zq h1 => by rw [ze421, va_up_ne _ _ (show zq ≠ o + 61 by omega)]))
            refine z_iret X E dX11_as_46 (by omega) (by omega) ⟨?_, ?_, ?_, ?_, ?_⟩
            · rw [opAs_5 (x := 5) (y := 2) hck q5 (by decide) ha4 (by assumption)]; rfl
            · rfl
            · exact fun zq hzq zn0 => zl431 zq hzq zn0
            · exact zr432
            · rw [opAs_5 (x := 5) (y := 2) hck q5 (by decide) ha4 (by assumption)]; exact zK429
          · replace zc419 := b2i_t zc419
            refine z_aload_n X 0 dX11_as_34 rfl ?_
            refine z_get X fl_X11_140_8 dX11_as_35 zK312 rfl ?_
            refine z_goto X 46 dX11_as_38 (by decide) ?_
            refine z_iret X E dX11_as_46 (by omega) (by omega) ⟨?_, ?_, ?_, ?_, ?_⟩
            · rw [opAs_0 (x := 5) (y := 2) hck q5 (by decide) ha4 (by assumption)]; rfl
            · rfl
            · exact fun zq hzq zn0 => rfl
            · exact Zr.refl
            · rw [opAs_0 (x := 5) (y := 2) hck q5 (by decide) ha4 (by assumption)]; exact K4
        · skip
          refine z_aload_n X 0 dX11_as_26 rfl ?_
          refine z_iload_n X 3 dX11_as_27 rfl ?_
          refine z_callS X (c_isOfKind_2_6 (κ := κ) (n := n) (a := (a)) (v1 := (nI 2)) (v2 := (nI ck)) (v3 := (d (20 + 2 * ck + 1))) zK312 ) mk_X11_isOfKind dX11_as_28 wd_425 wd_426 rfl rfl (Nat.le_of_ble_eq_true rfl) (Nat.le_of_ble_eq_true rfl) (Nat.le_of_ble_eq_true rfl) (by omega) (by omega) (fun q zh433 zm435 zp436 => ?_)
          obtain ⟨rfl, ze434, zn437⟩ := zp436
          subst zm435
          subst zh433
          refine z_st (st' := [.int (b2i (isOfP (nI 2) (nI 6)))]) rfl ?_
          refine z_if_eq X 41 dX11_as_31 (by decide) (fun zc438 => ?_) (fun zc438 => ?_)
          · replace zc438 := b2i_f zc438
            refine z_aload_n X 1 dX11_as_41 rfl ?_
            refine z_iconst (v := 5) X dX11_as_42 (by decide) ?_
            refine z_callV X (c_fail (κ := κ) (n := n) (o := (o)) (im := (im)) (fo := (fo)) (k := (5)) K0 K4 (by first | assumption | omega) (by first | assumption | omega)) mk_X11_fail dX11_as_43 wd_260 wd_262 wd_0 rfl K0 rfl rfl rfl (Nat.le_of_ble_eq_true rfl) (Nat.le_of_ble_eq_true rfl) (Nat.le_of_ble_eq_true rfl) (by omega) (by omega) (fun q zh439 zm441 zp442 => ?_)
            obtain ⟨rfl, ze440, zn443⟩ := zp442
            subst zm441
            refine z_st (st' := [.int (lowE 5)]) rfl ?_
            have zK444 : zh439 o = some (.inr (11, [.ref (o + 1), .ref (o + 14), .ref (o + 27), .ref (o + 33), .ref (o + 42), .ref (o + 55), .ref (o + 57), .ref (o + 59), .ref (o + 61), .int im])) := by rw [ze440]; rw [va_up_ne _ _ (show o ≠ o + 61 by omega)]; exact K0
            have zK445 : zh439 (o + 1) = some (.inr (3, [.ref (o + 1 + 1), .ref (o + 1 + 7), .ref (o + 1 + 9), .ref (o + 1 + 11), .int (d 13)])) := by rw [ze440]; rw [va_up_ne _ _ (show o + 1 ≠ o + 61 by omega)]; exact K1
            have zK446 : zh439 (o + 2) = some (.inr (2, [.ref (o + 3), .ref (o + 4), .ref (o + 5), .ref (o + 6), .ref (o + 7), .int (nI len), .int (d 0), .int (d 2), .int (d 3), .int (nI nc), .int (d 10), .int cold, .int wind])) := by rw [ze440]; rw [va_up_ne _ _ (show o + 2 ≠ o + 61 by omega)]; exact K2
            have zK447 : zh439 (o + 6) = arR κ 1 6 cs := by rw [ze440]; rw [va_up_ne _ _ (show o + 6 ≠ o + 61 by omega)]; exact K3
            have zK448 : zh439 (o + 61) = arI κ 6 (bmp fo 5) := by rw [ze440]; exact va_up_self _ _ _
            have zK449 : zh439 a = some (.inr (8, [.int (nI 2), .int (nI ck), .int (d (20 + 2 * ck + 1))])) := by rw [ze440]; rw [va_up_ne _ _ (show a ≠ o + 61 by omega)]; exact zK312
            have zl450 : ∀ zq : Nat, zq < (o + 76) → zq ≠ (o + 61) → zh439 zq = h zq := by intro zq hzq zn0; rw [ze440, va_up_ne _ _ (show zq ≠ o + 61 by omega)]; try rfl
            have zr451 : Zr κ (o + 76) h zh439 := (Zr.refl).trans (Zr.same (fun zq h1 => by rw [ze440, va_up_ne _ _ (show zq ≠ o + 61 by omega)]))
            refine z_iret X E dX11_as_46 (by omega) (by omega) ⟨?_, ?_, ?_, ?_, ?_⟩
            · rw [opAs_5 (x := 6) (y := 2) hck q5 (by decide) ha4 (by assumption)]; rfl
            · rfl
            · exact fun zq hzq zn0 => zl450 zq hzq zn0
            · exact zr451
            · rw [opAs_5 (x := 6) (y := 2) hck q5 (by decide) ha4 (by assumption)]; exact zK448
          · replace zc438 := b2i_t zc438
            refine z_aload_n X 0 dX11_as_34 rfl ?_
            refine z_get X fl_X11_140_8 dX11_as_35 zK312 rfl ?_
            refine z_goto X 46 dX11_as_38 (by decide) ?_
            refine z_iret X E dX11_as_46 (by omega) (by omega) ⟨?_, ?_, ?_, ?_, ?_⟩
            · rw [opAs_0 (x := 6) (y := 2) hck q5 (by decide) ha4 (by assumption)]; rfl
            · rfl
            · exact fun zq hzq zn0 => rfl
            · exact Zr.refl
            · rw [opAs_0 (x := 6) (y := 2) hck q5 (by decide) ha4 (by assumption)]; exact K4
      · replace zc318 := b2i_f zc318
        refine z_aload_n X 1 dX11_as_20 rfl ?_
        refine z_iconst (v := 1) X dX11_as_21 (by decide) ?_
        refine z_callV X (c_fail (κ := κ) (n := n) (o := (o)) (im := (im)) (fo := (fo)) (k := (1)) K0 K4 (by first | assumption | omega) (by first | assumption | omega)) mk_X11_fail dX11_as_22 wd_260 wd_262 wd_0 rfl K0 rfl rfl rfl (Nat.le_of_ble_eq_true rfl) (Nat.le_of_ble_eq_true rfl) (Nat.le_of_ble_eq_true rfl) (by omega) (by omega) (fun q zh452 zm454 zp455 => ?_)
        obtain ⟨rfl, ze453, zn456⟩ := zp455
        subst zm454
        refine z_st (st' := [.int (lowE 1)]) rfl ?_
        have zK457 : zh452 o = some (.inr (11, [.ref (o + 1), .ref (o + 14), .ref (o + 27), .ref (o + 33), .ref (o + 42), .ref (o + 55), .ref (o + 57), .ref (o + 59), .ref (o + 61), .int im])) := by rw [ze453]; rw [va_up_ne _ _ (show o ≠ o + 61 by omega)]; exact K0
        have zK458 : zh452 (o + 1) = some (.inr (3, [.ref (o + 1 + 1), .ref (o + 1 + 7), .ref (o + 1 + 9), .ref (o + 1 + 11), .int (d 13)])) := by rw [ze453]; rw [va_up_ne _ _ (show o + 1 ≠ o + 61 by omega)]; exact K1
        have zK459 : zh452 (o + 2) = some (.inr (2, [.ref (o + 3), .ref (o + 4), .ref (o + 5), .ref (o + 6), .ref (o + 7), .int (nI len), .int (d 0), .int (d 2), .int (d 3), .int (nI nc), .int (d 10), .int cold, .int wind])) := by rw [ze453]; rw [va_up_ne _ _ (show o + 2 ≠ o + 61 by omega)]; exact K2
        have zK460 : zh452 (o + 6) = arR κ 1 6 cs := by rw [ze453]; rw [va_up_ne _ _ (show o + 6 ≠ o + 61 by omega)]; exact K3
        have zK461 : zh452 (o + 61) = arI κ 6 (bmp fo 1) := by rw [ze453]; exact va_up_self _ _ _
        have zK462 : zh452 a = some (.inr (8, [.int (nI 2), .int (nI ck), .int (d (20 + 2 * ck + 1))])) := by rw [ze453]; rw [va_up_ne _ _ (show a ≠ o + 61 by omega)]; exact zK312
        have zl463 : ∀ zq : Nat, zq < (o + 76) → zq ≠ (o + 61) → zh452 zq = h zq := by intro zq hzq zn0; rw [ze453, va_up_ne _ _ (show zq ≠ o + 61 by omega)]; try rfl
        have zr464 : Zr κ (o + 76) h zh452 := (Zr.refl).trans (Zr.same (fun zq h1 => by rw [ze453, va_up_ne _ _ (show zq ≠ o + 61 by omega)]))
        refine z_iret X E dX11_as_25 (by omega) (by omega) ⟨?_, ?_, ?_, ?_, ?_⟩
        · rw [opAs_e (fun zq => (by assumption : ¬ (0 ≤ w.toInt ∧ w.toInt ≤ 6)) zq.2.2)]; rfl
        · rfl
        · exact fun zq hzq zn0 => zl463 zq hzq zn0
        · exact zr464
        · rw [opAs_e (fun zq => (by assumption : ¬ (0 ≤ w.toInt ∧ w.toInt ≤ 6)) zq.2.2)]; exact zK461
    · skip
      have zK465 : h a = some (.inr (5, [.int (nI 3), .int (nI ck), .int (d (20 + 2 * ck + 1))])) := ha5
      refine z_astore_n (ls' := [(3, .ref a), (0, .ref o), (1, .int (nI ck)), (2, .int w)]) X dX11_as_5 (by decide) rfl ?_
      refine z_aload_n X 0 dX11_as_6 rfl ?_
      refine z_ifnull X dX11_as_7 ?_
      refine z_iload_n X 3 dX11_as_10 rfl ?_
      refine z_iconst (v := 0) X dX11_as_11 (by decide) ?_
      refine z_bipush (v := 6) X dX11_as_12 (by decide) ?_
      refine z_callS X (c_within (κ := κ) (n := n) (v := (w)) (lo := (0)) (hi := (6))  ) mk_X11_within dX11_as_14 wd_259 wd_257 rfl rfl (Nat.le_of_ble_eq_true rfl) (Nat.le_of_ble_eq_true rfl) (Nat.le_of_ble_eq_true rfl) (by omega) (by omega) (fun q zh466 zm468 zp469 => ?_)
      obtain ⟨rfl, ze467, zn470⟩ := zp469
      subst zm468
      subst zh466
      refine z_st (st' := [.int (b2i ((0 : Int32).toInt ≤ (w : Int32).toInt ∧ (w : Int32).toInt ≤ (6 : Int32).toInt))]) rfl ?_
      refine z_toe (y := b2i (0 ≤ w.toInt ∧ w.toInt ≤ 6)) (by simp only [show (0 : Int32).toInt = 0 by decide, show (6 : Int32).toInt = 6 by decide]) ?_
      refine z_if_ne X 26 dX11_as_17 (by decide) (fun zc471 => ?_) (fun zc471 => ?_)
      · replace zc471 := b2i_t zc471
        obtain ⟨wq, hwq, rfl⟩ := ix_of (c := w) (len := 7) (by omega) (by omega)
        rcases lt7 hwq with rfl | rfl | rfl | rfl | rfl | rfl | rfl
        · skip
          refine z_aload_n X 0 dX11_as_26 rfl ?_
          refine z_iload_n X 3 dX11_as_27 rfl ?_
          refine z_callS X (c_isOfKind_3_0 (κ := κ) (n := n) (a := (a)) (v1 := (nI 3)) (v2 := (nI ck)) (v3 := (d (20 + 2 * ck + 1))) zK465 ) mk_X11_isOfKind dX11_as_28 wd_425 wd_426 rfl rfl (Nat.le_of_ble_eq_true rfl) (Nat.le_of_ble_eq_true rfl) (Nat.le_of_ble_eq_true rfl) (by omega) (by omega) (fun q zh472 zm474 zp475 => ?_)
          obtain ⟨rfl, ze473, zn476⟩ := zp475
          subst zm474
          subst zh472
          refine z_st (st' := [.int (b2i (isOfP (nI 3) (nI 0)))]) rfl ?_
          refine z_if_eq X 41 dX11_as_31 (by decide) (fun zc477 => ?_) (fun zc477 => ?_)
          · replace zc477 := b2i_f zc477
            refine z_aload_n X 1 dX11_as_41 rfl ?_
            refine z_iconst (v := 5) X dX11_as_42 (by decide) ?_
            refine z_callV X (c_fail (κ := κ) (n := n) (o := (o)) (im := (im)) (fo := (fo)) (k := (5)) K0 K4 (by first | assumption | omega) (by first | assumption | omega)) mk_X11_fail dX11_as_43 wd_260 wd_262 wd_0 rfl K0 rfl rfl rfl (Nat.le_of_ble_eq_true rfl) (Nat.le_of_ble_eq_true rfl) (Nat.le_of_ble_eq_true rfl) (by omega) (by omega) (fun q zh478 zm480 zp481 => ?_)
            obtain ⟨rfl, ze479, zn482⟩ := zp481
            subst zm480
            refine z_st (st' := [.int (lowE 5)]) rfl ?_
            have zK483 : zh478 o = some (.inr (11, [.ref (o + 1), .ref (o + 14), .ref (o + 27), .ref (o + 33), .ref (o + 42), .ref (o + 55), .ref (o + 57), .ref (o + 59), .ref (o + 61), .int im])) := by rw [ze479]; rw [va_up_ne _ _ (show o ≠ o + 61 by omega)]; exact K0
            have zK484 : zh478 (o + 1) = some (.inr (3, [.ref (o + 1 + 1), .ref (o + 1 + 7), .ref (o + 1 + 9), .ref (o + 1 + 11), .int (d 13)])) := by rw [ze479]; rw [va_up_ne _ _ (show o + 1 ≠ o + 61 by omega)]; exact K1
            have zK485 : zh478 (o + 2) = some (.inr (2, [.ref (o + 3), .ref (o + 4), .ref (o + 5), .ref (o + 6), .ref (o + 7), .int (nI len), .int (d 0), .int (d 2), .int (d 3), .int (nI nc), .int (d 10), .int cold, .int wind])) := by rw [ze479]; rw [va_up_ne _ _ (show o + 2 ≠ o + 61 by omega)]; exact K2
            have zK486 : zh478 (o + 6) = arR κ 1 6 cs := by rw [ze479]; rw [va_up_ne _ _ (show o + 6 ≠ o + 61 by omega)]; exact K3
            have zK487 : zh478 (o + 61) = arI κ 6 (bmp fo 5) := by rw [ze479]; exact va_up_self _ _ _
            have zK488 : zh478 a = some (.inr (5, [.int (nI 3), .int (nI ck), .int (d (20 + 2 * ck + 1))])) := by rw [ze479]; rw [va_up_ne _ _ (show a ≠ o + 61 by omega)]; exact zK465
            have zl489 : ∀ zq : Nat, zq < (o + 76) → zq ≠ (o + 61) → zh478 zq = h zq := by intro zq hzq zn0; rw [ze479, va_up_ne _ _ (show zq ≠ o + 61 by omega)]; try rfl
            have zr490 : Zr κ (o + 76) h zh478 := (Zr.refl).trans (Zr.same (fun zq h1 => by rw [ze479, va_up_ne _ _ (show zq ≠ o + 61 by omega)]))
            refine z_iret X E dX11_as_46 (by omega) (by omega) ⟨?_, ?_, ?_, ?_, ?_⟩
            · rw [opAs_5 (x := 0) (y := 3) hck q5 (by decide) ha4 (by assumption)]; rfl
            · rfl
            · exact fun zq hzq zn0 => zl489 zq hzq zn0
            · exact zr490
            · rw [opAs_5 (x := 0) (y := 3) hck q5 (by decide) ha4 (by assumption)]; exact zK487
          · replace zc477 := b2i_t zc477
            refine z_aload_n X 0 dX11_as_34 rfl ?_
            refine z_get X fl_X11_140_5 dX11_as_35 zK465 rfl ?_
            refine z_goto X 46 dX11_as_38 (by decide) ?_
            refine z_iret X E dX11_as_46 (by omega) (by omega) ⟨?_, ?_, ?_, ?_, ?_⟩
            · rw [opAs_0 (x := 0) (y := 3) hck q5 (by decide) ha4 (by assumption)]; rfl
            · rfl
            · exact fun zq hzq zn0 => rfl
            · exact Zr.refl
            · rw [opAs_0 (x := 0) (y := 3) hck q5 (by decide) ha4 (by assumption)]; exact K4
        · skip
          refine z_aload_n X 0 dX11_as_26 rfl ?_
          refine z_iload_n X 3 dX11_as_27 rfl ?_
          refine z_callS X (c_isOfKind_3_1 (κ := κ) (n := n) (a := (a)) (v1 := (nI 3)) (v2 := (nI ck)) (v3 := (d (20 + 2 * ck + 1))) zK465 ) mk_X11_isOfKind dX11_as_28 wd_425 wd_426 rfl rfl (Nat.le_of_ble_eq_true rfl) (Nat.le_of_ble_eq_true rfl) (Nat.le_of_ble_eq_true rfl) (by omega) (by omega) (fun q zh491 zm493 zp494 => ?_)
          obtain ⟨rfl, ze492, zn495⟩ := zp494
          subst zm493
          subst zh491
          refine z_st (st' := [.int (b2i (isOfP (nI 3) (nI 1)))]) rfl ?_
          refine z_if_eq X 41 dX11_as_31 (by decide) (fun zc496 => ?_) (fun zc496 => ?_)
          · replace zc496 := b2i_f zc496
            refine z_aload_n X 1 dX11_as_41 rfl ?_
            refine z_iconst (v := 5) X dX11_as_42 (by decide) ?_
            refine z_callV X (c_fail (κ := κ) (n := n) (o := (o)) (im := (im)) (fo := (fo)) (k := (5)) K0 K4 (by first | assumption | omega) (by first | assumption | omega)) mk_X11_fail dX11_as_43 wd_260 wd_262 wd_0 rfl K0 rfl rfl rfl (Nat.le_of_ble_eq_true rfl) (Nat.le_of_ble_eq_true rfl) (Nat.le_of_ble_eq_true rfl) (by omega) (by omega) (fun q zh497 zm499 zp500 => ?_)
            obtain ⟨rfl, ze498, zn501⟩ := zp500
            subst zm499
            refine z_st (st' := [.int (lowE 5)]) rfl ?_
            have zK502 : zh497 o = some (.inr (11, [.ref (o + 1), .ref (o + 14), .ref (o + 27), .ref (o + 33), .ref (o + 42), .ref (o + 55), .ref (o + 57), .ref (o + 59), .ref (o + 61), .int im])) := by rw [ze498]; rw [va_up_ne _ _ (show o ≠ o + 61 by omega)]; exact K0
            have zK503 : zh497 (o + 1) = some (.inr (3, [.ref (o + 1 + 1), .ref (o + 1 + 7), .ref (o + 1 + 9), .ref (o + 1 + 11), .int (d 13)])) := by rw [ze498]; rw [va_up_ne _ _ (show o + 1 ≠ o + 61 by omega)]; exact K1
            have zK504 : zh497 (o + 2) = some (.inr (2, [.ref (o + 3), .ref (o + 4), .ref (o + 5), .ref (o + 6), .ref (o + 7), .int (nI len), .int (d 0), .int (d 2), .int (d 3), .int (nI nc), .int (d 10), .int cold, .int wind])) := by rw [ze498]; rw [va_up_ne _ _ (show o + 2 ≠ o + 61 by omega)]; exact K2
            have zK505 : zh497 (o + 6) = arR κ 1 6 cs := by rw [ze498]; rw [va_up_ne _ _ (show o + 6 ≠ o + 61 by omega)]; exact K3
            have zK506 : zh497 (o + 61) = arI κ 6 (bmp fo 5) := by rw [ze498]; exact va_up_self _ _ _
            have zK507 : zh497 a = some (.inr (5, [.int (nI 3), .int (nI ck), .int (d (20 + 2 * ck + 1))])) := by rw [ze498]; rw [va_up_ne _ _ (show a ≠ o + 61 by omega)]; exact zK465
            have zl508 : ∀ zq : Nat, zq < (o + 76) → zq ≠ (o + 61) → zh497 zq = h zq := by intro zq hzq zn0; rw [ze498, va_up_ne _ _ (show zq ≠ o + 61 by omega)]; try rfl
            have zr509 : Zr κ (o + 76) h zh497 := (Zr.refl).trans (Zr.same (fun zq h1 => by rw [ze498, va_up_ne _ _ (show zq ≠ o + 61 by omega)]))
            refine z_iret X E dX11_as_46 (by omega) (by omega) ⟨?_, ?_, ?_, ?_, ?_⟩
            · rw [opAs_5 (x := 1) (y := 3) hck q5 (by decide) ha4 (by assumption)]; rfl
            · rfl
            · exact fun zq hzq zn0 => zl508 zq hzq zn0
            · exact zr509
            · rw [opAs_5 (x := 1) (y := 3) hck q5 (by decide) ha4 (by assumption)]; exact zK506
          · replace zc496 := b2i_t zc496
            refine z_aload_n X 0 dX11_as_34 rfl ?_
            refine z_get X fl_X11_140_5 dX11_as_35 zK465 rfl ?_
            refine z_goto X 46 dX11_as_38 (by decide) ?_
            refine z_iret X E dX11_as_46 (by omega) (by omega) ⟨?_, ?_, ?_, ?_, ?_⟩
            · rw [opAs_0 (x := 1) (y := 3) hck q5 (by decide) ha4 (by assumption)]; rfl
            · rfl
            · exact fun zq hzq zn0 => rfl
            · exact Zr.refl
            · rw [opAs_0 (x := 1) (y := 3) hck q5 (by decide) ha4 (by assumption)]; exact K4
        · skip
          refine z_aload_n X 0 dX11_as_26 rfl ?_
          refine z_iload_n X 3 dX11_as_27 rfl ?_
          refine z_callS X (c_isOfKind_3_2 (κ := κ) (n := n) (a := (a)) (v1 := (nI 3)) (v2 := (nI ck)) (v3 := (d (20 + 2 * ck + 1))) zK465 ) mk_X11_isOfKind dX11_as_28 wd_425 wd_426 rfl rfl (Nat.le_of_ble_eq_true rfl) (Nat.le_of_ble_eq_true rfl) (Nat.le_of_ble_eq_true rfl) (by omega) (by omega) (fun q zh510 zm512 zp513 => ?_)
          obtain ⟨rfl, ze511, zn514⟩ := zp513
          subst zm512
          subst zh510
          refine z_st (st' := [.int (b2i (isOfP (nI 3) (nI 2)))]) rfl ?_
          refine z_if_eq X 41 dX11_as_31 (by decide) (fun zc515 => ?_) (fun zc515 => ?_)
          · replace zc515 := b2i_f zc515
            refine z_aload_n X 1 dX11_as_41 rfl ?_
            refine z_iconst (v := 5) X dX11_as_42 (by decide) ?_
            refine z_callV X (c_fail (κ := κ) (n := n) (o := (o)) (im := (im)) (fo := (fo)) (k := (5)) K0 K4 (by first | assumption | omega) (by first | assumption | omega)) mk_X11_fail dX11_as_43 wd_260 wd_262 wd_0 rfl K0 rfl rfl rfl (Nat.le_of_ble_eq_true rfl) (Nat.le_of_ble_eq_true rfl) (Nat.le_of_ble_eq_true rfl) (by omega) (by omega) (fun q zh516 zm518 zp519 => ?_)
            obtain ⟨rfl, ze517, zn520⟩ := zp519
            subst zm518
            refine z_st (st' := [.int (lowE 5)]) rfl ?_
            have zK521 : zh516 o = some (.inr (11, [.ref (o + 1), .ref (o + 14), .ref (o + 27), .ref (o + 33), .ref (o + 42), .ref (o + 55), .ref (o + 57), .ref (o + 59), .ref (o + 61), .int im])) := by rw [ze517]; rw [va_up_ne _ _ (show o ≠ o + 61 by omega)]; exact K0
            have zK522 : zh516 (o + 1) = some (.inr (3, [.ref (o + 1 + 1), .ref (o + 1 + 7), .ref (o + 1 + 9), .ref (o + 1 + 11), .int (d 13)])) := by rw [ze517]; rw [va_up_ne _ _ (show o + 1 ≠ o + 61 by omega)]; exact K1
            have zK523 : zh516 (o + 2) = some (.inr (2, [.ref (o + 3), .ref (o + 4), .ref (o + 5), .ref (o + 6), .ref (o + 7), .int (nI len), .int (d 0), .int (d 2), .int (d 3), .int (nI nc), .int (d 10), .int cold, .int wind])) := by rw [ze517]; rw [va_up_ne _ _ (show o + 2 ≠ o + 61 by omega)]; exact K2
            have zK524 : zh516 (o + 6) = arR κ 1 6 cs := by rw [ze517]; rw [va_up_ne _ _ (show o + 6 ≠ o + 61 by omega)]; exact K3
            have zK525 : zh516 (o + 61) = arI κ 6 (bmp fo 5) := by rw [ze517]; exact va_up_self _ _ _
            have zK526 : zh516 a = some (.inr (5, [.int (nI 3), .int (nI ck), .int (d (20 + 2 * ck + 1))])) := by rw [ze517]; rw [va_up_ne _ _ (show a ≠ o + 61 by omega)]; exact zK465
            have zl527 : ∀ zq : Nat, zq < (o + 76) → zq ≠ (o + 61) → zh516 zq = h zq := by intro zq hzq zn0; rw [ze517, va_up_ne _ _ (show zq ≠ o + 61 by omega)]; try rfl
            have zr528 : Zr κ (o + 76) h zh516 := (Zr.refl).trans (Zr.same (fun zq h1 => by rw [ze517, va_up_ne _ _ (show zq ≠ o + 61 by omega)]))
            refine z_iret X E dX11_as_46 (by omega) (by omega) ⟨?_, ?_, ?_, ?_, ?_⟩
            · rw [opAs_5 (x := 2) (y := 3) hck q5 (by decide) ha4 (by assumption)]; rfl
            · rfl
            · exact fun zq hzq zn0 => zl527 zq hzq zn0
            · exact zr528
            · rw [opAs_5 (x := 2) (y := 3) hck q5 (by decide) ha4 (by assumption)]; exact zK525
          · replace zc515 := b2i_t zc515
            refine z_aload_n X 0 dX11_as_34 rfl ?_
            refine z_get X fl_X11_140_5 dX11_as_35 zK465 rfl ?_
            refine z_goto X 46 dX11_as_38 (by decide) ?_
            refine z_iret X E dX11_as_46 (by omega) (by omega) ⟨?_, ?_, ?_, ?_, ?_⟩
            · rw [opAs_0 (x := 2) (y := 3) hck q5 (by decide) ha4 (by assumption)]; rfl
            · rfl
            · exact fun zq hzq zn0 => rfl
            · exact Zr.refl
            · rw [opAs_0 (x := 2) (y := 3) hck q5 (by decide) ha4 (by assumption)]; exact K4
        · skip
          refine z_aload_n X 0 dX11_as_26 rfl ?_
          refine z_iload_n X 3 dX11_as_27 rfl ?_
          refine z_callS X (c_isOfKind_3_3 (κ := κ) (n := n) (a := (a)) (v1 := (nI 3)) (v2 := (nI ck)) (v3 := (d (20 + 2 * ck + 1))) zK465 ) mk_X11_isOfKind dX11_as_28 wd_425 wd_426 rfl rfl (Nat.le_of_ble_eq_true rfl) (Nat.le_of_ble_eq_true rfl) (Nat.le_of_ble_eq_true rfl) (by omega) (by omega) (fun q zh529 zm531 zp532 => ?_)
          obtain ⟨rfl, ze530, zn533⟩ := zp532
          subst zm531
          subst zh529
          refine z_st (st' := [.int (b2i (isOfP (nI 3) (nI 3)))]) rfl ?_
          refine z_if_eq X 41 dX11_as_31 (by decide) (fun zc534 => ?_) (fun zc534 => ?_)
          · replace zc534 := b2i_f zc534
            refine z_aload_n X 1 dX11_as_41 rfl ?_
            refine z_iconst (v := 5) X dX11_as_42 (by decide) ?_
            refine z_callV X (c_fail (κ := κ) (n := n) (o := (o)) (im := (im)) (fo := (fo)) (k := (5)) K0 K4 (by first | assumption | omega) (by first | assumption | omega)) mk_X11_fail dX11_as_43 wd_260 wd_262 wd_0 rfl K0 rfl rfl rfl (Nat.le_of_ble_eq_true rfl) (Nat.le_of_ble_eq_true rfl) (Nat.le_of_ble_eq_true rfl) (by omega) (by omega) (fun q zh535 zm537 zp538 => ?_)
            obtain ⟨rfl, ze536, zn539⟩ := zp538
            subst zm537
            refine z_st (st' := [.int (lowE 5)]) rfl ?_
            have zK540 : zh535 o = some (.inr (11, [.ref (o + 1), .ref (o + 14), .ref (o + 27), .ref (o + 33), .ref (o + 42), .ref (o + 55), .ref (o + 57), .ref (o + 59), .ref (o + 61), .int im])) := by rw [ze536]; rw [va_up_ne _ _ (show o ≠ o + 61 by omega)]; exact K0
            have zK541 : zh535 (o + 1) = some (.inr (3, [.ref (o + 1 + 1), .ref (o + 1 + 7), .ref (o + 1 + 9), .ref (o + 1 + 11), .int (d 13)])) := by rw [ze536]; rw [va_up_ne _ _ (show o + 1 ≠ o + 61 by omega)]; exact K1
            have zK542 : zh535 (o + 2) = some (.inr (2, [.ref (o + 3), .ref (o + 4), .ref (o + 5), .ref (o + 6), .ref (o + 7), .int (nI len), .int (d 0), .int (d 2), .int (d 3), .int (nI nc), .int (d 10), .int cold, .int wind])) := by rw [ze536]; rw [va_up_ne _ _ (show o + 2 ≠ o + 61 by omega)]; exact K2
            have zK543 : zh535 (o + 6) = arR κ 1 6 cs := by rw [ze536]; rw [va_up_ne _ _ (show o + 6 ≠ o + 61 by omega)]; exact K3
            have zK544 : zh535 (o + 61) = arI κ 6 (bmp fo 5) := by rw [ze536]; exact va_up_self _ _ _
            have zK545 : zh535 a = some (.inr (5, [.int (nI 3), .int (nI ck), .int (d (20 + 2 * ck + 1))])) := by rw [ze536]; rw [va_up_ne _ _ (show a ≠ o + 61 by omega)]; exact zK465
            have zl546 : ∀ zq : Nat, zq < (o + 76) → zq ≠ (o + 61) → zh535 zq = h zq := by intro zq hzq zn0; rw [ze536, va_up_ne _ _ (show zq ≠ o + 61 by omega)]; try rfl
            have zr547 : Zr κ (o + 76) h zh535 := (Zr.refl).trans (Zr.same (fun zq h1 => by rw [ze536, va_up_ne _ _ (show zq ≠ o + 61 by omega)]))
            refine z_iret X E dX11_as_46 (by omega) (by omega) ⟨?_, ?_, ?_, ?_, ?_⟩
            · rw [opAs_5 (x := 3) (y := 3) hck q5 (by decide) ha4 (by assumption)]; rfl
            · rfl
            · exact fun zq hzq zn0 => zl546 zq hzq zn0
            · exact zr547
            · rw [opAs_5 (x := 3) (y := 3) hck q5 (by decide) ha4 (by assumption)]; exact zK544
          · replace zc534 := b2i_t zc534
            refine z_aload_n X 0 dX11_as_34 rfl ?_
            refine z_get X fl_X11_140_5 dX11_as_35 zK465 rfl ?_
            refine z_goto X 46 dX11_as_38 (by decide) ?_
            refine z_iret X E dX11_as_46 (by omega) (by omega) ⟨?_, ?_, ?_, ?_, ?_⟩
            · rw [opAs_0 (x := 3) (y := 3) hck q5 (by decide) ha4 (by assumption)]; rfl
            · rfl
            · exact fun zq hzq zn0 => rfl
            · exact Zr.refl
            · rw [opAs_0 (x := 3) (y := 3) hck q5 (by decide) ha4 (by assumption)]; exact K4
        · skip
          refine z_aload_n X 0 dX11_as_26 rfl ?_
          refine z_iload_n X 3 dX11_as_27 rfl ?_
          refine z_callS X (c_isOfKind_3_4 (κ := κ) (n := n) (a := (a)) (v1 := (nI 3)) (v2 := (nI ck)) (v3 := (d (20 + 2 * ck + 1))) zK465 ) mk_X11_isOfKind dX11_as_28 wd_425 wd_426 rfl rfl (Nat.le_of_ble_eq_true rfl) (Nat.le_of_ble_eq_true rfl) (Nat.le_of_ble_eq_true rfl) (by omega) (by omega) (fun q zh548 zm550 zp551 => ?_)
          obtain ⟨rfl, ze549, zn552⟩ := zp551
          subst zm550
          subst zh548
          refine z_st (st' := [.int (b2i (isOfP (nI 3) (nI 4)))]) rfl ?_
          refine z_if_eq X 41 dX11_as_31 (by decide) (fun zc553 => ?_) (fun zc553 => ?_)
          · replace zc553 := b2i_f zc553
            refine z_aload_n X 1 dX11_as_41 rfl ?_
            refine z_iconst (v := 5) X dX11_as_42 (by decide) ?_
            refine z_callV X (c_fail (κ := κ) (n := n) (o := (o)) (im := (im)) (fo := (fo)) (k := (5)) K0 K4 (by first | assumption | omega) (by first | assumption | omega)) mk_X11_fail dX11_as_43 wd_260 wd_262 wd_0 rfl K0 rfl rfl rfl (Nat.le_of_ble_eq_true rfl) (Nat.le_of_ble_eq_true rfl) (Nat.le_of_ble_eq_true rfl) (by omega) (by omega) (fun q zh554 zm556 zp557 => ?_)
            obtain ⟨rfl, ze555, zn558⟩ := zp557
            subst zm556
            refine z_st (st' := [.int (lowE 5)]) rfl ?_
            have zK559 : zh554 o = some (.inr (11, [.ref (o + 1), .ref (o + 14), .ref (o + 27), .ref (o + 33), .ref (o + 42), .ref (o + 55), .ref (o + 57), .ref (o + 59), .ref (o + 61), .int im])) := by rw [ze555]; rw [va_up_ne _ _ (show o ≠ o + 61 by omega)]; exact K0
            have zK560 : zh554 (o + 1) = some (.inr (3, [.ref (o + 1 + 1), .ref (o + 1 + 7), .ref (o + 1 + 9), .ref (o + 1 + 11), .int (d 13)])) := by rw [ze555]; rw [va_up_ne _ _ (show o + 1 ≠ o + 61 by omega)]; exact K1
            have zK561 : zh554 (o + 2) = some (.inr (2, [.ref (o + 3), .ref (o + 4), .ref (o + 5), .ref (o + 6), .ref (o + 7), .int (nI len), .int (d 0), .int (d 2), .int (d 3), .int (nI nc), .int (d 10), .int cold, .int wind])) := by rw [ze555]; rw [va_up_ne _ _ (show o + 2 ≠ o + 61 by omega)]; exact K2
            have zK562 : zh554 (o + 6) = arR κ 1 6 cs := by rw [ze555]; rw [va_up_ne _ _ (show o + 6 ≠ o + 61 by omega)]; exact K3
            have zK563 : zh554 (o + 61) = arI κ 6 (bmp fo 5) := by rw [ze555]; exact va_up_self _ _ _
            have zK564 : zh554 a = some (.inr (5, [.int (nI 3), .int (nI ck), .int (d (20 + 2 * ck + 1))])) := by rw [ze555]; rw [va_up_ne _ _ (show a ≠ o + 61 by omega)]; exact zK465
            have zl565 : ∀ zq : Nat, zq < (o + 76) → zq ≠ (o + 61) → zh554 zq = h zq := by intro zq hzq zn0; rw [ze555, va_up_ne _ _ (show zq ≠ o + 61 by omega)]; try rfl
            have zr566 : Zr κ (o + 76) h zh554 := (Zr.refl).trans (Zr.same (fun zq h1 => by rw [ze555, va_up_ne _ _ (show zq ≠ o + 61 by omega)]))
            refine z_iret X E dX11_as_46 (by omega) (by omega) ⟨?_, ?_, ?_, ?_, ?_⟩
            · rw [opAs_5 (x := 4) (y := 3) hck q5 (by decide) ha4 (by assumption)]; rfl
            · rfl
            · exact fun zq hzq zn0 => zl565 zq hzq zn0
            · exact zr566
            · rw [opAs_5 (x := 4) (y := 3) hck q5 (by decide) ha4 (by assumption)]; exact zK563
          · replace zc553 := b2i_t zc553
            refine z_aload_n X 0 dX11_as_34 rfl ?_
            refine z_get X fl_X11_140_5 dX11_as_35 zK465 rfl ?_
            refine z_goto X 46 dX11_as_38 (by decide) ?_
            refine z_iret X E dX11_as_46 (by omega) (by omega) ⟨?_, ?_, ?_, ?_, ?_⟩
            · rw [opAs_0 (x := 4) (y := 3) hck q5 (by decide) ha4 (by assumption)]; rfl
            · rfl
            · exact fun zq hzq zn0 => rfl
            · exact Zr.refl
            · rw [opAs_0 (x := 4) (y := 3) hck q5 (by decide) ha4 (by assumption)]; exact K4
        · skip
          refine z_aload_n X 0 dX11_as_26 rfl ?_
          refine z_iload_n X 3 dX11_as_27 rfl ?_
          refine z_callS X (c_isOfKind_3_5 (κ := κ) (n := n) (a := (a)) (v1 := (nI 3)) (v2 := (nI ck)) (v3 := (d (20 + 2 * ck + 1))) zK465 ) mk_X11_isOfKind dX11_as_28 wd_425 wd_426 rfl rfl (Nat.le_of_ble_eq_true rfl) (Nat.le_of_ble_eq_true rfl) (Nat.le_of_ble_eq_true rfl) (by omega) (by omega) (fun q zh567 zm569 zp570 => ?_)
          obtain ⟨rfl, ze568, zn571⟩ := zp570
          subst zm569
          subst zh567
          refine z_st (st' := [.int (b2i (isOfP (nI 3) (nI 5)))]) rfl ?_
          refine z_if_eq X 41 dX11_as_31 (by decide) (fun zc572 => ?_) (fun zc572 => ?_)
          · replace zc572 := b2i_f zc572
            refine z_aload_n X 1 dX11_as_41 rfl ?_
            refine z_iconst (v := 5) X dX11_as_42 (by decide) ?_
            refine z_callV X (c_fail (κ := κ) (n := n) (o := (o)) (im := (im)) (fo := (fo)) (k := (5)) K0 K4 (by first | assumption | omega) (by first | assumption | omega)) mk_X11_fail dX11_as_43 wd_260 wd_262 wd_0 rfl K0 rfl rfl rfl (Nat.le_of_ble_eq_true rfl) (Nat.le_of_ble_eq_true rfl) (Nat.le_of_ble_eq_true rfl) (by omega) (by omega) (fun q zh573 zm575 zp576 => ?_)
            obtain ⟨rfl, ze574, zn577⟩ := zp576
            subst zm575
            refine z_st (st' := [.int (lowE 5)]) rfl ?_
            have zK578 : zh573 o = some (.inr (11, [.ref (o + 1), .ref (o + 14), .ref (o + 27), .ref (o + 33), .ref (o + 42), .ref (o + 55), .ref (o + 57), .ref (o + 59), .ref (o + 61), .int im])) := by rw [ze574]; rw [va_up_ne _ _ (show o ≠ o + 61 by omega)]; exact K0
            have zK579 : zh573 (o + 1) = some (.inr (3, [.ref (o + 1 + 1), .ref (o + 1 + 7), .ref (o + 1 + 9), .ref (o + 1 + 11), .int (d 13)])) := by rw [ze574]; rw [va_up_ne _ _ (show o + 1 ≠ o + 61 by omega)]; exact K1
            have zK580 : zh573 (o + 2) = some (.inr (2, [.ref (o + 3), .ref (o + 4), .ref (o + 5), .ref (o + 6), .ref (o + 7), .int (nI len), .int (d 0), .int (d 2), .int (d 3), .int (nI nc), .int (d 10), .int cold, .int wind])) := by rw [ze574]; rw [va_up_ne _ _ (show o + 2 ≠ o + 61 by omega)]; exact K2
            have zK581 : zh573 (o + 6) = arR κ 1 6 cs := by rw [ze574]; rw [va_up_ne _ _ (show o + 6 ≠ o + 61 by omega)]; exact K3
            have zK582 : zh573 (o + 61) = arI κ 6 (bmp fo 5) := by rw [ze574]; exact va_up_self _ _ _
            have zK583 : zh573 a = some (.inr (5, [.int (nI 3), .int (nI ck), .int (d (20 + 2 * ck + 1))])) := by rw [ze574]; rw [va_up_ne _ _ (show a ≠ o + 61 by omega)]; exact zK465
            have zl584 : ∀ zq : Nat, zq < (o + 76) → zq ≠ (o + 61) → zh573 zq = h zq := by intro zq hzq zn0; rw [ze574, va_up_ne _ _ (show zq ≠ o + 61 by omega)]; try rfl
            have zr585 : Zr κ (o + 76) h zh573 := (Zr.refl).trans (Zr.same (fun zq h1 => by rw [ze574, va_up_ne _ _ (show zq ≠ o + 61 by omega)]))
            refine z_iret X E dX11_as_46 (by omega) (by omega) ⟨?_, ?_, ?_, ?_, ?_⟩
            · rw [opAs_5 (x := 5) (y := 3) hck q5 (by decide) ha4 (by assumption)]; rfl
            · rfl
            · exact fun zq hzq zn0 => zl584 zq hzq zn0
            · exact zr585
            · rw [opAs_5 (x := 5) (y := 3) hck q5 (by decide) ha4 (by assumption)]; exact zK582
          · replace zc572 := b2i_t zc572
            refine z_aload_n X 0 dX11_as_34 rfl ?_
            refine z_get X fl_X11_140_5 dX11_as_35 zK465 rfl ?_
            refine z_goto X 46 dX11_as_38 (by decide) ?_
            refine z_iret X E dX11_as_46 (by omega) (by omega) ⟨?_, ?_, ?_, ?_, ?_⟩
            · rw [opAs_0 (x := 5) (y := 3) hck q5 (by decide) ha4 (by assumption)]; rfl
            · rfl
            · exact fun zq hzq zn0 => rfl
            · exact Zr.refl
            · rw [opAs_0 (x := 5) (y := 3) hck q5 (by decide) ha4 (by assumption)]; exact K4
        · skip
          refine z_aload_n X 0 dX11_as_26 rfl ?_
          refine z_iload_n X 3 dX11_as_27 rfl ?_
          refine z_callS X (c_isOfKind_3_6 (κ := κ) (n := n) (a := (a)) (v1 := (nI 3)) (v2 := (nI ck)) (v3 := (d (20 + 2 * ck + 1))) zK465 ) mk_X11_isOfKind dX11_as_28 wd_425 wd_426 rfl rfl (Nat.le_of_ble_eq_true rfl) (Nat.le_of_ble_eq_true rfl) (Nat.le_of_ble_eq_true rfl) (by omega) (by omega) (fun q zh586 zm588 zp589 => ?_)
          obtain ⟨rfl, ze587, zn590⟩ := zp589
          subst zm588
          subst zh586
          refine z_st (st' := [.int (b2i (isOfP (nI 3) (nI 6)))]) rfl ?_
          refine z_if_eq X 41 dX11_as_31 (by decide) (fun zc591 => ?_) (fun zc591 => ?_)
          · replace zc591 := b2i_f zc591
            refine z_aload_n X 1 dX11_as_41 rfl ?_
            refine z_iconst (v := 5) X dX11_as_42 (by decide) ?_
            refine z_callV X (c_fail (κ := κ) (n := n) (o := (o)) (im := (im)) (fo := (fo)) (k := (5)) K0 K4 (by first | assumption | omega) (by first | assumption | omega)) mk_X11_fail dX11_as_43 wd_260 wd_262 wd_0 rfl K0 rfl rfl rfl (Nat.le_of_ble_eq_true rfl) (Nat.le_of_ble_eq_true rfl) (Nat.le_of_ble_eq_true rfl) (by omega) (by omega) (fun q zh592 zm594 zp595 => ?_)
            obtain ⟨rfl, ze593, zn596⟩ := zp595
            subst zm594
            refine z_st (st' := [.int (lowE 5)]) rfl ?_
            have zK597 : zh592 o = some (.inr (11, [.ref (o + 1), .ref (o + 14), .ref (o + 27), .ref (o + 33), .ref (o + 42), .ref (o + 55), .ref (o + 57), .ref (o + 59), .ref (o + 61), .int im])) := by rw [ze593]; rw [va_up_ne _ _ (show o ≠ o + 61 by omega)]; exact K0
            have zK598 : zh592 (o + 1) = some (.inr (3, [.ref (o + 1 + 1), .ref (o + 1 + 7), .ref (o + 1 + 9), .ref (o + 1 + 11), .int (d 13)])) := by rw [ze593]; rw [va_up_ne _ _ (show o + 1 ≠ o + 61 by omega)]; exact K1
            have zK599 : zh592 (o + 2) = some (.inr (2, [.ref (o + 3), .ref (o + 4), .ref (o + 5), .ref (o + 6), .ref (o + 7), .int (nI len), .int (d 0), .int (d 2), .int (d 3), .int (nI nc), .int (d 10), .int cold, .int wind])) := by rw [ze593]; rw [va_up_ne _ _ (show o + 2 ≠ o + 61 by omega)]; exact K2
            have zK600 : zh592 (o + 6) = arR κ 1 6 cs := by rw [ze593]; rw [va_up_ne _ _ (show o + 6 ≠ o + 61 by omega)]; exact K3
            have zK601 : zh592 (o + 61) = arI κ 6 (bmp fo 5) := by rw [ze593]; exact va_up_self _ _ _
            have zK602 : zh592 a = some (.inr (5, [.int (nI 3), .int (nI ck), .int (d (20 + 2 * ck + 1))])) := by rw [ze593]; rw [va_up_ne _ _ (show a ≠ o + 61 by omega)]; exact zK465
            have zl603 : ∀ zq : Nat, zq < (o + 76) → zq ≠ (o + 61) → zh592 zq = h zq := by intro zq hzq zn0; rw [ze593, va_up_ne _ _ (show zq ≠ o + 61 by omega)]; try rfl
            have zr604 : Zr κ (o + 76) h zh592 := (Zr.refl).trans (Zr.same (fun zq h1 => by rw [ze593, va_up_ne _ _ (show zq ≠ o + 61 by omega)]))
            refine z_iret X E dX11_as_46 (by omega) (by omega) ⟨?_, ?_, ?_, ?_, ?_⟩
            · rw [opAs_5 (x := 6) (y := 3) hck q5 (by decide) ha4 (by assumption)]; rfl
            · rfl
            · exact fun zq hzq zn0 => zl603 zq hzq zn0
            · exact zr604
            · rw [opAs_5 (x := 6) (y := 3) hck q5 (by decide) ha4 (by assumption)]; exact zK601
          · replace zc591 := b2i_t zc591
            refine z_aload_n X 0 dX11_as_34 rfl ?_
            refine z_get X fl_X11_140_5 dX11_as_35 zK465 rfl ?_
            refine z_goto X 46 dX11_as_38 (by decide) ?_
            refine z_iret X E dX11_as_46 (by omega) (by omega) ⟨?_, ?_, ?_, ?_, ?_⟩
            · rw [opAs_0 (x := 6) (y := 3) hck q5 (by decide) ha4 (by assumption)]; rfl
            · rfl
            · exact fun zq hzq zn0 => rfl
            · exact Zr.refl
            · rw [opAs_0 (x := 6) (y := 3) hck q5 (by decide) ha4 (by assumption)]; exact K4
      · replace zc471 := b2i_f zc471
        refine z_aload_n X 1 dX11_as_20 rfl ?_
        refine z_iconst (v := 1) X dX11_as_21 (by decide) ?_
        refine z_callV X (c_fail (κ := κ) (n := n) (o := (o)) (im := (im)) (fo := (fo)) (k := (1)) K0 K4 (by first | assumption | omega) (by first | assumption | omega)) mk_X11_fail dX11_as_22 wd_260 wd_262 wd_0 rfl K0 rfl rfl rfl (Nat.le_of_ble_eq_true rfl) (Nat.le_of_ble_eq_true rfl) (Nat.le_of_ble_eq_true rfl) (by omega) (by omega) (fun q zh605 zm607 zp608 => ?_)
        obtain ⟨rfl, ze606, zn609⟩ := zp608
        subst zm607
        refine z_st (st' := [.int (lowE 1)]) rfl ?_
        have zK610 : zh605 o = some (.inr (11, [.ref (o + 1), .ref (o + 14), .ref (o + 27), .ref (o + 33), .ref (o + 42), .ref (o + 55), .ref (o + 57), .ref (o + 59), .ref (o + 61), .int im])) := by rw [ze606]; rw [va_up_ne _ _ (show o ≠ o + 61 by omega)]; exact K0
        have zK611 : zh605 (o + 1) = some (.inr (3, [.ref (o + 1 + 1), .ref (o + 1 + 7), .ref (o + 1 + 9), .ref (o + 1 + 11), .int (d 13)])) := by rw [ze606]; rw [va_up_ne _ _ (show o + 1 ≠ o + 61 by omega)]; exact K1
        have zK612 : zh605 (o + 2) = some (.inr (2, [.ref (o + 3), .ref (o + 4), .ref (o + 5), .ref (o + 6), .ref (o + 7), .int (nI len), .int (d 0), .int (d 2), .int (d 3), .int (nI nc), .int (d 10), .int cold, .int wind])) := by rw [ze606]; rw [va_up_ne _ _ (show o + 2 ≠ o + 61 by omega)]; exact K2
        have zK613 : zh605 (o + 6) = arR κ 1 6 cs := by rw [ze606]; rw [va_up_ne _ _ (show o + 6 ≠ o + 61 by omega)]; exact K3
        have zK614 : zh605 (o + 61) = arI κ 6 (bmp fo 1) := by rw [ze606]; exact va_up_self _ _ _
        have zK615 : zh605 a = some (.inr (5, [.int (nI 3), .int (nI ck), .int (d (20 + 2 * ck + 1))])) := by rw [ze606]; rw [va_up_ne _ _ (show a ≠ o + 61 by omega)]; exact zK465
        have zl616 : ∀ zq : Nat, zq < (o + 76) → zq ≠ (o + 61) → zh605 zq = h zq := by intro zq hzq zn0; rw [ze606, va_up_ne _ _ (show zq ≠ o + 61 by omega)]; try rfl
        have zr617 : Zr κ (o + 76) h zh605 := (Zr.refl).trans (Zr.same (fun zq h1 => by rw [ze606, va_up_ne _ _ (show zq ≠ o + 61 by omega)]))
        refine z_iret X E dX11_as_25 (by omega) (by omega) ⟨?_, ?_, ?_, ?_, ?_⟩
        · rw [opAs_e (fun zq => (by assumption : ¬ (0 ≤ w.toInt ∧ w.toInt ≤ 6)) zq.2.2)]; rfl
        · rfl
        · exact fun zq hzq zn0 => zl616 zq hzq zn0
        · exact zr617
        · rw [opAs_e (fun zq => (by assumption : ¬ (0 ≤ w.toInt ∧ w.toInt ≤ 6)) zq.2.2)]; exact zK614
    · skip
      have zK618 : h a = some (.inr (7, [.int (nI 4), .int (nI ck), .int (d (20 + 2 * ck + 1))])) := ha5
      refine z_astore_n (ls' := [(3, .ref a), (0, .ref o), (1, .int (nI ck)), (2, .int w)]) X dX11_as_5 (by decide) rfl ?_
      refine z_aload_n X 0 dX11_as_6 rfl ?_
      refine z_ifnull X dX11_as_7 ?_
      refine z_iload_n X 3 dX11_as_10 rfl ?_
      refine z_iconst (v := 0) X dX11_as_11 (by decide) ?_
      refine z_bipush (v := 6) X dX11_as_12 (by decide) ?_
      refine z_callS X (c_within (κ := κ) (n := n) (v := (w)) (lo := (0)) (hi := (6))  ) mk_X11_within dX11_as_14 wd_259 wd_257 rfl rfl (Nat.le_of_ble_eq_true rfl) (Nat.le_of_ble_eq_true rfl) (Nat.le_of_ble_eq_true rfl) (by omega) (by omega) (fun q zh619 zm621 zp622 => ?_)
      obtain ⟨rfl, ze620, zn623⟩ := zp622
      subst zm621
      subst zh619
      refine z_st (st' := [.int (b2i ((0 : Int32).toInt ≤ (w : Int32).toInt ∧ (w : Int32).toInt ≤ (6 : Int32).toInt))]) rfl ?_
      refine z_toe (y := b2i (0 ≤ w.toInt ∧ w.toInt ≤ 6)) (by simp only [show (0 : Int32).toInt = 0 by decide, show (6 : Int32).toInt = 6 by decide]) ?_
      refine z_if_ne X 26 dX11_as_17 (by decide) (fun zc624 => ?_) (fun zc624 => ?_)
      · replace zc624 := b2i_t zc624
        obtain ⟨wq, hwq, rfl⟩ := ix_of (c := w) (len := 7) (by omega) (by omega)
        rcases lt7 hwq with rfl | rfl | rfl | rfl | rfl | rfl | rfl
        · skip
          refine z_aload_n X 0 dX11_as_26 rfl ?_
          refine z_iload_n X 3 dX11_as_27 rfl ?_
          refine z_callS X (c_isOfKind_4_0 (κ := κ) (n := n) (a := (a)) (v1 := (nI 4)) (v2 := (nI ck)) (v3 := (d (20 + 2 * ck + 1))) zK618 ) mk_X11_isOfKind dX11_as_28 wd_425 wd_426 rfl rfl (Nat.le_of_ble_eq_true rfl) (Nat.le_of_ble_eq_true rfl) (Nat.le_of_ble_eq_true rfl) (by omega) (by omega) (fun q zh625 zm627 zp628 => ?_)
          obtain ⟨rfl, ze626, zn629⟩ := zp628
          subst zm627
          subst zh625
          refine z_st (st' := [.int (b2i (isOfP (nI 4) (nI 0)))]) rfl ?_
          refine z_if_eq X 41 dX11_as_31 (by decide) (fun zc630 => ?_) (fun zc630 => ?_)
          · replace zc630 := b2i_f zc630
            refine z_aload_n X 1 dX11_as_41 rfl ?_
            refine z_iconst (v := 5) X dX11_as_42 (by decide) ?_
            refine z_callV X (c_fail (κ := κ) (n := n) (o := (o)) (im := (im)) (fo := (fo)) (k := (5)) K0 K4 (by first | assumption | omega) (by first | assumption | omega)) mk_X11_fail dX11_as_43 wd_260 wd_262 wd_0 rfl K0 rfl rfl rfl (Nat.le_of_ble_eq_true rfl) (Nat.le_of_ble_eq_true rfl) (Nat.le_of_ble_eq_true rfl) (by omega) (by omega) (fun q zh631 zm633 zp634 => ?_)
            obtain ⟨rfl, ze632, zn635⟩ := zp634
            subst zm633
            refine z_st (st' := [.int (lowE 5)]) rfl ?_
            have zK636 : zh631 o = some (.inr (11, [.ref (o + 1), .ref (o + 14), .ref (o + 27), .ref (o + 33), .ref (o + 42), .ref (o + 55), .ref (o + 57), .ref (o + 59), .ref (o + 61), .int im])) := by rw [ze632]; rw [va_up_ne _ _ (show o ≠ o + 61 by omega)]; exact K0
            have zK637 : zh631 (o + 1) = some (.inr (3, [.ref (o + 1 + 1), .ref (o + 1 + 7), .ref (o + 1 + 9), .ref (o + 1 + 11), .int (d 13)])) := by rw [ze632]; rw [va_up_ne _ _ (show o + 1 ≠ o + 61 by omega)]; exact K1
            have zK638 : zh631 (o + 2) = some (.inr (2, [.ref (o + 3), .ref (o + 4), .ref (o + 5), .ref (o + 6), .ref (o + 7), .int (nI len), .int (d 0), .int (d 2), .int (d 3), .int (nI nc), .int (d 10), .int cold, .int wind])) := by rw [ze632]; rw [va_up_ne _ _ (show o + 2 ≠ o + 61 by omega)]; exact K2
            have zK639 : zh631 (o + 6) = arR κ 1 6 cs := by rw [ze632]; rw [va_up_ne _ _ (show o + 6 ≠ o + 61 by omega)]; exact K3
            have zK640 : zh631 (o + 61) = arI κ 6 (bmp fo 5) := by rw [ze632]; exact va_up_self _ _ _
            have zK641 : zh631 a = some (.inr (7, [.int (nI 4), .int (nI ck), .int (d (20 + 2 * ck + 1))])) := by rw [ze632]; rw [va_up_ne _ _ (show a ≠ o + 61 by omega)]; exact zK618
            have zl642 : ∀ zq : Nat, zq < (o + 76) → zq ≠ (o + 61) → zh631 zq = h zq := by intro zq hzq zn0; rw [ze632, va_up_ne _ _ (show zq ≠ o + 61 by omega)]; try rfl
            have zr643 : Zr κ (o + 76) h zh631 := (Zr.refl).trans (Zr.same (fun zq h1 => by rw [ze632, va_up_ne _ _ (show zq ≠ o + 61 by omega)]))
            refine z_iret X E dX11_as_46 (by omega) (by omega) ⟨?_, ?_, ?_, ?_, ?_⟩
            · rw [opAs_5 (x := 0) (y := 4) hck q5 (by decide) ha4 (by assumption)]; rfl
            · rfl
            · exact fun zq hzq zn0 => zl642 zq hzq zn0
            · exact zr643
            · rw [opAs_5 (x := 0) (y := 4) hck q5 (by decide) ha4 (by assumption)]; exact zK640
          · replace zc630 := b2i_t zc630
            refine z_aload_n X 0 dX11_as_34 rfl ?_
            refine z_get X fl_X11_140_7 dX11_as_35 zK618 rfl ?_
            refine z_goto X 46 dX11_as_38 (by decide) ?_
            refine z_iret X E dX11_as_46 (by omega) (by omega) ⟨?_, ?_, ?_, ?_, ?_⟩
            · rw [opAs_0 (x := 0) (y := 4) hck q5 (by decide) ha4 (by assumption)]; rfl
            · rfl
            · exact fun zq hzq zn0 => rfl
            · exact Zr.refl
            · rw [opAs_0 (x := 0) (y := 4) hck q5 (by decide) ha4 (by assumption)]; exact K4
        · skip
          refine z_aload_n X 0 dX11_as_26 rfl ?_
          refine z_iload_n X 3 dX11_as_27 rfl ?_
          refine z_callS X (c_isOfKind_4_1 (κ := κ) (n := n) (a := (a)) (v1 := (nI 4)) (v2 := (nI ck)) (v3 := (d (20 + 2 * ck + 1))) zK618 ) mk_X11_isOfKind dX11_as_28 wd_425 wd_426 rfl rfl (Nat.le_of_ble_eq_true rfl) (Nat.le_of_ble_eq_true rfl) (Nat.le_of_ble_eq_true rfl) (by omega) (by omega) (fun q zh644 zm646 zp647 => ?_)
          obtain ⟨rfl, ze645, zn648⟩ := zp647
          subst zm646
          subst zh644
          refine z_st (st' := [.int (b2i (isOfP (nI 4) (nI 1)))]) rfl ?_
          refine z_if_eq X 41 dX11_as_31 (by decide) (fun zc649 => ?_) (fun zc649 => ?_)
          · replace zc649 := b2i_f zc649
            refine z_aload_n X 1 dX11_as_41 rfl ?_
            refine z_iconst (v := 5) X dX11_as_42 (by decide) ?_
            refine z_callV X (c_fail (κ := κ) (n := n) (o := (o)) (im := (im)) (fo := (fo)) (k := (5)) K0 K4 (by first | assumption | omega) (by first | assumption | omega)) mk_X11_fail dX11_as_43 wd_260 wd_262 wd_0 rfl K0 rfl rfl rfl (Nat.le_of_ble_eq_true rfl) (Nat.le_of_ble_eq_true rfl) (Nat.le_of_ble_eq_true rfl) (by omega) (by omega) (fun q zh650 zm652 zp653 => ?_)
            obtain ⟨rfl, ze651, zn654⟩ := zp653
            subst zm652
            refine z_st (st' := [.int (lowE 5)]) rfl ?_
            have zK655 : zh650 o = some (.inr (11, [.ref (o + 1), .ref (o + 14), .ref (o + 27), .ref (o + 33), .ref (o + 42), .ref (o + 55), .ref (o + 57), .ref (o + 59), .ref (o + 61), .int im])) := by rw [ze651]; rw [va_up_ne _ _ (show o ≠ o + 61 by omega)]; exact K0
            have zK656 : zh650 (o + 1) = some (.inr (3, [.ref (o + 1 + 1), .ref (o + 1 + 7), .ref (o + 1 + 9), .ref (o + 1 + 11), .int (d 13)])) := by rw [ze651]; rw [va_up_ne _ _ (show o + 1 ≠ o + 61 by omega)]; exact K1
            have zK657 : zh650 (o + 2) = some (.inr (2, [.ref (o + 3), .ref (o + 4), .ref (o + 5), .ref (o + 6), .ref (o + 7), .int (nI len), .int (d 0), .int (d 2), .int (d 3), .int (nI nc), .int (d 10), .int cold, .int wind])) := by rw [ze651]; rw [va_up_ne _ _ (show o + 2 ≠ o + 61 by omega)]; exact K2
            have zK658 : zh650 (o + 6) = arR κ 1 6 cs := by rw [ze651]; rw [va_up_ne _ _ (show o + 6 ≠ o + 61 by omega)]; exact K3
            have zK659 : zh650 (o + 61) = arI κ 6 (bmp fo 5) := by rw [ze651]; exact va_up_self _ _ _
            have zK660 : zh650 a = some (.inr (7, [.int (nI 4), .int (nI ck), .int (d (20 + 2 * ck + 1))])) := by rw [ze651]; rw [va_up_ne _ _ (show a ≠ o + 61 by omega)]; exact zK618
            have zl661 : ∀ zq : Nat, zq < (o + 76) → zq ≠ (o + 61) → zh650 zq = h zq := by intro zq hzq zn0; rw [ze651, va_up_ne _ _ (show zq ≠ o + 61 by omega)]; try rfl
            have zr662 : Zr κ (o + 76) h zh650 := (Zr.refl).trans (Zr.same (fun zq h1 => by rw [ze651, va_up_ne _ _ (show zq ≠ o + 61 by omega)]))
            refine z_iret X E dX11_as_46 (by omega) (by omega) ⟨?_, ?_, ?_, ?_, ?_⟩
            · rw [opAs_5 (x := 1) (y := 4) hck q5 (by decide) ha4 (by assumption)]; rfl
            · rfl
            · exact fun zq hzq zn0 => zl661 zq hzq zn0
            · exact zr662
            · rw [opAs_5 (x := 1) (y := 4) hck q5 (by decide) ha4 (by assumption)]; exact zK659
          · replace zc649 := b2i_t zc649
            refine z_aload_n X 0 dX11_as_34 rfl ?_
            refine z_get X fl_X11_140_7 dX11_as_35 zK618 rfl ?_
            refine z_goto X 46 dX11_as_38 (by decide) ?_
            refine z_iret X E dX11_as_46 (by omega) (by omega) ⟨?_, ?_, ?_, ?_, ?_⟩
            · rw [opAs_0 (x := 1) (y := 4) hck q5 (by decide) ha4 (by assumption)]; rfl
            · rfl
            · exact fun zq hzq zn0 => rfl
            · exact Zr.refl
            · rw [opAs_0 (x := 1) (y := 4) hck q5 (by decide) ha4 (by assumption)]; exact K4
        · skip
          refine z_aload_n X 0 dX11_as_26 rfl ?_
          refine z_iload_n X 3 dX11_as_27 rfl ?_
          refine z_callS X (c_isOfKind_4_2 (κ := κ) (n := n) (a := (a)) (v1 := (nI 4)) (v2 := (nI ck)) (v3 := (d (20 + 2 * ck + 1))) zK618 ) mk_X11_isOfKind dX11_as_28 wd_425 wd_426 rfl rfl (Nat.le_of_ble_eq_true rfl) (Nat.le_of_ble_eq_true rfl) (Nat.le_of_ble_eq_true rfl) (by omega) (by omega) (fun q zh663 zm665 zp666 => ?_)
          obtain ⟨rfl, ze664, zn667⟩ := zp666
          subst zm665
          subst zh663
          refine z_st (st' := [.int (b2i (isOfP (nI 4) (nI 2)))]) rfl ?_
          refine z_if_eq X 41 dX11_as_31 (by decide) (fun zc668 => ?_) (fun zc668 => ?_)
          · replace zc668 := b2i_f zc668
            refine z_aload_n X 1 dX11_as_41 rfl ?_
            refine z_iconst (v := 5) X dX11_as_42 (by decide) ?_
            refine z_callV X (c_fail (κ := κ) (n := n) (o := (o)) (im := (im)) (fo := (fo)) (k := (5)) K0 K4 (by first | assumption | omega) (by first | assumption | omega)) mk_X11_fail dX11_as_43 wd_260 wd_262 wd_0 rfl K0 rfl rfl rfl (Nat.le_of_ble_eq_true rfl) (Nat.le_of_ble_eq_true rfl) (Nat.le_of_ble_eq_true rfl) (by omega) (by omega) (fun q zh669 zm671 zp672 => ?_)
            obtain ⟨rfl, ze670, zn673⟩ := zp672
            subst zm671
            refine z_st (st' := [.int (lowE 5)]) rfl ?_
            have zK674 : zh669 o = some (.inr (11, [.ref (o + 1), .ref (o + 14), .ref (o + 27), .ref (o + 33), .ref (o + 42), .ref (o + 55), .ref (o + 57), .ref (o + 59), .ref (o + 61), .int im])) := by rw [ze670]; rw [va_up_ne _ _ (show o ≠ o + 61 by omega)]; exact K0
            have zK675 : zh669 (o + 1) = some (.inr (3, [.ref (o + 1 + 1), .ref (o + 1 + 7), .ref (o + 1 + 9), .ref (o + 1 + 11), .int (d 13)])) := by rw [ze670]; rw [va_up_ne _ _ (show o + 1 ≠ o + 61 by omega)]; exact K1
            have zK676 : zh669 (o + 2) = some (.inr (2, [.ref (o + 3), .ref (o + 4), .ref (o + 5), .ref (o + 6), .ref (o + 7), .int (nI len), .int (d 0), .int (d 2), .int (d 3), .int (nI nc), .int (d 10), .int cold, .int wind])) := by rw [ze670]; rw [va_up_ne _ _ (show o + 2 ≠ o + 61 by omega)]; exact K2
            have zK677 : zh669 (o + 6) = arR κ 1 6 cs := by rw [ze670]; rw [va_up_ne _ _ (show o + 6 ≠ o + 61 by omega)]; exact K3
            have zK678 : zh669 (o + 61) = arI κ 6 (bmp fo 5) := by rw [ze670]; exact va_up_self _ _ _
            have zK679 : zh669 a = some (.inr (7, [.int (nI 4), .int (nI ck), .int (d (20 + 2 * ck + 1))])) := by rw [ze670]; rw [va_up_ne _ _ (show a ≠ o + 61 by omega)]; exact zK618
            have zl680 : ∀ zq : Nat, zq < (o + 76) → zq ≠ (o + 61) → zh669 zq = h zq := by intro zq hzq zn0; rw [ze670, va_up_ne _ _ (show zq ≠ o + 61 by omega)]; try rfl
            have zr681 : Zr κ (o + 76) h zh669 := (Zr.refl).trans (Zr.same (fun zq h1 => by rw [ze670, va_up_ne _ _ (show zq ≠ o + 61 by omega)]))
            refine z_iret X E dX11_as_46 (by omega) (by omega) ⟨?_, ?_, ?_, ?_, ?_⟩
            · rw [opAs_5 (x := 2) (y := 4) hck q5 (by decide) ha4 (by assumption)]; rfl
            · rfl
            · exact fun zq hzq zn0 => zl680 zq hzq zn0
            · exact zr681
            · rw [opAs_5 (x := 2) (y := 4) hck q5 (by decide) ha4 (by assumption)]; exact zK678
          · replace zc668 := b2i_t zc668
            refine z_aload_n X 0 dX11_as_34 rfl ?_
            refine z_get X fl_X11_140_7 dX11_as_35 zK618 rfl ?_
            refine z_goto X 46 dX11_as_38 (by decide) ?_
            refine z_iret X E dX11_as_46 (by omega) (by omega) ⟨?_, ?_, ?_, ?_, ?_⟩
            · rw [opAs_0 (x := 2) (y := 4) hck q5 (by decide) ha4 (by assumption)]; rfl
            · rfl
            · exact fun zq hzq zn0 => rfl
            · exact Zr.refl
            · rw [opAs_0 (x := 2) (y := 4) hck q5 (by decide) ha4 (by assumption)]; exact K4
        · skip
          refine z_aload_n X 0 dX11_as_26 rfl ?_
          refine z_iload_n X 3 dX11_as_27 rfl ?_
          refine z_callS X (c_isOfKind_4_3 (κ := κ) (n := n) (a := (a)) (v1 := (nI 4)) (v2 := (nI ck)) (v3 := (d (20 + 2 * ck + 1))) zK618 ) mk_X11_isOfKind dX11_as_28 wd_425 wd_426 rfl rfl (Nat.le_of_ble_eq_true rfl) (Nat.le_of_ble_eq_true rfl) (Nat.le_of_ble_eq_true rfl) (by omega) (by omega) (fun q zh682 zm684 zp685 => ?_)
          obtain ⟨rfl, ze683, zn686⟩ := zp685
          subst zm684
          subst zh682
          refine z_st (st' := [.int (b2i (isOfP (nI 4) (nI 3)))]) rfl ?_
          refine z_if_eq X 41 dX11_as_31 (by decide) (fun zc687 => ?_) (fun zc687 => ?_)
          · replace zc687 := b2i_f zc687
            refine z_aload_n X 1 dX11_as_41 rfl ?_
            refine z_iconst (v := 5) X dX11_as_42 (by decide) ?_
            refine z_callV X (c_fail (κ := κ) (n := n) (o := (o)) (im := (im)) (fo := (fo)) (k := (5)) K0 K4 (by first | assumption | omega) (by first | assumption | omega)) mk_X11_fail dX11_as_43 wd_260 wd_262 wd_0 rfl K0 rfl rfl rfl (Nat.le_of_ble_eq_true rfl) (Nat.le_of_ble_eq_true rfl) (Nat.le_of_ble_eq_true rfl) (by omega) (by omega) (fun q zh688 zm690 zp691 => ?_)
            obtain ⟨rfl, ze689, zn692⟩ := zp691
            subst zm690
            refine z_st (st' := [.int (lowE 5)]) rfl ?_
            have zK693 : zh688 o = some (.inr (11, [.ref (o + 1), .ref (o + 14), .ref (o + 27), .ref (o + 33), .ref (o + 42), .ref (o + 55), .ref (o + 57), .ref (o + 59), .ref (o + 61), .int im])) := by rw [ze689]; rw [va_up_ne _ _ (show o ≠ o + 61 by omega)]; exact K0
            have zK694 : zh688 (o + 1) = some (.inr (3, [.ref (o + 1 + 1), .ref (o + 1 + 7), .ref (o + 1 + 9), .ref (o + 1 + 11), .int (d 13)])) := by rw [ze689]; rw [va_up_ne _ _ (show o + 1 ≠ o + 61 by omega)]; exact K1
            have zK695 : zh688 (o + 2) = some (.inr (2, [.ref (o + 3), .ref (o + 4), .ref (o + 5), .ref (o + 6), .ref (o + 7), .int (nI len), .int (d 0), .int (d 2), .int (d 3), .int (nI nc), .int (d 10), .int cold, .int wind])) := by rw [ze689]; rw [va_up_ne _ _ (show o + 2 ≠ o + 61 by omega)]; exact K2
            have zK696 : zh688 (o + 6) = arR κ 1 6 cs := by rw [ze689]; rw [va_up_ne _ _ (show o + 6 ≠ o + 61 by omega)]; exact K3
            have zK697 : zh688 (o + 61) = arI κ 6 (bmp fo 5) := by rw [ze689]; exact va_up_self _ _ _
            have zK698 : zh688 a = some (.inr (7, [.int (nI 4), .int (nI ck), .int (d (20 + 2 * ck + 1))])) := by rw [ze689]; rw [va_up_ne _ _ (show a ≠ o + 61 by omega)]; exact zK618
            have zl699 : ∀ zq : Nat, zq < (o + 76) → zq ≠ (o + 61) → zh688 zq = h zq := by intro zq hzq zn0; rw [ze689, va_up_ne _ _ (show zq ≠ o + 61 by omega)]; try rfl
            have zr700 : Zr κ (o + 76) h zh688 := (Zr.refl).trans (Zr.same (fun zq h1 => by rw [ze689, va_up_ne _ _ (show zq ≠ o + 61 by omega)]))
            refine z_iret X E dX11_as_46 (by omega) (by omega) ⟨?_, ?_, ?_, ?_, ?_⟩
            · rw [opAs_5 (x := 3) (y := 4) hck q5 (by decide) ha4 (by assumption)]; rfl
            · rfl
            · exact fun zq hzq zn0 => zl699 zq hzq zn0
            · exact zr700
            · rw [opAs_5 (x := 3) (y := 4) hck q5 (by decide) ha4 (by assumption)]; exact zK697
          · replace zc687 := b2i_t zc687
            refine z_aload_n X 0 dX11_as_34 rfl ?_
            refine z_get X fl_X11_140_7 dX11_as_35 zK618 rfl ?_
            refine z_goto X 46 dX11_as_38 (by decide) ?_
            refine z_iret X E dX11_as_46 (by omega) (by omega) ⟨?_, ?_, ?_, ?_, ?_⟩
            · rw [opAs_0 (x := 3) (y := 4) hck q5 (by decide) ha4 (by assumption)]; rfl
            · rfl
            · exact fun zq hzq zn0 => rfl
            · exact Zr.refl
            · rw [opAs_0 (x := 3) (y := 4) hck q5 (by decide) ha4 (by assumption)]; exact K4
        · skip
          refine z_aload_n X 0 dX11_as_26 rfl ?_
          refine z_iload_n X 3 dX11_as_27 rfl ?_
          refine z_callS X (c_isOfKind_4_4 (κ := κ) (n := n) (a := (a)) (v1 := (nI 4)) (v2 := (nI ck)) (v3 := (d (20 + 2 * ck + 1))) zK618 ) mk_X11_isOfKind dX11_as_28 wd_425 wd_426 rfl rfl (Nat.le_of_ble_eq_true rfl) (Nat.le_of_ble_eq_true rfl) (Nat.le_of_ble_eq_true rfl) (by omega) (by omega) (fun q zh701 zm703 zp704 => ?_)
          obtain ⟨rfl, ze702, zn705⟩ := zp704
          subst zm703
          subst zh701
          refine z_st (st' := [.int (b2i (isOfP (nI 4) (nI 4)))]) rfl ?_
          refine z_if_eq X 41 dX11_as_31 (by decide) (fun zc706 => ?_) (fun zc706 => ?_)
          · replace zc706 := b2i_f zc706
            refine z_aload_n X 1 dX11_as_41 rfl ?_
            refine z_iconst (v := 5) X dX11_as_42 (by decide) ?_
            refine z_callV X (c_fail (κ := κ) (n := n) (o := (o)) (im := (im)) (fo := (fo)) (k := (5)) K0 K4 (by first | assumption | omega) (by first | assumption | omega)) mk_X11_fail dX11_as_43 wd_260 wd_262 wd_0 rfl K0 rfl rfl rfl (Nat.le_of_ble_eq_true rfl) (Nat.le_of_ble_eq_true rfl) (Nat.le_of_ble_eq_true rfl) (by omega) (by omega) (fun q zh707 zm709 zp710 => ?_)
            obtain ⟨rfl, ze708, zn711⟩ := zp710
            subst zm709
            refine z_st (st' := [.int (lowE 5)]) rfl ?_
            have zK712 : zh707 o = some (.inr (11, [.ref (o + 1), .ref (o + 14), .ref (o + 27), .ref (o + 33), .ref (o + 42), .ref (o + 55), .ref (o + 57), .ref (o + 59), .ref (o + 61), .int im])) := by rw [ze708]; rw [va_up_ne _ _ (show o ≠ o + 61 by omega)]; exact K0
            have zK713 : zh707 (o + 1) = some (.inr (3, [.ref (o + 1 + 1), .ref (o + 1 + 7), .ref (o + 1 + 9), .ref (o + 1 + 11), .int (d 13)])) := by rw [ze708]; rw [va_up_ne _ _ (show o + 1 ≠ o + 61 by omega)]; exact K1
            have zK714 : zh707 (o + 2) = some (.inr (2, [.ref (o + 3), .ref (o + 4), .ref (o + 5), .ref (o + 6), .ref (o + 7), .int (nI len), .int (d 0), .int (d 2), .int (d 3), .int (nI nc), .int (d 10), .int cold, .int wind])) := by rw [ze708]; rw [va_up_ne _ _ (show o + 2 ≠ o + 61 by omega)]; exact K2
            have zK715 : zh707 (o + 6) = arR κ 1 6 cs := by rw [ze708]; rw [va_up_ne _ _ (show o + 6 ≠ o + 61 by omega)]; exact K3
            have zK716 : zh707 (o + 61) = arI κ 6 (bmp fo 5) := by rw [ze708]; exact va_up_self _ _ _
            have zK717 : zh707 a = some (.inr (7, [.int (nI 4), .int (nI ck), .int (d (20 + 2 * ck + 1))])) := by rw [ze708]; rw [va_up_ne _ _ (show a ≠ o + 61 by omega)]; exact zK618
            have zl718 : ∀ zq : Nat, zq < (o + 76) → zq ≠ (o + 61) → zh707 zq = h zq := by intro zq hzq zn0; rw [ze708, va_up_ne _ _ (show zq ≠ o + 61 by omega)]; try rfl
            have zr719 : Zr κ (o + 76) h zh707 := (Zr.refl).trans (Zr.same (fun zq h1 => by rw [ze708, va_up_ne _ _ (show zq ≠ o + 61 by omega)]))
            refine z_iret X E dX11_as_46 (by omega) (by omega) ⟨?_, ?_, ?_, ?_, ?_⟩
            · rw [opAs_5 (x := 4) (y := 4) hck q5 (by decide) ha4 (by assumption)]; rfl
            · rfl
            · exact fun zq hzq zn0 => zl718 zq hzq zn0
            · exact zr719
            · rw [opAs_5 (x := 4) (y := 4) hck q5 (by decide) ha4 (by assumption)]; exact zK716
          · replace zc706 := b2i_t zc706
            refine z_aload_n X 0 dX11_as_34 rfl ?_
            refine z_get X fl_X11_140_7 dX11_as_35 zK618 rfl ?_
            refine z_goto X 46 dX11_as_38 (by decide) ?_
            refine z_iret X E dX11_as_46 (by omega) (by omega) ⟨?_, ?_, ?_, ?_, ?_⟩
            · rw [opAs_0 (x := 4) (y := 4) hck q5 (by decide) ha4 (by assumption)]; rfl
            · rfl
            · exact fun zq hzq zn0 => rfl
            · exact Zr.refl
            · rw [opAs_0 (x := 4) (y := 4) hck q5 (by decide) ha4 (by assumption)]; exact K4
        · skip
          refine z_aload_n X 0 dX11_as_26 rfl ?_
          refine z_iload_n X 3 dX11_as_27 rfl ?_
          refine z_callS X (c_isOfKind_4_5 (κ := κ) (n := n) (a := (a)) (v1 := (nI 4)) (v2 := (nI ck)) (v3 := (d (20 + 2 * ck + 1))) zK618 ) mk_X11_isOfKind dX11_as_28 wd_425 wd_426 rfl rfl (Nat.le_of_ble_eq_true rfl) (Nat.le_of_ble_eq_true rfl) (Nat.le_of_ble_eq_true rfl) (by omega) (by omega) (fun q zh720 zm722 zp723 => ?_)
          obtain ⟨rfl, ze721, zn724⟩ := zp723
          subst zm722
          subst zh720
          refine z_st (st' := [.int (b2i (isOfP (nI 4) (nI 5)))]) rfl ?_
          refine z_if_eq X 41 dX11_as_31 (by decide) (fun zc725 => ?_) (fun zc725 => ?_)
          · replace zc725 := b2i_f zc725
            refine z_aload_n X 1 dX11_as_41 rfl ?_
            refine z_iconst (v := 5) X dX11_as_42 (by decide) ?_
            refine z_callV X (c_fail (κ := κ) (n := n) (o := (o)) (im := (im)) (fo := (fo)) (k := (5)) K0 K4 (by first | assumption | omega) (by first | assumption | omega)) mk_X11_fail dX11_as_43 wd_260 wd_262 wd_0 rfl K0 rfl rfl rfl (Nat.le_of_ble_eq_true rfl) (Nat.le_of_ble_eq_true rfl) (Nat.le_of_ble_eq_true rfl) (by omega) (by omega) (fun q zh726 zm728 zp729 => ?_)
            obtain ⟨rfl, ze727, zn730⟩ := zp729
            subst zm728
            refine z_st (st' := [.int (lowE 5)]) rfl ?_
            have zK731 : zh726 o = some (.inr (11, [.ref (o + 1), .ref (o + 14), .ref (o + 27), .ref (o + 33), .ref (o + 42), .ref (o + 55), .ref (o + 57), .ref (o + 59), .ref (o + 61), .int im])) := by rw [ze727]; rw [va_up_ne _ _ (show o ≠ o + 61 by omega)]; exact K0
            have zK732 : zh726 (o + 1) = some (.inr (3, [.ref (o + 1 + 1), .ref (o + 1 + 7), .ref (o + 1 + 9), .ref (o + 1 + 11), .int (d 13)])) := by rw [ze727]; rw [va_up_ne _ _ (show o + 1 ≠ o + 61 by omega)]; exact K1
            have zK733 : zh726 (o + 2) = some (.inr (2, [.ref (o + 3), .ref (o + 4), .ref (o + 5), .ref (o + 6), .ref (o + 7), .int (nI len), .int (d 0), .int (d 2), .int (d 3), .int (nI nc), .int (d 10), .int cold, .int wind])) := by rw [ze727]; rw [va_up_ne _ _ (show o + 2 ≠ o + 61 by omega)]; exact K2
            have zK734 : zh726 (o + 6) = arR κ 1 6 cs := by rw [ze727]; rw [va_up_ne _ _ (show o + 6 ≠ o + 61 by omega)]; exact K3
            have zK735 : zh726 (o + 61) = arI κ 6 (bmp fo 5) := by rw [ze727]; exact va_up_self _ _ _
            have zK736 : zh726 a = some (.inr (7, [.int (nI 4), .int (nI ck), .int (d (20 + 2 * ck + 1))])) := by rw [ze727]; rw [va_up_ne _ _ (show a ≠ o + 61 by omega)]; exact zK618
            have zl737 : ∀ zq : Nat, zq < (o + 76) → zq ≠ (o + 61) → zh726 zq = h zq := by intro zq hzq zn0; rw [ze727, va_up_ne _ _ (show zq ≠ o + 61 by omega)]; try rfl
            have zr738 : Zr κ (o + 76) h zh726 := (Zr.refl).trans (Zr.same (fun zq h1 => by rw [ze727, va_up_ne _ _ (show zq ≠ o + 61 by omega)]))
            refine z_iret X E dX11_as_46 (by omega) (by omega) ⟨?_, ?_, ?_, ?_, ?_⟩
            · rw [opAs_5 (x := 5) (y := 4) hck q5 (by decide) ha4 (by assumption)]; rfl
            · rfl
            · exact fun zq hzq zn0 => zl737 zq hzq zn0
            · exact zr738
            · rw [opAs_5 (x := 5) (y := 4) hck q5 (by decide) ha4 (by assumption)]; exact zK735
          · replace zc725 := b2i_t zc725
            refine z_aload_n X 0 dX11_as_34 rfl ?_
            refine z_get X fl_X11_140_7 dX11_as_35 zK618 rfl ?_
            refine z_goto X 46 dX11_as_38 (by decide) ?_
            refine z_iret X E dX11_as_46 (by omega) (by omega) ⟨?_, ?_, ?_, ?_, ?_⟩
            · rw [opAs_0 (x := 5) (y := 4) hck q5 (by decide) ha4 (by assumption)]; rfl
            · rfl
            · exact fun zq hzq zn0 => rfl
            · exact Zr.refl
            · rw [opAs_0 (x := 5) (y := 4) hck q5 (by decide) ha4 (by assumption)]; exact K4
        · skip
          refine z_aload_n X 0 dX11_as_26 rfl ?_
          refine z_iload_n X 3 dX11_as_27 rfl ?_
          refine z_callS X (c_isOfKind_4_6 (κ := κ) (n := n) (a := (a)) (v1 := (nI 4)) (v2 := (nI ck)) (v3 := (d (20 + 2 * ck + 1))) zK618 ) mk_X11_isOfKind dX11_as_28 wd_425 wd_426 rfl rfl (Nat.le_of_ble_eq_true rfl) (Nat.le_of_ble_eq_true rfl) (Nat.le_of_ble_eq_true rfl) (by omega) (by omega) (fun q zh739 zm741 zp742 => ?_)
          obtain ⟨rfl, ze740, zn743⟩ := zp742
          subst zm741
          subst zh739
          refine z_st (st' := [.int (b2i (isOfP (nI 4) (nI 6)))]) rfl ?_
          refine z_if_eq X 41 dX11_as_31 (by decide) (fun zc744 => ?_) (fun zc744 => ?_)
          · replace zc744 := b2i_f zc744
            refine z_aload_n X 1 dX11_as_41 rfl ?_
            refine z_iconst (v := 5) X dX11_as_42 (by decide) ?_
            refine z_callV X (c_fail (κ := κ) (n := n) (o := (o)) (im := (im)) (fo := (fo)) (k := (5)) K0 K4 (by first | assumption | omega) (by first | assumption | omega)) mk_X11_fail dX11_as_43 wd_260 wd_262 wd_0 rfl K0 rfl rfl rfl (Nat.le_of_ble_eq_true rfl) (Nat.le_of_ble_eq_true rfl) (Nat.le_of_ble_eq_true rfl) (by omega) (by omega) (fun q zh745 zm747 zp748 => ?_)
            obtain ⟨rfl, ze746, zn749⟩ := zp748
            subst zm747
            refine z_st (st' := [.int (lowE 5)]) rfl ?_
            have zK750 : zh745 o = some (.inr (11, [.ref (o + 1), .ref (o + 14), .ref (o + 27), .ref (o + 33), .ref (o + 42), .ref (o + 55), .ref (o + 57), .ref (o + 59), .ref (o + 61), .int im])) := by rw [ze746]; rw [va_up_ne _ _ (show o ≠ o + 61 by omega)]; exact K0
            have zK751 : zh745 (o + 1) = some (.inr (3, [.ref (o + 1 + 1), .ref (o + 1 + 7), .ref (o + 1 + 9), .ref (o + 1 + 11), .int (d 13)])) := by rw [ze746]; rw [va_up_ne _ _ (show o + 1 ≠ o + 61 by omega)]; exact K1
            have zK752 : zh745 (o + 2) = some (.inr (2, [.ref (o + 3), .ref (o + 4), .ref (o + 5), .ref (o + 6), .ref (o + 7), .int (nI len), .int (d 0), .int (d 2), .int (d 3), .int (nI nc), .int (d 10), .int cold, .int wind])) := by rw [ze746]; rw [va_up_ne _ _ (show o + 2 ≠ o + 61 by omega)]; exact K2
            have zK753 : zh745 (o + 6) = arR κ 1 6 cs := by rw [ze746]; rw [va_up_ne _ _ (show o + 6 ≠ o + 61 by omega)]; exact K3
            have zK754 : zh745 (o + 61) = arI κ 6 (bmp fo 5) := by rw [ze746]; exact va_up_self _ _ _
            have zK755 : zh745 a = some (.inr (7, [.int (nI 4), .int (nI ck), .int (d (20 + 2 * ck + 1))])) := by rw [ze746]; rw [va_up_ne _ _ (show a ≠ o + 61 by omega)]; exact zK618
            have zl756 : ∀ zq : Nat, zq < (o + 76) → zq ≠ (o + 61) → zh745 zq = h zq := by intro zq hzq zn0; rw [ze746, va_up_ne _ _ (show zq ≠ o + 61 by omega)]; try rfl
            have zr757 : Zr κ (o + 76) h zh745 := (Zr.refl).trans (Zr.same (fun zq h1 => by rw [ze746, va_up_ne _ _ (show zq ≠ o + 61 by omega)]))
            refine z_iret X E dX11_as_46 (by omega) (by omega) ⟨?_, ?_, ?_, ?_, ?_⟩
            · rw [opAs_5 (x := 6) (y := 4) hck q5 (by decide) ha4 (by assumption)]; rfl
            · rfl
            · exact fun zq hzq zn0 => zl756 zq hzq zn0
            · exact zr757
            · rw [opAs_5 (x := 6) (y := 4) hck q5 (by decide) ha4 (by assumption)]; exact zK754
          · replace zc744 := b2i_t zc744
            refine z_aload_n X 0 dX11_as_34 rfl ?_
            refine z_get X fl_X11_140_7 dX11_as_35 zK618 rfl ?_
            refine z_goto X 46 dX11_as_38 (by decide) ?_
            refine z_iret X E dX11_as_46 (by omega) (by omega) ⟨?_, ?_, ?_, ?_, ?_⟩
            · rw [opAs_0 (x := 6) (y := 4) hck q5 (by decide) ha4 (by assumption)]; rfl
            · rfl
            · exact fun zq hzq zn0 => rfl
            · exact Zr.refl
            · rw [opAs_0 (x := 6) (y := 4) hck q5 (by decide) ha4 (by assumption)]; exact K4
      · replace zc624 := b2i_f zc624
        refine z_aload_n X 1 dX11_as_20 rfl ?_
        refine z_iconst (v := 1) X dX11_as_21 (by decide) ?_
        refine z_callV X (c_fail (κ := κ) (n := n) (o := (o)) (im := (im)) (fo := (fo)) (k := (1)) K0 K4 (by first | assumption | omega) (by first | assumption | omega)) mk_X11_fail dX11_as_22 wd_260 wd_262 wd_0 rfl K0 rfl rfl rfl (Nat.le_of_ble_eq_true rfl) (Nat.le_of_ble_eq_true rfl) (Nat.le_of_ble_eq_true rfl) (by omega) (by omega) (fun q zh758 zm760 zp761 => ?_)
        obtain ⟨rfl, ze759, zn762⟩ := zp761
        subst zm760
        refine z_st (st' := [.int (lowE 1)]) rfl ?_
        have zK763 : zh758 o = some (.inr (11, [.ref (o + 1), .ref (o + 14), .ref (o + 27), .ref (o + 33), .ref (o + 42), .ref (o + 55), .ref (o + 57), .ref (o + 59), .ref (o + 61), .int im])) := by rw [ze759]; rw [va_up_ne _ _ (show o ≠ o + 61 by omega)]; exact K0
        have zK764 : zh758 (o + 1) = some (.inr (3, [.ref (o + 1 + 1), .ref (o + 1 + 7), .ref (o + 1 + 9), .ref (o + 1 + 11), .int (d 13)])) := by rw [ze759]; rw [va_up_ne _ _ (show o + 1 ≠ o + 61 by omega)]; exact K1
        have zK765 : zh758 (o + 2) = some (.inr (2, [.ref (o + 3), .ref (o + 4), .ref (o + 5), .ref (o + 6), .ref (o + 7), .int (nI len), .int (d 0), .int (d 2), .int (d 3), .int (nI nc), .int (d 10), .int cold, .int wind])) := by rw [ze759]; rw [va_up_ne _ _ (show o + 2 ≠ o + 61 by omega)]; exact K2
        have zK766 : zh758 (o + 6) = arR κ 1 6 cs := by rw [ze759]; rw [va_up_ne _ _ (show o + 6 ≠ o + 61 by omega)]; exact K3
        have zK767 : zh758 (o + 61) = arI κ 6 (bmp fo 1) := by rw [ze759]; exact va_up_self _ _ _
        have zK768 : zh758 a = some (.inr (7, [.int (nI 4), .int (nI ck), .int (d (20 + 2 * ck + 1))])) := by rw [ze759]; rw [va_up_ne _ _ (show a ≠ o + 61 by omega)]; exact zK618
        have zl769 : ∀ zq : Nat, zq < (o + 76) → zq ≠ (o + 61) → zh758 zq = h zq := by intro zq hzq zn0; rw [ze759, va_up_ne _ _ (show zq ≠ o + 61 by omega)]; try rfl
        have zr770 : Zr κ (o + 76) h zh758 := (Zr.refl).trans (Zr.same (fun zq h1 => by rw [ze759, va_up_ne _ _ (show zq ≠ o + 61 by omega)]))
        refine z_iret X E dX11_as_25 (by omega) (by omega) ⟨?_, ?_, ?_, ?_, ?_⟩
        · rw [opAs_e (fun zq => (by assumption : ¬ (0 ≤ w.toInt ∧ w.toInt ≤ 6)) zq.2.2)]; rfl
        · rfl
        · exact fun zq hzq zn0 => zl769 zq hzq zn0
        · exact zr770
        · rw [opAs_e (fun zq => (by assumption : ¬ (0 ≤ w.toInt ∧ w.toInt ≤ 6)) zq.2.2)]; exact zK767
    · skip
      have zK771 : h a = some (.inr (4, [.int (nI 5), .int (nI ck), .int (d (20 + 2 * ck + 1))])) := ha5
      refine z_astore_n (ls' := [(3, .ref a), (0, .ref o), (1, .int (nI ck)), (2, .int w)]) X dX11_as_5 (by decide) rfl ?_
      refine z_aload_n X 0 dX11_as_6 rfl ?_
      refine z_ifnull X dX11_as_7 ?_
      refine z_iload_n X 3 dX11_as_10 rfl ?_
      refine z_iconst (v := 0) X dX11_as_11 (by decide) ?_
      refine z_bipush (v := 6) X dX11_as_12 (by decide) ?_
      refine z_callS X (c_within (κ := κ) (n := n) (v := (w)) (lo := (0)) (hi := (6))  ) mk_X11_within dX11_as_14 wd_259 wd_257 rfl rfl (Nat.le_of_ble_eq_true rfl) (Nat.le_of_ble_eq_true rfl) (Nat.le_of_ble_eq_true rfl) (by omega) (by omega) (fun q zh772 zm774 zp775 => ?_)
      obtain ⟨rfl, ze773, zn776⟩ := zp775
      subst zm774
      subst zh772
      refine z_st (st' := [.int (b2i ((0 : Int32).toInt ≤ (w : Int32).toInt ∧ (w : Int32).toInt ≤ (6 : Int32).toInt))]) rfl ?_
      refine z_toe (y := b2i (0 ≤ w.toInt ∧ w.toInt ≤ 6)) (by simp only [show (0 : Int32).toInt = 0 by decide, show (6 : Int32).toInt = 6 by decide]) ?_
      refine z_if_ne X 26 dX11_as_17 (by decide) (fun zc777 => ?_) (fun zc777 => ?_)
      · replace zc777 := b2i_t zc777
        obtain ⟨wq, hwq, rfl⟩ := ix_of (c := w) (len := 7) (by omega) (by omega)
        rcases lt7 hwq with rfl | rfl | rfl | rfl | rfl | rfl | rfl
        · skip
          refine z_aload_n X 0 dX11_as_26 rfl ?_
          refine z_iload_n X 3 dX11_as_27 rfl ?_
          refine z_callS X (c_isOfKind_5_0 (κ := κ) (n := n) (a := (a)) (v1 := (nI 5)) (v2 := (nI ck)) (v3 := (d (20 + 2 * ck + 1))) zK771 ) mk_X11_isOfKind dX11_as_28 wd_425 wd_426 rfl rfl (Nat.le_of_ble_eq_true rfl) (Nat.le_of_ble_eq_true rfl) (Nat.le_of_ble_eq_true rfl) (by omega) (by omega) (fun q zh778 zm780 zp781 => ?_)
          obtain ⟨rfl, ze779, zn782⟩ := zp781
          subst zm780
          subst zh778
          refine z_st (st' := [.int (b2i (isOfP (nI 5) (nI 0)))]) rfl ?_
          refine z_if_eq X 41 dX11_as_31 (by decide) (fun zc783 => ?_) (fun zc783 => ?_)
          · replace zc783 := b2i_f zc783
            refine z_aload_n X 1 dX11_as_41 rfl ?_
            refine z_iconst (v := 5) X dX11_as_42 (by decide) ?_
            refine z_callV X (c_fail (κ := κ) (n := n) (o := (o)) (im := (im)) (fo := (fo)) (k := (5)) K0 K4 (by first | assumption | omega) (by first | assumption | omega)) mk_X11_fail dX11_as_43 wd_260 wd_262 wd_0 rfl K0 rfl rfl rfl (Nat.le_of_ble_eq_true rfl) (Nat.le_of_ble_eq_true rfl) (Nat.le_of_ble_eq_true rfl) (by omega) (by omega) (fun q zh784 zm786 zp787 => ?_)
            obtain ⟨rfl, ze785, zn788⟩ := zp787
            subst zm786
            refine z_st (st' := [.int (lowE 5)]) rfl ?_
            have zK789 : zh784 o = some (.inr (11, [.ref (o + 1), .ref (o + 14), .ref (o + 27), .ref (o + 33), .ref (o + 42), .ref (o + 55), .ref (o + 57), .ref (o + 59), .ref (o + 61), .int im])) := by rw [ze785]; rw [va_up_ne _ _ (show o ≠ o + 61 by omega)]; exact K0
            have zK790 : zh784 (o + 1) = some (.inr (3, [.ref (o + 1 + 1), .ref (o + 1 + 7), .ref (o + 1 + 9), .ref (o + 1 + 11), .int (d 13)])) := by rw [ze785]; rw [va_up_ne _ _ (show o + 1 ≠ o + 61 by omega)]; exact K1
            have zK791 : zh784 (o + 2) = some (.inr (2, [.ref (o + 3), .ref (o + 4), .ref (o + 5), .ref (o + 6), .ref (o + 7), .int (nI len), .int (d 0), .int (d 2), .int (d 3), .int (nI nc), .int (d 10), .int cold, .int wind])) := by rw [ze785]; rw [va_up_ne _ _ (show o + 2 ≠ o + 61 by omega)]; exact K2
            have zK792 : zh784 (o + 6) = arR κ 1 6 cs := by rw [ze785]; rw [va_up_ne _ _ (show o + 6 ≠ o + 61 by omega)]; exact K3
            have zK793 : zh784 (o + 61) = arI κ 6 (bmp fo 5) := by rw [ze785]; exact va_up_self _ _ _
            have zK794 : zh784 a = some (.inr (4, [.int (nI 5), .int (nI ck), .int (d (20 + 2 * ck + 1))])) := by rw [ze785]; rw [va_up_ne _ _ (show a ≠ o + 61 by omega)]; exact zK771
            have zl795 : ∀ zq : Nat, zq < (o + 76) → zq ≠ (o + 61) → zh784 zq = h zq := by intro zq hzq zn0; rw [ze785, va_up_ne _ _ (show zq ≠ o + 61 by omega)]; try rfl
            have zr796 : Zr κ (o + 76) h zh784 := (Zr.refl).trans (Zr.same (fun zq h1 => by rw [ze785, va_up_ne _ _ (show zq ≠ o + 61 by omega)]))
            refine z_iret X E dX11_as_46 (by omega) (by omega) ⟨?_, ?_, ?_, ?_, ?_⟩
            · rw [opAs_5 (x := 0) (y := 5) hck q5 (by decide) ha4 (by assumption)]; rfl
            · rfl
            · exact fun zq hzq zn0 => zl795 zq hzq zn0
            · exact zr796
            · rw [opAs_5 (x := 0) (y := 5) hck q5 (by decide) ha4 (by assumption)]; exact zK793
          · replace zc783 := b2i_t zc783
            refine z_aload_n X 0 dX11_as_34 rfl ?_
            refine z_get X fl_X11_140_4 dX11_as_35 zK771 rfl ?_
            refine z_goto X 46 dX11_as_38 (by decide) ?_
            refine z_iret X E dX11_as_46 (by omega) (by omega) ⟨?_, ?_, ?_, ?_, ?_⟩
            · rw [opAs_0 (x := 0) (y := 5) hck q5 (by decide) ha4 (by assumption)]; rfl
            · rfl
            · exact fun zq hzq zn0 => rfl
            · exact Zr.refl
            · rw [opAs_0 (x := 0) (y := 5) hck q5 (by decide) ha4 (by assumption)]; exact K4
        · skip
          refine z_aload_n X 0 dX11_as_26 rfl ?_
          refine z_iload_n X 3 dX11_as_27 rfl ?_
          refine z_callS X (c_isOfKind_5_1 (κ := κ) (n := n) (a := (a)) (v1 := (nI 5)) (v2 := (nI ck)) (v3 := (d (20 + 2 * ck + 1))) zK771 ) mk_X11_isOfKind dX11_as_28 wd_425 wd_426 rfl rfl (Nat.le_of_ble_eq_true rfl) (Nat.le_of_ble_eq_true rfl) (Nat.le_of_ble_eq_true rfl) (by omega) (by omega) (fun q zh797 zm799 zp800 => ?_)
          obtain ⟨rfl, ze798, zn801⟩ := zp800
          subst zm799
          subst zh797
          refine z_st (st' := [.int (b2i (isOfP (nI 5) (nI 1)))]) rfl ?_
          refine z_if_eq X 41 dX11_as_31 (by decide) (fun zc802 => ?_) (fun zc802 => ?_)
          · replace zc802 := b2i_f zc802
            refine z_aload_n X 1 dX11_as_41 rfl ?_
            refine z_iconst (v := 5) X dX11_as_42 (by decide) ?_
            refine z_callV X (c_fail (κ := κ) (n := n) (o := (o)) (im := (im)) (fo := (fo)) (k := (5)) K0 K4 (by first | assumption | omega) (by first | assumption | omega)) mk_X11_fail dX11_as_43 wd_260 wd_262 wd_0 rfl K0 rfl rfl rfl (Nat.le_of_ble_eq_true rfl) (Nat.le_of_ble_eq_true rfl) (Nat.le_of_ble_eq_true rfl) (by omega) (by omega) (fun q zh803 zm805 zp806 => ?_)
            obtain ⟨rfl, ze804, zn807⟩ := zp806
            subst zm805
            refine z_st (st' := [.int (lowE 5)]) rfl ?_
            have zK808 : zh803 o = some (.inr (11, [.ref (o + 1), .ref (o + 14), .ref (o + 27), .ref (o + 33), .ref (o + 42), .ref (o + 55), .ref (o + 57), .ref (o + 59), .ref (o + 61), .int im])) := by rw [ze804]; rw [va_up_ne _ _ (show o ≠ o + 61 by omega)]; exact K0
            have zK809 : zh803 (o + 1) = some (.inr (3, [.ref (o + 1 + 1), .ref (o + 1 + 7), .ref (o + 1 + 9), .ref (o + 1 + 11), .int (d 13)])) := by rw [ze804]; rw [va_up_ne _ _ (show o + 1 ≠ o + 61 by omega)]; exact K1
            have zK810 : zh803 (o + 2) = some (.inr (2, [.ref (o + 3), .ref (o + 4), .ref (o + 5), .ref (o + 6), .ref (o + 7), .int (nI len), .int (d 0), .int (d 2), .int (d 3), .int (nI nc), .int (d 10), .int cold, .int wind])) := by rw [ze804]; rw [va_up_ne _ _ (show o + 2 ≠ o + 61 by omega)]; exact K2
            have zK811 : zh803 (o + 6) = arR κ 1 6 cs := by rw [ze804]; rw [va_up_ne _ _ (show o + 6 ≠ o + 61 by omega)]; exact K3
            have zK812 : zh803 (o + 61) = arI κ 6 (bmp fo 5) := by rw [ze804]; exact va_up_self _ _ _
            have zK813 : zh803 a = some (.inr (4, [.int (nI 5), .int (nI ck), .int (d (20 + 2 * ck + 1))])) := by rw [ze804]; rw [va_up_ne _ _ (show a ≠ o + 61 by omega)]; exact zK771
            have zl814 : ∀ zq : Nat, zq < (o + 76) → zq ≠ (o + 61) → zh803 zq = h zq := by intro zq hzq zn0; rw [ze804, va_up_ne _ _ (show zq ≠ o + 61 by omega)]; try rfl
            have zr815 : Zr κ (o + 76) h zh803 := (Zr.refl).trans (Zr.same (fun zq h1 => by rw [ze804, va_up_ne _ _ (show zq ≠ o + 61 by omega)]))
            refine z_iret X E dX11_as_46 (by omega) (by omega) ⟨?_, ?_, ?_, ?_, ?_⟩
            · rw [opAs_5 (x := 1) (y := 5) hck q5 (by decide) ha4 (by assumption)]; rfl
            · rfl
            · exact fun zq hzq zn0 => zl814 zq hzq zn0
            · exact zr815
            · rw [opAs_5 (x := 1) (y := 5) hck q5 (by decide) ha4 (by assumption)]; exact zK812
          · replace zc802 := b2i_t zc802
            refine z_aload_n X 0 dX11_as_34 rfl ?_
            refine z_get X fl_X11_140_4 dX11_as_35 zK771 rfl ?_
            refine z_goto X 46 dX11_as_38 (by decide) ?_
            refine z_iret X E dX11_as_46 (by omega) (by omega) ⟨?_, ?_, ?_, ?_, ?_⟩
            · rw [opAs_0 (x := 1) (y := 5) hck q5 (by decide) ha4 (by assumption)]; rfl
            · rfl
            · exact fun zq hzq zn0 => rfl
            · exact Zr.refl
            · rw [opAs_0 (x := 1) (y := 5) hck q5 (by decide) ha4 (by assumption)]; exact K4
        · skip
          refine z_aload_n X 0 dX11_as_26 rfl ?_
          refine z_iload_n X 3 dX11_as_27 rfl ?_
          refine z_callS X (c_isOfKind_5_2 (κ := κ) (n := n) (a := (a)) (v1 := (nI 5)) (v2 := (nI ck)) (v3 := (d (20 + 2 * ck + 1))) zK771 ) mk_X11_isOfKind dX11_as_28 wd_425 wd_426 rfl rfl (Nat.le_of_ble_eq_true rfl) (Nat.le_of_ble_eq_true rfl) (Nat.le_of_ble_eq_true rfl) (by omega) (by omega) (fun q zh816 zm818 zp819 => ?_)
          obtain ⟨rfl, ze817, zn820⟩ := zp819
          subst zm818
          subst zh816
          refine z_st (st' := [.int (b2i (isOfP (nI 5) (nI 2)))]) rfl ?_
          refine z_if_eq X 41 dX11_as_31 (by decide) (fun zc821 => ?_) (fun zc821 => ?_)
          · replace zc821 := b2i_f zc821
            refine z_aload_n X 1 dX11_as_41 rfl ?_
            refine z_iconst (v := 5) X dX11_as_42 (by decide) ?_
            refine z_callV X (c_fail (κ := κ) (n := n) (o := (o)) (im := (im)) (fo := (fo)) (k := (5)) K0 K4 (by first | assumption | omega) (by first | assumption | omega)) mk_X11_fail dX11_as_43 wd_260 wd_262 wd_0 rfl K0 rfl rfl rfl (Nat.le_of_ble_eq_true rfl) (Nat.le_of_ble_eq_true rfl) (Nat.le_of_ble_eq_true rfl) (by omega) (by omega) (fun q zh822 zm824 zp825 => ?_)
            obtain ⟨rfl, ze823, zn826⟩ := zp825
            subst zm824
            refine z_st (st' := [.int (lowE 5)]) rfl ?_
            have zK827 : zh822 o = some (.inr (11, [.ref (o + 1), .ref (o + 14), .ref (o + 27), .ref (o + 33), .ref (o + 42), .ref (o + 55), .ref (o + 57), .ref (o + 59), .ref (o + 61), .int im])) := by rw [ze823]; rw [va_up_ne _ _ (show o ≠ o + 61 by omega)]; exact K0
            have zK828 : zh822 (o + 1) = some (.inr (3, [.ref (o + 1 + 1), .ref (o + 1 + 7), .ref (o + 1 + 9), .ref (o + 1 + 11), .int (d 13)])) := by rw [ze823]; rw [va_up_ne _ _ (show o + 1 ≠ o + 61 by omega)]; exact K1
            have zK829 : zh822 (o + 2) = some (.inr (2, [.ref (o + 3), .ref (o + 4), .ref (o + 5), .ref (o + 6), .ref (o + 7), .int (nI len), .int (d 0), .int (d 2), .int (d 3), .int (nI nc), .int (d 10), .int cold, .int wind])) := by rw [ze823]; rw [va_up_ne _ _ (show o + 2 ≠ o + 61 by omega)]; exact K2
            have zK830 : zh822 (o + 6) = arR κ 1 6 cs := by rw [ze823]; rw [va_up_ne _ _ (show o + 6 ≠ o + 61 by omega)]; exact K3
            have zK831 : zh822 (o + 61) = arI κ 6 (bmp fo 5) := by rw [ze823]; exact va_up_self _ _ _
            have zK832 : zh822 a = some (.inr (4, [.int (nI 5), .int (nI ck), .int (d (20 + 2 * ck + 1))])) := by rw [ze823]; rw [va_up_ne _ _ (show a ≠ o + 61 by omega)]; exact zK771
            have zl833 : ∀ zq : Nat, zq < (o + 76) → zq ≠ (o + 61) → zh822 zq = h zq := by intro zq hzq zn0; rw [ze823, va_up_ne _ _ (show zq ≠ o + 61 by omega)]; try rfl
            have zr834 : Zr κ (o + 76) h zh822 := (Zr.refl).trans (Zr.same (fun zq h1 => by rw [ze823, va_up_ne _ _ (show zq ≠ o + 61 by omega)]))
            refine z_iret X E dX11_as_46 (by omega) (by omega) ⟨?_, ?_, ?_, ?_, ?_⟩
            · rw [opAs_5 (x := 2) (y := 5) hck q5 (by decide) ha4 (by assumption)]; rfl
            · rfl
            · exact fun zq hzq zn0 => zl833 zq hzq zn0
            · exact zr834
            · rw [opAs_5 (x := 2) (y := 5) hck q5 (by decide) ha4 (by assumption)]; exact zK831
          · replace zc821 := b2i_t zc821
            refine z_aload_n X 0 dX11_as_34 rfl ?_
            refine z_get X fl_X11_140_4 dX11_as_35 zK771 rfl ?_
            refine z_goto X 46 dX11_as_38 (by decide) ?_
            refine z_iret X E dX11_as_46 (by omega) (by omega) ⟨?_, ?_, ?_, ?_, ?_⟩
            · rw [opAs_0 (x := 2) (y := 5) hck q5 (by decide) ha4 (by assumption)]; rfl
            · rfl
            · exact fun zq hzq zn0 => rfl
            · exact Zr.refl
            · rw [opAs_0 (x := 2) (y := 5) hck q5 (by decide) ha4 (by assumption)]; exact K4
        · skip
          refine z_aload_n X 0 dX11_as_26 rfl ?_
          refine z_iload_n X 3 dX11_as_27 rfl ?_
          refine z_callS X (c_isOfKind_5_3 (κ := κ) (n := n) (a := (a)) (v1 := (nI 5)) (v2 := (nI ck)) (v3 := (d (20 + 2 * ck + 1))) zK771 ) mk_X11_isOfKind dX11_as_28 wd_425 wd_426 rfl rfl (Nat.le_of_ble_eq_true rfl) (Nat.le_of_ble_eq_true rfl) (Nat.le_of_ble_eq_true rfl) (by omega) (by omega) (fun q zh835 zm837 zp838 => ?_)
          obtain ⟨rfl, ze836, zn839⟩ := zp838
          subst zm837
          subst zh835
          refine z_st (st' := [.int (b2i (isOfP (nI 5) (nI 3)))]) rfl ?_
          refine z_if_eq X 41 dX11_as_31 (by decide) (fun zc840 => ?_) (fun zc840 => ?_)
          · replace zc840 := b2i_f zc840
            refine z_aload_n X 1 dX11_as_41 rfl ?_
            refine z_iconst (v := 5) X dX11_as_42 (by decide) ?_
            refine z_callV X (c_fail (κ := κ) (n := n) (o := (o)) (im := (im)) (fo := (fo)) (k := (5)) K0 K4 (by first | assumption | omega) (by first | assumption | omega)) mk_X11_fail dX11_as_43 wd_260 wd_262 wd_0 rfl K0 rfl rfl rfl (Nat.le_of_ble_eq_true rfl) (Nat.le_of_ble_eq_true rfl) (Nat.le_of_ble_eq_true rfl) (by omega) (by omega) (fun q zh841 zm843 zp844 => ?_)
            obtain ⟨rfl, ze842, zn845⟩ := zp844
            subst zm843
            refine z_st (st' := [.int (lowE 5)]) rfl ?_
            have zK846 : zh841 o = some (.inr (11, [.ref (o + 1), .ref (o + 14), .ref (o + 27), .ref (o + 33), .ref (o + 42), .ref (o + 55), .ref (o + 57), .ref (o + 59), .ref (o + 61), .int im])) := by rw [ze842]; rw [va_up_ne _ _ (show o ≠ o + 61 by omega)]; exact K0
            have zK847 : zh841 (o + 1) = some (.inr (3, [.ref (o + 1 + 1), .ref (o + 1 + 7), .ref (o + 1 + 9), .ref (o + 1 + 11), .int (d 13)])) := by rw [ze842]; rw [va_up_ne _ _ (show o + 1 ≠ o + 61 by omega)]; exact K1
            have zK848 : zh841 (o + 2) = some (.inr (2, [.ref (o + 3), .ref (o + 4), .ref (o + 5), .ref (o + 6), .ref (o + 7), .int (nI len), .int (d 0), .int (d 2), .int (d 3), .int (nI nc), .int (d 10), .int cold, .int wind])) := by rw [ze842]; rw [va_up_ne _ _ (show o + 2 ≠ o + 61 by omega)]; exact K2
            have zK849 : zh841 (o + 6) = arR κ 1 6 cs := by rw [ze842]; rw [va_up_ne _ _ (show o + 6 ≠ o + 61 by omega)]; exact K3
            have zK850 : zh841 (o + 61) = arI κ 6 (bmp fo 5) := by rw [ze842]; exact va_up_self _ _ _
            have zK851 : zh841 a = some (.inr (4, [.int (nI 5), .int (nI ck), .int (d (20 + 2 * ck + 1))])) := by rw [ze842]; rw [va_up_ne _ _ (show a ≠ o + 61 by omega)]; exact zK771
            have zl852 : ∀ zq : Nat, zq < (o + 76) → zq ≠ (o + 61) → zh841 zq = h zq := by intro zq hzq zn0; rw [ze842, va_up_ne _ _ (show zq ≠ o + 61 by omega)]; try rfl
            have zr853 : Zr κ (o + 76) h zh841 := (Zr.refl).trans (Zr.same (fun zq h1 => by rw [ze842, va_up_ne _ _ (show zq ≠ o + 61 by omega)]))
            refine z_iret X E dX11_as_46 (by omega) (by omega) ⟨?_, ?_, ?_, ?_, ?_⟩
            · rw [opAs_5 (x := 3) (y := 5) hck q5 (by decide) ha4 (by assumption)]; rfl
            · rfl
            · exact fun zq hzq zn0 => zl852 zq hzq zn0
            · exact zr853
            · rw [opAs_5 (x := 3) (y := 5) hck q5 (by decide) ha4 (by assumption)]; exact zK850
          · replace zc840 := b2i_t zc840
            refine z_aload_n X 0 dX11_as_34 rfl ?_
            refine z_get X fl_X11_140_4 dX11_as_35 zK771 rfl ?_
            refine z_goto X 46 dX11_as_38 (by decide) ?_
            refine z_iret X E dX11_as_46 (by omega) (by omega) ⟨?_, ?_, ?_, ?_, ?_⟩
            · rw [opAs_0 (x := 3) (y := 5) hck q5 (by decide) ha4 (by assumption)]; rfl
            · rfl
            · exact fun zq hzq zn0 => rfl
            · exact Zr.refl
            · rw [opAs_0 (x := 3) (y := 5) hck q5 (by decide) ha4 (by assumption)]; exact K4
        · skip
          refine z_aload_n X 0 dX11_as_26 rfl ?_
          refine z_iload_n X 3 dX11_as_27 rfl ?_
          refine z_callS X (c_isOfKind_5_4 (κ := κ) (n := n) (a := (a)) (v1 := (nI 5)) (v2 := (nI ck)) (v3 := (d (20 + 2 * ck + 1))) zK771 ) mk_X11_isOfKind dX11_as_28 wd_425 wd_426 rfl rfl (Nat.le_of_ble_eq_true rfl) (Nat.le_of_ble_eq_true rfl) (Nat.le_of_ble_eq_true rfl) (by omega) (by omega) (fun q zh854 zm856 zp857 => ?_)
          obtain ⟨rfl, ze855, zn858⟩ := zp857
          subst zm856
          subst zh854
          refine z_st (st' := [.int (b2i (isOfP (nI 5) (nI 4)))]) rfl ?_
          refine z_if_eq X 41 dX11_as_31 (by decide) (fun zc859 => ?_) (fun zc859 => ?_)
          · replace zc859 := b2i_f zc859
            refine z_aload_n X 1 dX11_as_41 rfl ?_
            refine z_iconst (v := 5) X dX11_as_42 (by decide) ?_
            refine z_callV X (c_fail (κ := κ) (n := n) (o := (o)) (im := (im)) (fo := (fo)) (k := (5)) K0 K4 (by first | assumption | omega) (by first | assumption | omega)) mk_X11_fail dX11_as_43 wd_260 wd_262 wd_0 rfl K0 rfl rfl rfl (Nat.le_of_ble_eq_true rfl) (Nat.le_of_ble_eq_true rfl) (Nat.le_of_ble_eq_true rfl) (by omega) (by omega) (fun q zh860 zm862 zp863 => ?_)
            obtain ⟨rfl, ze861, zn864⟩ := zp863
            subst zm862
            refine z_st (st' := [.int (lowE 5)]) rfl ?_
            have zK865 : zh860 o = some (.inr (11, [.ref (o + 1), .ref (o + 14), .ref (o + 27), .ref (o + 33), .ref (o + 42), .ref (o + 55), .ref (o + 57), .ref (o + 59), .ref (o + 61), .int im])) := by rw [ze861]; rw [va_up_ne _ _ (show o ≠ o + 61 by omega)]; exact K0
            have zK866 : zh860 (o + 1) = some (.inr (3, [.ref (o + 1 + 1), .ref (o + 1 + 7), .ref (o + 1 + 9), .ref (o + 1 + 11), .int (d 13)])) := by rw [ze861]; rw [va_up_ne _ _ (show o + 1 ≠ o + 61 by omega)]; exact K1
            have zK867 : zh860 (o + 2) = some (.inr (2, [.ref (o + 3), .ref (o + 4), .ref (o + 5), .ref (o + 6), .ref (o + 7), .int (nI len), .int (d 0), .int (d 2), .int (d 3), .int (nI nc), .int (d 10), .int cold, .int wind])) := by rw [ze861]; rw [va_up_ne _ _ (show o + 2 ≠ o + 61 by omega)]; exact K2
            have zK868 : zh860 (o + 6) = arR κ 1 6 cs := by rw [ze861]; rw [va_up_ne _ _ (show o + 6 ≠ o + 61 by omega)]; exact K3
            have zK869 : zh860 (o + 61) = arI κ 6 (bmp fo 5) := by rw [ze861]; exact va_up_self _ _ _
            have zK870 : zh860 a = some (.inr (4, [.int (nI 5), .int (nI ck), .int (d (20 + 2 * ck + 1))])) := by rw [ze861]; rw [va_up_ne _ _ (show a ≠ o + 61 by omega)]; exact zK771
            have zl871 : ∀ zq : Nat, zq < (o + 76) → zq ≠ (o + 61) → zh860 zq = h zq := by intro zq hzq zn0; rw [ze861, va_up_ne _ _ (show zq ≠ o + 61 by omega)]; try rfl
            have zr872 : Zr κ (o + 76) h zh860 := (Zr.refl).trans (Zr.same (fun zq h1 => by rw [ze861, va_up_ne _ _ (show zq ≠ o + 61 by omega)]))
            refine z_iret X E dX11_as_46 (by omega) (by omega) ⟨?_, ?_, ?_, ?_, ?_⟩
            · rw [opAs_5 (x := 4) (y := 5) hck q5 (by decide) ha4 (by assumption)]; rfl
            · rfl
            · exact fun zq hzq zn0 => zl871 zq hzq zn0
            · exact zr872
            · rw [opAs_5 (x := 4) (y := 5) hck q5 (by decide) ha4 (by assumption)]; exact zK869
          · replace zc859 := b2i_t zc859
            refine z_aload_n X 0 dX11_as_34 rfl ?_
            refine z_get X fl_X11_140_4 dX11_as_35 zK771 rfl ?_
            refine z_goto X 46 dX11_as_38 (by decide) ?_
            refine z_iret X E dX11_as_46 (by omega) (by omega) ⟨?_, ?_, ?_, ?_, ?_⟩
            · rw [opAs_0 (x := 4) (y := 5) hck q5 (by decide) ha4 (by assumption)]; rfl
            · rfl
            · exact fun zq hzq zn0 => rfl
            · exact Zr.refl
            · rw [opAs_0 (x := 4) (y := 5) hck q5 (by decide) ha4 (by assumption)]; exact K4
        · skip
          refine z_aload_n X 0 dX11_as_26 rfl ?_
          refine z_iload_n X 3 dX11_as_27 rfl ?_
          refine z_callS X (c_isOfKind_5_5 (κ := κ) (n := n) (a := (a)) (v1 := (nI 5)) (v2 := (nI ck)) (v3 := (d (20 + 2 * ck + 1))) zK771 ) mk_X11_isOfKind dX11_as_28 wd_425 wd_426 rfl rfl (Nat.le_of_ble_eq_true rfl) (Nat.le_of_ble_eq_true rfl) (Nat.le_of_ble_eq_true rfl) (by omega) (by omega) (fun q zh873 zm875 zp876 => ?_)
          obtain ⟨rfl, ze874, zn877⟩ := zp876
          subst zm875
          subst zh873
          refine z_st (st' := [.int (b2i (isOfP (nI 5) (nI 5)))]) rfl ?_
          refine z_if_eq X 41 dX11_as_31 (by decide) (fun zc878 => ?_) (fun zc878 => ?_)
          · replace zc878 := b2i_f zc878
            refine z_aload_n X 1 dX11_as_41 rfl ?_
            refine z_iconst (v := 5) X dX11_as_42 (by decide) ?_
            refine z_callV X (c_fail (κ := κ) (n := n) (o := (o)) (im := (im)) (fo := (fo)) (k := (5)) K0 K4 (by first | assumption | omega) (by first | assumption | omega)) mk_X11_fail dX11_as_43 wd_260 wd_262 wd_0 rfl K0 rfl rfl rfl (Nat.le_of_ble_eq_true rfl) (Nat.le_of_ble_eq_true rfl) (Nat.le_of_ble_eq_true rfl) (by omega) (by omega) (fun q zh879 zm881 zp882 => ?_)
            obtain ⟨rfl, ze880, zn883⟩ := zp882
            subst zm881
            refine z_st (st' := [.int (lowE 5)]) rfl ?_
            have zK884 : zh879 o = some (.inr (11, [.ref (o + 1), .ref (o + 14), .ref (o + 27), .ref (o + 33), .ref (o + 42), .ref (o + 55), .ref (o + 57), .ref (o + 59), .ref (o + 61), .int im])) := by rw [ze880]; rw [va_up_ne _ _ (show o ≠ o + 61 by omega)]; exact K0
            have zK885 : zh879 (o + 1) = some (.inr (3, [.ref (o + 1 + 1), .ref (o + 1 + 7), .ref (o + 1 + 9), .ref (o + 1 + 11), .int (d 13)])) := by rw [ze880]; rw [va_up_ne _ _ (show o + 1 ≠ o + 61 by omega)]; exact K1
            have zK886 : zh879 (o + 2) = some (.inr (2, [.ref (o + 3), .ref (o + 4), .ref (o + 5), .ref (o + 6), .ref (o + 7), .int (nI len), .int (d 0), .int (d 2), .int (d 3), .int (nI nc), .int (d 10), .int cold, .int wind])) := by rw [ze880]; rw [va_up_ne _ _ (show o + 2 ≠ o + 61 by omega)]; exact K2
            have zK887 : zh879 (o + 6) = arR κ 1 6 cs := by rw [ze880]; rw [va_up_ne _ _ (show o + 6 ≠ o + 61 by omega)]; exact K3
            have zK888 : zh879 (o + 61) = arI κ 6 (bmp fo 5) := by rw [ze880]; exact va_up_self _ _ _
            have zK889 : zh879 a = some (.inr (4, [.int (nI 5), .int (nI ck), .int (d (20 + 2 * ck + 1))])) := by rw [ze880]; rw [va_up_ne _ _ (show a ≠ o + 61 by omega)]; exact zK771
            have zl890 : ∀ zq : Nat, zq < (o + 76) → zq ≠ (o + 61) → zh879 zq = h zq := by intro zq hzq zn0; rw [ze880, va_up_ne _ _ (show zq ≠ o + 61 by omega)]; try rfl
            have zr891 : Zr κ (o + 76) h zh879 := (Zr.refl).trans (Zr.same (fun zq h1 => by rw [ze880, va_up_ne _ _ (show zq ≠ o + 61 by omega)]))
            refine z_iret X E dX11_as_46 (by omega) (by omega) ⟨?_, ?_, ?_, ?_, ?_⟩
            · rw [opAs_5 (x := 5) (y := 5) hck q5 (by decide) ha4 (by assumption)]; rfl
            · rfl
            · exact fun zq hzq zn0 => zl890 zq hzq zn0
            · exact zr891
            · rw [opAs_5 (x := 5) (y := 5) hck q5 (by decide) ha4 (by assumption)]; exact zK888
          · replace zc878 := b2i_t zc878
            refine z_aload_n X 0 dX11_as_34 rfl ?_
            refine z_get X fl_X11_140_4 dX11_as_35 zK771 rfl ?_
            refine z_goto X 46 dX11_as_38 (by decide) ?_
            refine z_iret X E dX11_as_46 (by omega) (by omega) ⟨?_, ?_, ?_, ?_, ?_⟩
            · rw [opAs_0 (x := 5) (y := 5) hck q5 (by decide) ha4 (by assumption)]; rfl
            · rfl
            · exact fun zq hzq zn0 => rfl
            · exact Zr.refl
            · rw [opAs_0 (x := 5) (y := 5) hck q5 (by decide) ha4 (by assumption)]; exact K4
        · skip
          refine z_aload_n X 0 dX11_as_26 rfl ?_
          refine z_iload_n X 3 dX11_as_27 rfl ?_
          refine z_callS X (c_isOfKind_5_6 (κ := κ) (n := n) (a := (a)) (v1 := (nI 5)) (v2 := (nI ck)) (v3 := (d (20 + 2 * ck + 1))) zK771 ) mk_X11_isOfKind dX11_as_28 wd_425 wd_426 rfl rfl (Nat.le_of_ble_eq_true rfl) (Nat.le_of_ble_eq_true rfl) (Nat.le_of_ble_eq_true rfl) (by omega) (by omega) (fun q zh892 zm894 zp895 => ?_)
          obtain ⟨rfl, ze893, zn896⟩ := zp895
          subst zm894
          subst zh892
          refine z_st (st' := [.int (b2i (isOfP (nI 5) (nI 6)))]) rfl ?_
          refine z_if_eq X 41 dX11_as_31 (by decide) (fun zc897 => ?_) (fun zc897 => ?_)
          · replace zc897 := b2i_f zc897
            refine z_aload_n X 1 dX11_as_41 rfl ?_
            refine z_iconst (v := 5) X dX11_as_42 (by decide) ?_
            refine z_callV X (c_fail (κ := κ) (n := n) (o := (o)) (im := (im)) (fo := (fo)) (k := (5)) K0 K4 (by first | assumption | omega) (by first | assumption | omega)) mk_X11_fail dX11_as_43 wd_260 wd_262 wd_0 rfl K0 rfl rfl rfl (Nat.le_of_ble_eq_true rfl) (Nat.le_of_ble_eq_true rfl) (Nat.le_of_ble_eq_true rfl) (by omega) (by omega) (fun q zh898 zm900 zp901 => ?_)
            obtain ⟨rfl, ze899, zn902⟩ := zp901
            subst zm900
            refine z_st (st' := [.int (lowE 5)]) rfl ?_
            have zK903 : zh898 o = some (.inr (11, [.ref (o + 1), .ref (o + 14), .ref (o + 27), .ref (o + 33), .ref (o + 42), .ref (o + 55), .ref (o + 57), .ref (o + 59), .ref (o + 61), .int im])) := by rw [ze899]; rw [va_up_ne _ _ (show o ≠ o + 61 by omega)]; exact K0
            have zK904 : zh898 (o + 1) = some (.inr (3, [.ref (o + 1 + 1), .ref (o + 1 + 7), .ref (o + 1 + 9), .ref (o + 1 + 11), .int (d 13)])) := by rw [ze899]; rw [va_up_ne _ _ (show o + 1 ≠ o + 61 by omega)]; exact K1
            have zK905 : zh898 (o + 2) = some (.inr (2, [.ref (o + 3), .ref (o + 4), .ref (o + 5), .ref (o + 6), .ref (o + 7), .int (nI len), .int (d 0), .int (d 2), .int (d 3), .int (nI nc), .int (d 10), .int cold, .int wind])) := by rw [ze899]; rw [va_up_ne _ _ (show o + 2 ≠ o + 61 by omega)]; exact K2
            have zK906 : zh898 (o + 6) = arR κ 1 6 cs := by rw [ze899]; rw [va_up_ne _ _ (show o + 6 ≠ o + 61 by omega)]; exact K3
            have zK907 : zh898 (o + 61) = arI κ 6 (bmp fo 5) := by rw [ze899]; exact va_up_self _ _ _
            have zK908 : zh898 a = some (.inr (4, [.int (nI 5), .int (nI ck), .int (d (20 + 2 * ck + 1))])) := by rw [ze899]; rw [va_up_ne _ _ (show a ≠ o + 61 by omega)]; exact zK771
            have zl909 : ∀ zq : Nat, zq < (o + 76) → zq ≠ (o + 61) → zh898 zq = h zq := by intro zq hzq zn0; rw [ze899, va_up_ne _ _ (show zq ≠ o + 61 by omega)]; try rfl
            have zr910 : Zr κ (o + 76) h zh898 := (Zr.refl).trans (Zr.same (fun zq h1 => by rw [ze899, va_up_ne _ _ (show zq ≠ o + 61 by omega)]))
            refine z_iret X E dX11_as_46 (by omega) (by omega) ⟨?_, ?_, ?_, ?_, ?_⟩
            · rw [opAs_5 (x := 6) (y := 5) hck q5 (by decide) ha4 (by assumption)]; rfl
            · rfl
            · exact fun zq hzq zn0 => zl909 zq hzq zn0
            · exact zr910
            · rw [opAs_5 (x := 6) (y := 5) hck q5 (by decide) ha4 (by assumption)]; exact zK907
          · replace zc897 := b2i_t zc897
            refine z_aload_n X 0 dX11_as_34 rfl ?_
            refine z_get X fl_X11_140_4 dX11_as_35 zK771 rfl ?_
            refine z_goto X 46 dX11_as_38 (by decide) ?_
            refine z_iret X E dX11_as_46 (by omega) (by omega) ⟨?_, ?_, ?_, ?_, ?_⟩
            · rw [opAs_0 (x := 6) (y := 5) hck q5 (by decide) ha4 (by assumption)]; rfl
            · rfl
            · exact fun zq hzq zn0 => rfl
            · exact Zr.refl
            · rw [opAs_0 (x := 6) (y := 5) hck q5 (by decide) ha4 (by assumption)]; exact K4
      · replace zc777 := b2i_f zc777
        refine z_aload_n X 1 dX11_as_20 rfl ?_
        refine z_iconst (v := 1) X dX11_as_21 (by decide) ?_
        refine z_callV X (c_fail (κ := κ) (n := n) (o := (o)) (im := (im)) (fo := (fo)) (k := (1)) K0 K4 (by first | assumption | omega) (by first | assumption | omega)) mk_X11_fail dX11_as_22 wd_260 wd_262 wd_0 rfl K0 rfl rfl rfl (Nat.le_of_ble_eq_true rfl) (Nat.le_of_ble_eq_true rfl) (Nat.le_of_ble_eq_true rfl) (by omega) (by omega) (fun q zh911 zm913 zp914 => ?_)
        obtain ⟨rfl, ze912, zn915⟩ := zp914
        subst zm913
        refine z_st (st' := [.int (lowE 1)]) rfl ?_
        have zK916 : zh911 o = some (.inr (11, [.ref (o + 1), .ref (o + 14), .ref (o + 27), .ref (o + 33), .ref (o + 42), .ref (o + 55), .ref (o + 57), .ref (o + 59), .ref (o + 61), .int im])) := by rw [ze912]; rw [va_up_ne _ _ (show o ≠ o + 61 by omega)]; exact K0
        have zK917 : zh911 (o + 1) = some (.inr (3, [.ref (o + 1 + 1), .ref (o + 1 + 7), .ref (o + 1 + 9), .ref (o + 1 + 11), .int (d 13)])) := by rw [ze912]; rw [va_up_ne _ _ (show o + 1 ≠ o + 61 by omega)]; exact K1
        have zK918 : zh911 (o + 2) = some (.inr (2, [.ref (o + 3), .ref (o + 4), .ref (o + 5), .ref (o + 6), .ref (o + 7), .int (nI len), .int (d 0), .int (d 2), .int (d 3), .int (nI nc), .int (d 10), .int cold, .int wind])) := by rw [ze912]; rw [va_up_ne _ _ (show o + 2 ≠ o + 61 by omega)]; exact K2
        have zK919 : zh911 (o + 6) = arR κ 1 6 cs := by rw [ze912]; rw [va_up_ne _ _ (show o + 6 ≠ o + 61 by omega)]; exact K3
        have zK920 : zh911 (o + 61) = arI κ 6 (bmp fo 1) := by rw [ze912]; exact va_up_self _ _ _
        have zK921 : zh911 a = some (.inr (4, [.int (nI 5), .int (nI ck), .int (d (20 + 2 * ck + 1))])) := by rw [ze912]; rw [va_up_ne _ _ (show a ≠ o + 61 by omega)]; exact zK771
        have zl922 : ∀ zq : Nat, zq < (o + 76) → zq ≠ (o + 61) → zh911 zq = h zq := by intro zq hzq zn0; rw [ze912, va_up_ne _ _ (show zq ≠ o + 61 by omega)]; try rfl
        have zr923 : Zr κ (o + 76) h zh911 := (Zr.refl).trans (Zr.same (fun zq h1 => by rw [ze912, va_up_ne _ _ (show zq ≠ o + 61 by omega)]))
        refine z_iret X E dX11_as_25 (by omega) (by omega) ⟨?_, ?_, ?_, ?_, ?_⟩
        · rw [opAs_e (fun zq => (by assumption : ¬ (0 ≤ w.toInt ∧ w.toInt ≤ 6)) zq.2.2)]; rfl
        · rfl
        · exact fun zq hzq zn0 => zl922 zq hzq zn0
        · exact zr923
        · rw [opAs_e (fun zq => (by assumption : ¬ (0 ≤ w.toInt ∧ w.toInt ≤ 6)) zq.2.2)]; exact zK920
    · skip
      have zK924 : h a = some (.inr (1, [.int (nI 6), .int (nI ck), .int (d (20 + 2 * ck + 1))])) := ha5
      refine z_astore_n (ls' := [(3, .ref a), (0, .ref o), (1, .int (nI ck)), (2, .int w)]) X dX11_as_5 (by decide) rfl ?_
      refine z_aload_n X 0 dX11_as_6 rfl ?_
      refine z_ifnull X dX11_as_7 ?_
      refine z_iload_n X 3 dX11_as_10 rfl ?_
      refine z_iconst (v := 0) X dX11_as_11 (by decide) ?_
      refine z_bipush (v := 6) X dX11_as_12 (by decide) ?_
      refine z_callS X (c_within (κ := κ) (n := n) (v := (w)) (lo := (0)) (hi := (6))  ) mk_X11_within dX11_as_14 wd_259 wd_257 rfl rfl (Nat.le_of_ble_eq_true rfl) (Nat.le_of_ble_eq_true rfl) (Nat.le_of_ble_eq_true rfl) (by omega) (by omega) (fun q zh925 zm927 zp928 => ?_)
      obtain ⟨rfl, ze926, zn929⟩ := zp928
      subst zm927
      subst zh925
      refine z_st (st' := [.int (b2i ((0 : Int32).toInt ≤ (w : Int32).toInt ∧ (w : Int32).toInt ≤ (6 : Int32).toInt))]) rfl ?_
      refine z_toe (y := b2i (0 ≤ w.toInt ∧ w.toInt ≤ 6)) (by simp only [show (0 : Int32).toInt = 0 by decide, show (6 : Int32).toInt = 6 by decide]) ?_
      refine z_if_ne X 26 dX11_as_17 (by decide) (fun zc930 => ?_) (fun zc930 => ?_)
      · replace zc930 := b2i_t zc930
        obtain ⟨wq, hwq, rfl⟩ := ix_of (c := w) (len := 7) (by omega) (by omega)
        rcases lt7 hwq with rfl | rfl | rfl | rfl | rfl | rfl | rfl
        · skip
          refine z_aload_n X 0 dX11_as_26 rfl ?_
          refine z_iload_n X 3 dX11_as_27 rfl ?_
          refine z_callS X (c_isOfKind_6_0 (κ := κ) (n := n) (a := (a)) (v1 := (nI 6)) (v2 := (nI ck)) (v3 := (d (20 + 2 * ck + 1))) zK924 ) mk_X11_isOfKind dX11_as_28 wd_425 wd_426 rfl rfl (Nat.le_of_ble_eq_true rfl) (Nat.le_of_ble_eq_true rfl) (Nat.le_of_ble_eq_true rfl) (by omega) (by omega) (fun q zh931 zm933 zp934 => ?_)
          obtain ⟨rfl, ze932, zn935⟩ := zp934
          subst zm933
          subst zh931
          refine z_st (st' := [.int (b2i (isOfP (nI 6) (nI 0)))]) rfl ?_
          refine z_if_eq X 41 dX11_as_31 (by decide) (fun zc936 => ?_) (fun zc936 => ?_)
          · replace zc936 := b2i_f zc936
            refine z_aload_n X 1 dX11_as_41 rfl ?_
            refine z_iconst (v := 5) X dX11_as_42 (by decide) ?_
            refine z_callV X (c_fail (κ := κ) (n := n) (o := (o)) (im := (im)) (fo := (fo)) (k := (5)) K0 K4 (by first | assumption | omega) (by first | assumption | omega)) mk_X11_fail dX11_as_43 wd_260 wd_262 wd_0 rfl K0 rfl rfl rfl (Nat.le_of_ble_eq_true rfl) (Nat.le_of_ble_eq_true rfl) (Nat.le_of_ble_eq_true rfl) (by omega) (by omega) (fun q zh937 zm939 zp940 => ?_)
            obtain ⟨rfl, ze938, zn941⟩ := zp940
            subst zm939
            refine z_st (st' := [.int (lowE 5)]) rfl ?_
            have zK942 : zh937 o = some (.inr (11, [.ref (o + 1), .ref (o + 14), .ref (o + 27), .ref (o + 33), .ref (o + 42), .ref (o + 55), .ref (o + 57), .ref (o + 59), .ref (o + 61), .int im])) := by rw [ze938]; rw [va_up_ne _ _ (show o ≠ o + 61 by omega)]; exact K0
            have zK943 : zh937 (o + 1) = some (.inr (3, [.ref (o + 1 + 1), .ref (o + 1 + 7), .ref (o + 1 + 9), .ref (o + 1 + 11), .int (d 13)])) := by rw [ze938]; rw [va_up_ne _ _ (show o + 1 ≠ o + 61 by omega)]; exact K1
            have zK944 : zh937 (o + 2) = some (.inr (2, [.ref (o + 3), .ref (o + 4), .ref (o + 5), .ref (o + 6), .ref (o + 7), .int (nI len), .int (d 0), .int (d 2), .int (d 3), .int (nI nc), .int (d 10), .int cold, .int wind])) := by rw [ze938]; rw [va_up_ne _ _ (show o + 2 ≠ o + 61 by omega)]; exact K2
            have zK945 : zh937 (o + 6) = arR κ 1 6 cs := by rw [ze938]; rw [va_up_ne _ _ (show o + 6 ≠ o + 61 by omega)]; exact K3
            have zK946 : zh937 (o + 61) = arI κ 6 (bmp fo 5) := by rw [ze938]; exact va_up_self _ _ _
            have zK947 : zh937 a = some (.inr (1, [.int (nI 6), .int (nI ck), .int (d (20 + 2 * ck + 1))])) := by rw [ze938]; rw [va_up_ne _ _ (show a ≠ o + 61 by omega)]; exact zK924
            have zl948 : ∀ zq : Nat, zq < (o + 76) → zq ≠ (o + 61) → zh937 zq = h zq := by intro zq hzq zn0; rw [ze938, va_up_ne _ _ (show zq ≠ o + 61 by omega)]; try rfl
            have zr949 : Zr κ (o + 76) h zh937 := (Zr.refl).trans (Zr.same (fun zq h1 => by rw [ze938, va_up_ne _ _ (show zq ≠ o + 61 by omega)]))
            refine z_iret X E dX11_as_46 (by omega) (by omega) ⟨?_, ?_, ?_, ?_, ?_⟩
            · rw [opAs_5 (x := 0) (y := 6) hck q5 (by decide) ha4 (by assumption)]; rfl
            · rfl
            · exact fun zq hzq zn0 => zl948 zq hzq zn0
            · exact zr949
            · rw [opAs_5 (x := 0) (y := 6) hck q5 (by decide) ha4 (by assumption)]; exact zK946
          · replace zc936 := b2i_t zc936
            refine z_aload_n X 0 dX11_as_34 rfl ?_
            refine z_get X fl_X11_140_1 dX11_as_35 zK924 rfl ?_
            refine z_goto X 46 dX11_as_38 (by decide) ?_
            refine z_iret X E dX11_as_46 (by omega) (by omega) ⟨?_, ?_, ?_, ?_, ?_⟩
            · rw [opAs_0 (x := 0) (y := 6) hck q5 (by decide) ha4 (by assumption)]; rfl
            · rfl
            · exact fun zq hzq zn0 => rfl
            · exact Zr.refl
            · rw [opAs_0 (x := 0) (y := 6) hck q5 (by decide) ha4 (by assumption)]; exact K4
        · skip
          refine z_aload_n X 0 dX11_as_26 rfl ?_
          refine z_iload_n X 3 dX11_as_27 rfl ?_
          refine z_callS X (c_isOfKind_6_1 (κ := κ) (n := n) (a := (a)) (v1 := (nI 6)) (v2 := (nI ck)) (v3 := (d (20 + 2 * ck + 1))) zK924 ) mk_X11_isOfKind dX11_as_28 wd_425 wd_426 rfl rfl (Nat.le_of_ble_eq_true rfl) (Nat.le_of_ble_eq_true rfl) (Nat.le_of_ble_eq_true rfl) (by omega) (by omega) (fun q zh950 zm952 zp953 => ?_)
          obtain ⟨rfl, ze951, zn954⟩ := zp953
          subst zm952
          subst zh950
          refine z_st (st' := [.int (b2i (isOfP (nI 6) (nI 1)))]) rfl ?_
          refine z_if_eq X 41 dX11_as_31 (by decide) (fun zc955 => ?_) (fun zc955 => ?_)
          · replace zc955 := b2i_f zc955
            refine z_aload_n X 1 dX11_as_41 rfl ?_
            refine z_iconst (v := 5) X dX11_as_42 (by decide) ?_
            refine z_callV X (c_fail (κ := κ) (n := n) (o := (o)) (im := (im)) (fo := (fo)) (k := (5)) K0 K4 (by first | assumption | omega) (by first | assumption | omega)) mk_X11_fail dX11_as_43 wd_260 wd_262 wd_0 rfl K0 rfl rfl rfl (Nat.le_of_ble_eq_true rfl) (Nat.le_of_ble_eq_true rfl) (Nat.le_of_ble_eq_true rfl) (by omega) (by omega) (fun q zh956 zm958 zp959 => ?_)
            obtain ⟨rfl, ze957, zn960⟩ := zp959
            subst zm958
            refine z_st (st' := [.int (lowE 5)]) rfl ?_
            have zK961 : zh956 o = some (.inr (11, [.ref (o + 1), .ref (o + 14), .ref (o + 27), .ref (o + 33), .ref (o + 42), .ref (o + 55), .ref (o + 57), .ref (o + 59), .ref (o + 61), .int im])) := by rw [ze957]; rw [va_up_ne _ _ (show o ≠ o + 61 by omega)]; exact K0
            have zK962 : zh956 (o + 1) = some (.inr (3, [.ref (o + 1 + 1), .ref (o + 1 + 7), .ref (o + 1 + 9), .ref (o + 1 + 11), .int (d 13)])) := by rw [ze957]; rw [va_up_ne _ _ (show o + 1 ≠ o + 61 by omega)]; exact K1
            have zK963 : zh956 (o + 2) = some (.inr (2, [.ref (o + 3), .ref (o + 4), .ref (o + 5), .ref (o + 6), .ref (o + 7), .int (nI len), .int (d 0), .int (d 2), .int (d 3), .int (nI nc), .int (d 10), .int cold, .int wind])) := by rw [ze957]; rw [va_up_ne _ _ (show o + 2 ≠ o + 61 by omega)]; exact K2
            have zK964 : zh956 (o + 6) = arR κ 1 6 cs := by rw [ze957]; rw [va_up_ne _ _ (show o + 6 ≠ o + 61 by omega)]; exact K3
            have zK965 : zh956 (o + 61) = arI κ 6 (bmp fo 5) := by rw [ze957]; exact va_up_self _ _ _
            have zK966 : zh956 a = some (.inr (1, [.int (nI 6), .int (nI ck), .int (d (20 + 2 * ck + 1))])) := by rw [ze957]; rw [va_up_ne _ _ (show a ≠ o + 61 by omega)]; exact zK924
            have zl967 : ∀ zq : Nat, zq < (o + 76) → zq ≠ (o + 61) → zh956 zq = h zq := by intro zq hzq zn0; rw [ze957, va_up_ne _ _ (show zq ≠ o + 61 by omega)]; try rfl
            have zr968 : Zr κ (o + 76) h zh956 := (Zr.refl).trans (Zr.same (fun zq h1 => by rw [ze957, va_up_ne _ _ (show zq ≠ o + 61 by omega)]))
            refine z_iret X E dX11_as_46 (by omega) (by omega) ⟨?_, ?_, ?_, ?_, ?_⟩
            · rw [opAs_5 (x := 1) (y := 6) hck q5 (by decide) ha4 (by assumption)]; rfl
            · rfl
            · exact fun zq hzq zn0 => zl967 zq hzq zn0
            · exact zr968
            · rw [opAs_5 (x := 1) (y := 6) hck q5 (by decide) ha4 (by assumption)]; exact zK965
          · replace zc955 := b2i_t zc955
            refine z_aload_n X 0 dX11_as_34 rfl ?_
            refine z_get X fl_X11_140_1 dX11_as_35 zK924 rfl ?_
            refine z_goto X 46 dX11_as_38 (by decide) ?_
            refine z_iret X E dX11_as_46 (by omega) (by omega) ⟨?_, ?_, ?_, ?_, ?_⟩
            · rw [opAs_0 (x := 1) (y := 6) hck q5 (by decide) ha4 (by assumption)]; rfl
            · rfl
            · exact fun zq hzq zn0 => rfl
            · exact Zr.refl
            · rw [opAs_0 (x := 1) (y := 6) hck q5 (by decide) ha4 (by assumption)]; exact K4
        · skip
          refine z_aload_n X 0 dX11_as_26 rfl ?_
          refine z_iload_n X 3 dX11_as_27 rfl ?_
          refine z_callS X (c_isOfKind_6_2 (κ := κ) (n := n) (a := (a)) (v1 := (nI 6)) (v2 := (nI ck)) (v3 := (d (20 + 2 * ck + 1))) zK924 ) mk_X11_isOfKind dX11_as_28 wd_425 wd_426 rfl rfl (Nat.le_of_ble_eq_true rfl) (Nat.le_of_ble_eq_true rfl) (Nat.le_of_ble_eq_true rfl) (by omega) (by omega) (fun q zh969 zm971 zp972 => ?_)
          obtain ⟨rfl, ze970, zn973⟩ := zp972
          subst zm971
          subst zh969
          refine z_st (st' := [.int (b2i (isOfP (nI 6) (nI 2)))]) rfl ?_
          refine z_if_eq X 41 dX11_as_31 (by decide) (fun zc974 => ?_) (fun zc974 => ?_)
          · replace zc974 := b2i_f zc974
            refine z_aload_n X 1 dX11_as_41 rfl ?_
            refine z_iconst (v := 5) X dX11_as_42 (by decide) ?_
            refine z_callV X (c_fail (κ := κ) (n := n) (o := (o)) (im := (im)) (fo := (fo)) (k := (5)) K0 K4 (by first | assumption | omega) (by first | assumption | omega)) mk_X11_fail dX11_as_43 wd_260 wd_262 wd_0 rfl K0 rfl rfl rfl (Nat.le_of_ble_eq_true rfl) (Nat.le_of_ble_eq_true rfl) (Nat.le_of_ble_eq_true rfl) (by omega) (by omega) (fun q zh975 zm977 zp978 => ?_)
            obtain ⟨rfl, ze976, zn979⟩ := zp978
            subst zm977
            refine z_st (st' := [.int (lowE 5)]) rfl ?_
            have zK980 : zh975 o = some (.inr (11, [.ref (o + 1), .ref (o + 14), .ref (o + 27), .ref (o + 33), .ref (o + 42), .ref (o + 55), .ref (o + 57), .ref (o + 59), .ref (o + 61), .int im])) := by rw [ze976]; rw [va_up_ne _ _ (show o ≠ o + 61 by omega)]; exact K0
            have zK981 : zh975 (o + 1) = some (.inr (3, [.ref (o + 1 + 1), .ref (o + 1 + 7), .ref (o + 1 + 9), .ref (o + 1 + 11), .int (d 13)])) := by rw [ze976]; rw [va_up_ne _ _ (show o + 1 ≠ o + 61 by omega)]; exact K1
            have zK982 : zh975 (o + 2) = some (.inr (2, [.ref (o + 3), .ref (o + 4), .ref (o + 5), .ref (o + 6), .ref (o + 7), .int (nI len), .int (d 0), .int (d 2), .int (d 3), .int (nI nc), .int (d 10), .int cold, .int wind])) := by rw [ze976]; rw [va_up_ne _ _ (show o + 2 ≠ o + 61 by omega)]; exact K2
            have zK983 : zh975 (o + 6) = arR κ 1 6 cs := by rw [ze976]; rw [va_up_ne _ _ (show o + 6 ≠ o + 61 by omega)]; exact K3
            have zK984 : zh975 (o + 61) = arI κ 6 (bmp fo 5) := by rw [ze976]; exact va_up_self _ _ _
            have zK985 : zh975 a = some (.inr (1, [.int (nI 6), .int (nI ck), .int (d (20 + 2 * ck + 1))])) := by rw [ze976]; rw [va_up_ne _ _ (show a ≠ o + 61 by omega)]; exact zK924
            have zl986 : ∀ zq : Nat, zq < (o + 76) → zq ≠ (o + 61) → zh975 zq = h zq := by intro zq hzq zn0; rw [ze976, va_up_ne _ _ (show zq ≠ o + 61 by omega)]; try rfl
            have zr987 : Zr κ (o + 76) h zh975 := (Zr.refl).trans (Zr.same (fun zq h1 => by rw [ze976, va_up_ne _ _ (show zq ≠ o + 61 by omega)]))
            refine z_iret X E dX11_as_46 (by omega) (by omega) ⟨?_, ?_, ?_, ?_, ?_⟩
            · rw [opAs_5 (x := 2) (y := 6) hck q5 (by decide) ha4 (by assumption)]; rfl
            · rfl
            · exact fun zq hzq zn0 => zl986 zq hzq zn0
            · exact zr987
            · rw [opAs_5 (x := 2) (y := 6) hck q5 (by decide) ha4 (by assumption)]; exact zK984
          · replace zc974 := b2i_t zc974
            refine z_aload_n X 0 dX11_as_34 rfl ?_
            refine z_get X fl_X11_140_1 dX11_as_35 zK924 rfl ?_
            refine z_goto X 46 dX11_as_38 (by decide) ?_
            refine z_iret X E dX11_as_46 (by omega) (by omega) ⟨?_, ?_, ?_, ?_, ?_⟩
            · rw [opAs_0 (x := 2) (y := 6) hck q5 (by decide) ha4 (by assumption)]; rfl
            · rfl
            · exact fun zq hzq zn0 => rfl
            · exact Zr.refl
            · rw [opAs_0 (x := 2) (y := 6) hck q5 (by decide) ha4 (by assumption)]; exact K4
        · skip
          refine z_aload_n X 0 dX11_as_26 rfl ?_
          refine z_iload_n X 3 dX11_as_27 rfl ?_
          refine z_callS X (c_isOfKind_6_3 (κ := κ) (n := n) (a := (a)) (v1 := (nI 6)) (v2 := (nI ck)) (v3 := (d (20 + 2 * ck + 1))) zK924 ) mk_X11_isOfKind dX11_as_28 wd_425 wd_426 rfl rfl (Nat.le_of_ble_eq_true rfl) (Nat.le_of_ble_eq_true rfl) (Nat.le_of_ble_eq_true rfl) (by omega) (by omega) (fun q zh988 zm990 zp991 => ?_)
          obtain ⟨rfl, ze989, zn992⟩ := zp991
          subst zm990
          subst zh988
          refine z_st (st' := [.int (b2i (isOfP (nI 6) (nI 3)))]) rfl ?_
          refine z_if_eq X 41 dX11_as_31 (by decide) (fun zc993 => ?_) (fun zc993 => ?_)
          · replace zc993 := b2i_f zc993
            refine z_aload_n X 1 dX11_as_41 rfl ?_
            refine z_iconst (v := 5) X dX11_as_42 (by decide) ?_
            refine z_callV X (c_fail (κ := κ) (n := n) (o := (o)) (im := (im)) (fo := (fo)) (k := (5)) K0 K4 (by first | assumption | omega) (by first | assumption | omega)) mk_X11_fail dX11_as_43 wd_260 wd_262 wd_0 rfl K0 rfl rfl rfl (Nat.le_of_ble_eq_true rfl) (Nat.le_of_ble_eq_true rfl) (Nat.le_of_ble_eq_true rfl) (by omega) (by omega) (fun q zh994 zm996 zp997 => ?_)
            obtain ⟨rfl, ze995, zn998⟩ := zp997
            subst zm996
            refine z_st (st' := [.int (lowE 5)]) rfl ?_
            have zK999 : zh994 o = some (.inr (11, [.ref (o + 1), .ref (o + 14), .ref (o + 27), .ref (o + 33), .ref (o + 42), .ref (o + 55), .ref (o + 57), .ref (o + 59), .ref (o + 61), .int im])) := by rw [ze995]; rw [va_up_ne _ _ (show o ≠ o + 61 by omega)]; exact K0
            have zK1000 : zh994 (o + 1) = some (.inr (3, [.ref (o + 1 + 1), .ref (o + 1 + 7), .ref (o + 1 + 9), .ref (o + 1 + 11), .int (d 13)])) := by rw [ze995]; rw [va_up_ne _ _ (show o + 1 ≠ o + 61 by omega)]; exact K1
            have zK1001 : zh994 (o + 2) = some (.inr (2, [.ref (o + 3), .ref (o + 4), .ref (o + 5), .ref (o + 6), .ref (o + 7), .int (nI len), .int (d 0), .int (d 2), .int (d 3), .int (nI nc), .int (d 10), .int cold, .int wind])) := by rw [ze995]; rw [va_up_ne _ _ (show o + 2 ≠ o + 61 by omega)]; exact K2
            have zK1002 : zh994 (o + 6) = arR κ 1 6 cs := by rw [ze995]; rw [va_up_ne _ _ (show o + 6 ≠ o + 61 by omega)]; exact K3
            have zK1003 : zh994 (o + 61) = arI κ 6 (bmp fo 5) := by rw [ze995]; exact va_up_self _ _ _
            have zK1004 : zh994 a = some (.inr (1, [.int (nI 6), .int (nI ck), .int (d (20 + 2 * ck + 1))])) := by rw [ze995]; rw [va_up_ne _ _ (show a ≠ o + 61 by omega)]; exact zK924
            have zl1005 : ∀ zq : Nat, zq < (o + 76) → zq ≠ (o + 61) → zh994 zq = h zq := by intro zq hzq zn0; rw [ze995, va_up_ne _ _ (show zq ≠ o + 61 by omega)]; try rfl
            have zr1006 : Zr κ (o + 76) h zh994 := (Zr.refl).trans (Zr.same (fun zq h1 => by rw [ze995, va_up_ne _ _ (show zq ≠ o + 61 by omega)]))
            refine z_iret X E dX11_as_46 (by omega) (by omega) ⟨?_, ?_, ?_, ?_, ?_⟩
            · rw [opAs_5 (x := 3) (y := 6) hck q5 (by decide) ha4 (by assumption)]; rfl
            · rfl
            · exact fun zq hzq zn0 => zl1005 zq hzq zn0
            · exact zr1006
            · rw [opAs_5 (x := 3) (y := 6) hck q5 (by decide) ha4 (by assumption)]; exact zK1003
          · replace zc993 := b2i_t zc993
            refine z_aload_n X 0 dX11_as_34 rfl ?_
            refine z_get X fl_X11_140_1 dX11_as_35 zK924 rfl ?_
            refine z_goto X 46 dX11_as_38 (by decide) ?_
            refine z_iret X E dX11_as_46 (by omega) (by omega) ⟨?_, ?_, ?_, ?_, ?_⟩
            · rw [opAs_0 (x := 3) (y := 6) hck q5 (by decide) ha4 (by assumption)]; rfl
            · rfl
            · exact fun zq hzq zn0 => rfl
            · exact Zr.refl
            · rw [opAs_0 (x := 3) (y := 6) hck q5 (by decide) ha4 (by assumption)]; exact K4
        · skip
          refine z_aload_n X 0 dX11_as_26 rfl ?_
          refine z_iload_n X 3 dX11_as_27 rfl ?_
          refine z_callS X (c_isOfKind_6_4 (κ := κ) (n := n) (a := (a)) (v1 := (nI 6)) (v2 := (nI ck)) (v3 := (d (20 + 2 * ck + 1))) zK924 ) mk_X11_isOfKind dX11_as_28 wd_425 wd_426 rfl rfl (Nat.le_of_ble_eq_true rfl) (Nat.le_of_ble_eq_true rfl) (Nat.le_of_ble_eq_true rfl) (by omega) (by omega) (fun q zh1007 zm1009 zp1010 => ?_)
          obtain ⟨rfl, ze1008, zn1011⟩ := zp1010
          subst zm1009
          subst zh1007
          refine z_st (st' := [.int (b2i (isOfP (nI 6) (nI 4)))]) rfl ?_
          refine z_if_eq X 41 dX11_as_31 (by decide) (fun zc1012 => ?_) (fun zc1012 => ?_)
          · replace zc1012 := b2i_f zc1012
            refine z_aload_n X 1 dX11_as_41 rfl ?_
            refine z_iconst (v := 5) X dX11_as_42 (by decide) ?_
            refine z_callV X (c_fail (κ := κ) (n := n) (o := (o)) (im := (im)) (fo := (fo)) (k := (5)) K0 K4 (by first | assumption | omega) (by first | assumption | omega)) mk_X11_fail dX11_as_43 wd_260 wd_262 wd_0 rfl K0 rfl rfl rfl (Nat.le_of_ble_eq_true rfl) (Nat.le_of_ble_eq_true rfl) (Nat.le_of_ble_eq_true rfl) (by omega) (by omega) (fun q zh1013 zm1015 zp1016 => ?_)
            obtain ⟨rfl, ze1014, zn1017⟩ := zp1016
            subst zm1015
            refine z_st (st' := [.int (lowE 5)]) rfl ?_
            have zK1018 : zh1013 o = some (.inr (11, [.ref (o + 1), .ref (o + 14), .ref (o + 27), .ref (o + 33), .ref (o + 42), .ref (o + 55), .ref (o + 57), .ref (o + 59), .ref (o + 61), .int im])) := by rw [ze1014]; rw [va_up_ne _ _ (show o ≠ o + 61 by omega)]; exact K0
            have zK1019 : zh1013 (o + 1) = some (.inr (3, [.ref (o + 1 + 1), .ref (o + 1 + 7), .ref (o + 1 + 9), .ref (o + 1 + 11), .int (d 13)])) := by rw [ze1014]; rw [va_up_ne _ _ (show o + 1 ≠ o + 61 by omega)]; exact K1
            have zK1020 : zh1013 (o + 2) = some (.inr (2, [.ref (o + 3), .ref (o + 4), .ref (o + 5), .ref (o + 6), .ref (o + 7), .int (nI len), .int (d 0), .int (d 2), .int (d 3), .int (nI nc), .int (d 10), .int cold, .int wind])) := by rw [ze1014]; rw [va_up_ne _ _ (show o + 2 ≠ o + 61 by omega)]; exact K2
            have zK1021 : zh1013 (o + 6) = arR κ 1 6 cs := by rw [ze1014]; rw [va_up_ne _ _ (show o + 6 ≠ o + 61 by omega)]; exact K3
            have zK1022 : zh1013 (o + 61) = arI κ 6 (bmp fo 5) := by rw [ze1014]; exact va_up_self _ _ _
            have zK1023 : zh1013 a = some (.inr (1, [.int (nI 6), .int (nI ck), .int (d (20 + 2 * ck + 1))])) := by rw [ze1014]; rw [va_up_ne _ _ (show a ≠ o + 61 by omega)]; exact zK924
            have zl1024 : ∀ zq : Nat, zq < (o + 76) → zq ≠ (o + 61) → zh1013 zq = h zq := by intro zq hzq zn0; rw [ze1014, va_up_ne _ _ (show zq ≠ o + 61 by omega)]; try rfl
            have zr1025 : Zr κ (o + 76) h zh1013 := (Zr.refl).trans (Zr.same (fun zq h1 => by rw [ze1014, va_up_ne _ _ (show zq ≠ o + 61 by omega)]))
            refine z_iret X E dX11_as_46 (by omega) (by omega) ⟨?_, ?_, ?_, ?_, ?_⟩
            · rw [opAs_5 (x := 4) (y := 6) hck q5 (by decide) ha4 (by assumption)]; rfl
            · rfl
            · exact fun zq hzq zn0 => zl1024 zq hzq zn0
            · exact zr1025
            · rw [opAs_5 (x := 4) (y := 6) hck q5 (by decide) ha4 (by assumption)]; exact zK1022
          · replace zc1012 := b2i_t zc1012
            refine z_aload_n X 0 dX11_as_34 rfl ?_
            refine z_get X fl_X11_140_1 dX11_as_35 zK924 rfl ?_
            refine z_goto X 46 dX11_as_38 (by decide) ?_
            refine z_iret X E dX11_as_46 (by omega) (by omega) ⟨?_, ?_, ?_, ?_, ?_⟩
            · rw [opAs_0 (x := 4) (y := 6) hck q5 (by decide) ha4 (by assumption)]; rfl
            · rfl
            · exact fun zq hzq zn0 => rfl
            · exact Zr.refl
            · rw [opAs_0 (x := 4) (y := 6) hck q5 (by decide) ha4 (by assumption)]; exact K4
        · skip
          refine z_aload_n X 0 dX11_as_26 rfl ?_
          refine z_iload_n X 3 dX11_as_27 rfl ?_
          refine z_callS X (c_isOfKind_6_5 (κ := κ) (n := n) (a := (a)) (v1 := (nI 6)) (v2 := (nI ck)) (v3 := (d (20 + 2 * ck + 1))) zK924 ) mk_X11_isOfKind dX11_as_28 wd_425 wd_426 rfl rfl (Nat.le_of_ble_eq_true rfl) (Nat.le_of_ble_eq_true rfl) (Nat.le_of_ble_eq_true rfl) (by omega) (by omega) (fun q zh1026 zm1028 zp1029 => ?_)
          obtain ⟨rfl, ze1027, zn1030⟩ := zp1029
          subst zm1028
          subst zh1026
          refine z_st (st' := [.int (b2i (isOfP (nI 6) (nI 5)))]) rfl ?_
          refine z_if_eq X 41 dX11_as_31 (by decide) (fun zc1031 => ?_) (fun zc1031 => ?_)
          · replace zc1031 := b2i_f zc1031
            refine z_aload_n X 1 dX11_as_41 rfl ?_
            refine z_iconst (v := 5) X dX11_as_42 (by decide) ?_
            refine z_callV X (c_fail (κ := κ) (n := n) (o := (o)) (im := (im)) (fo := (fo)) (k := (5)) K0 K4 (by first | assumption | omega) (by first | assumption | omega)) mk_X11_fail dX11_as_43 wd_260 wd_262 wd_0 rfl K0 rfl rfl rfl (Nat.le_of_ble_eq_true rfl) (Nat.le_of_ble_eq_true rfl) (Nat.le_of_ble_eq_true rfl) (by omega) (by omega) (fun q zh1032 zm1034 zp1035 => ?_)
            obtain ⟨rfl, ze1033, zn1036⟩ := zp1035
            subst zm1034
            refine z_st (st' := [.int (lowE 5)]) rfl ?_
            have zK1037 : zh1032 o = some (.inr (11, [.ref (o + 1), .ref (o + 14), .ref (o + 27), .ref (o + 33), .ref (o + 42), .ref (o + 55), .ref (o + 57), .ref (o + 59), .ref (o + 61), .int im])) := by rw [ze1033]; rw [va_up_ne _ _ (show o ≠ o + 61 by omega)]; exact K0
            have zK1038 : zh1032 (o + 1) = some (.inr (3, [.ref (o + 1 + 1), .ref (o + 1 + 7), .ref (o + 1 + 9), .ref (o + 1 + 11), .int (d 13)])) := by rw [ze1033]; rw [va_up_ne _ _ (show o + 1 ≠ o + 61 by omega)]; exact K1
            have zK1039 : zh1032 (o + 2) = some (.inr (2, [.ref (o + 3), .ref (o + 4), .ref (o + 5), .ref (o + 6), .ref (o + 7), .int (nI len), .int (d 0), .int (d 2), .int (d 3), .int (nI nc), .int (d 10), .int cold, .int wind])) := by rw [ze1033]; rw [va_up_ne _ _ (show o + 2 ≠ o + 61 by omega)]; exact K2
            have zK1040 : zh1032 (o + 6) = arR κ 1 6 cs := by rw [ze1033]; rw [va_up_ne _ _ (show o + 6 ≠ o + 61 by omega)]; exact K3
            have zK1041 : zh1032 (o + 61) = arI κ 6 (bmp fo 5) := by rw [ze1033]; exact va_up_self _ _ _
            have zK1042 : zh1032 a = some (.inr (1, [.int (nI 6), .int (nI ck), .int (d (20 + 2 * ck + 1))])) := by rw [ze1033]; rw [va_up_ne _ _ (show a ≠ o + 61 by omega)]; exact zK924
            have zl1043 : ∀ zq : Nat, zq < (o + 76) → zq ≠ (o + 61) → zh1032 zq = h zq := by intro zq hzq zn0; rw [ze1033, va_up_ne _ _ (show zq ≠ o + 61 by omega)]; try rfl
            have zr1044 : Zr κ (o + 76) h zh1032 := (Zr.refl).trans (Zr.same (fun zq h1 => by rw [ze1033, va_up_ne _ _ (show zq ≠ o + 61 by omega)]))
            refine z_iret X E dX11_as_46 (by omega) (by omega) ⟨?_, ?_, ?_, ?_, ?_⟩
            · rw [opAs_5 (x := 5) (y := 6) hck q5 (by decide) ha4 (by assumption)]; rfl
            · rfl
            · exact fun zq hzq zn0 => zl1043 zq hzq zn0
            · exact zr1044
            · rw [opAs_5 (x := 5) (y := 6) hck q5 (by decide) ha4 (by assumption)]; exact zK1041
          · replace zc1031 := b2i_t zc1031
            refine z_aload_n X 0 dX11_as_34 rfl ?_
            refine z_get X fl_X11_140_1 dX11_as_35 zK924 rfl ?_
            refine z_goto X 46 dX11_as_38 (by decide) ?_
            refine z_iret X E dX11_as_46 (by omega) (by omega) ⟨?_, ?_, ?_, ?_, ?_⟩
            · rw [opAs_0 (x := 5) (y := 6) hck q5 (by decide) ha4 (by assumption)]; rfl
            · rfl
            · exact fun zq hzq zn0 => rfl
            · exact Zr.refl
            · rw [opAs_0 (x := 5) (y := 6) hck q5 (by decide) ha4 (by assumption)]; exact K4
        · skip
          refine z_aload_n X 0 dX11_as_26 rfl ?_
          refine z_iload_n X 3 dX11_as_27 rfl ?_
          refine z_callS X (c_isOfKind_6_6 (κ := κ) (n := n) (a := (a)) (v1 := (nI 6)) (v2 := (nI ck)) (v3 := (d (20 + 2 * ck + 1))) zK924 ) mk_X11_isOfKind dX11_as_28 wd_425 wd_426 rfl rfl (Nat.le_of_ble_eq_true rfl) (Nat.le_of_ble_eq_true rfl) (Nat.le_of_ble_eq_true rfl) (by omega) (by omega) (fun q zh1045 zm1047 zp1048 => ?_)
          obtain ⟨rfl, ze1046, zn1049⟩ := zp1048
          subst zm1047
          subst zh1045
          refine z_st (st' := [.int (b2i (isOfP (nI 6) (nI 6)))]) rfl ?_
          refine z_if_eq X 41 dX11_as_31 (by decide) (fun zc1050 => ?_) (fun zc1050 => ?_)
          · replace zc1050 := b2i_f zc1050
            refine z_aload_n X 1 dX11_as_41 rfl ?_
            refine z_iconst (v := 5) X dX11_as_42 (by decide) ?_
            refine z_callV X (c_fail (κ := κ) (n := n) (o := (o)) (im := (im)) (fo := (fo)) (k := (5)) K0 K4 (by first | assumption | omega) (by first | assumption | omega)) mk_X11_fail dX11_as_43 wd_260 wd_262 wd_0 rfl K0 rfl rfl rfl (Nat.le_of_ble_eq_true rfl) (Nat.le_of_ble_eq_true rfl) (Nat.le_of_ble_eq_true rfl) (by omega) (by omega) (fun q zh1051 zm1053 zp1054 => ?_)
            obtain ⟨rfl, ze1052, zn1055⟩ := zp1054
            subst zm1053
            refine z_st (st' := [.int (lowE 5)]) rfl ?_
            have zK1056 : zh1051 o = some (.inr (11, [.ref (o + 1), .ref (o + 14), .ref (o + 27), .ref (o + 33), .ref (o + 42), .ref (o + 55), .ref (o + 57), .ref (o + 59), .ref (o + 61), .int im])) := by rw [ze1052]; rw [va_up_ne _ _ (show o ≠ o + 61 by omega)]; exact K0
            have zK1057 : zh1051 (o + 1) = some (.inr (3, [.ref (o + 1 + 1), .ref (o + 1 + 7), .ref (o + 1 + 9), .ref (o + 1 + 11), .int (d 13)])) := by rw [ze1052]; rw [va_up_ne _ _ (show o + 1 ≠ o + 61 by omega)]; exact K1
            have zK1058 : zh1051 (o + 2) = some (.inr (2, [.ref (o + 3), .ref (o + 4), .ref (o + 5), .ref (o + 6), .ref (o + 7), .int (nI len), .int (d 0), .int (d 2), .int (d 3), .int (nI nc), .int (d 10), .int cold, .int wind])) := by rw [ze1052]; rw [va_up_ne _ _ (show o + 2 ≠ o + 61 by omega)]; exact K2
            have zK1059 : zh1051 (o + 6) = arR κ 1 6 cs := by rw [ze1052]; rw [va_up_ne _ _ (show o + 6 ≠ o + 61 by omega)]; exact K3
            have zK1060 : zh1051 (o + 61) = arI κ 6 (bmp fo 5) := by rw [ze1052]; exact va_up_self _ _ _
            have zK1061 : zh1051 a = some (.inr (1, [.int (nI 6), .int (nI ck), .int (d (20 + 2 * ck + 1))])) := by rw [ze1052]; rw [va_up_ne _ _ (show a ≠ o + 61 by omega)]; exact zK924
            have zl1062 : ∀ zq : Nat, zq < (o + 76) → zq ≠ (o + 61) → zh1051 zq = h zq := by intro zq hzq zn0; rw [ze1052, va_up_ne _ _ (show zq ≠ o + 61 by omega)]; try rfl
            have zr1063 : Zr κ (o + 76) h zh1051 := (Zr.refl).trans (Zr.same (fun zq h1 => by rw [ze1052, va_up_ne _ _ (show zq ≠ o + 61 by omega)]))
            refine z_iret X E dX11_as_46 (by omega) (by omega) ⟨?_, ?_, ?_, ?_, ?_⟩
            · rw [opAs_5 (x := 6) (y := 6) hck q5 (by decide) ha4 (by assumption)]; rfl
            · rfl
            · exact fun zq hzq zn0 => zl1062 zq hzq zn0
            · exact zr1063
            · rw [opAs_5 (x := 6) (y := 6) hck q5 (by decide) ha4 (by assumption)]; exact zK1060
          · replace zc1050 := b2i_t zc1050
            refine z_aload_n X 0 dX11_as_34 rfl ?_
            refine z_get X fl_X11_140_1 dX11_as_35 zK924 rfl ?_
            refine z_goto X 46 dX11_as_38 (by decide) ?_
            refine z_iret X E dX11_as_46 (by omega) (by omega) ⟨?_, ?_, ?_, ?_, ?_⟩
            · rw [opAs_0 (x := 6) (y := 6) hck q5 (by decide) ha4 (by assumption)]; rfl
            · rfl
            · exact fun zq hzq zn0 => rfl
            · exact Zr.refl
            · rw [opAs_0 (x := 6) (y := 6) hck q5 (by decide) ha4 (by assumption)]; exact K4
      · replace zc930 := b2i_f zc930
        refine z_aload_n X 1 dX11_as_20 rfl ?_
        refine z_iconst (v := 1) X dX11_as_21 (by decide) ?_
        refine z_callV X (c_fail (κ := κ) (n := n) (o := (o)) (im := (im)) (fo := (fo)) (k := (1)) K0 K4 (by first | assumption | omega) (by first | assumption | omega)) mk_X11_fail dX11_as_22 wd_260 wd_262 wd_0 rfl K0 rfl rfl rfl (Nat.le_of_ble_eq_true rfl) (Nat.le_of_ble_eq_true rfl) (Nat.le_of_ble_eq_true rfl) (by omega) (by omega) (fun q zh1064 zm1066 zp1067 => ?_)
        obtain ⟨rfl, ze1065, zn1068⟩ := zp1067
        subst zm1066
        refine z_st (st' := [.int (lowE 1)]) rfl ?_
        have zK1069 : zh1064 o = some (.inr (11, [.ref (o + 1), .ref (o + 14), .ref (o + 27), .ref (o + 33), .ref (o + 42), .ref (o + 55), .ref (o + 57), .ref (o + 59), .ref (o + 61), .int im])) := by rw [ze1065]; rw [va_up_ne _ _ (show o ≠ o + 61 by omega)]; exact K0
        have zK1070 : zh1064 (o + 1) = some (.inr (3, [.ref (o + 1 + 1), .ref (o + 1 + 7), .ref (o + 1 + 9), .ref (o + 1 + 11), .int (d 13)])) := by rw [ze1065]; rw [va_up_ne _ _ (show o + 1 ≠ o + 61 by omega)]; exact K1
        have zK1071 : zh1064 (o + 2) = some (.inr (2, [.ref (o + 3), .ref (o + 4), .ref (o + 5), .ref (o + 6), .ref (o + 7), .int (nI len), .int (d 0), .int (d 2), .int (d 3), .int (nI nc), .int (d 10), .int cold, .int wind])) := by rw [ze1065]; rw [va_up_ne _ _ (show o + 2 ≠ o + 61 by omega)]; exact K2
        have zK1072 : zh1064 (o + 6) = arR κ 1 6 cs := by rw [ze1065]; rw [va_up_ne _ _ (show o + 6 ≠ o + 61 by omega)]; exact K3
        have zK1073 : zh1064 (o + 61) = arI κ 6 (bmp fo 1) := by rw [ze1065]; exact va_up_self _ _ _
        have zK1074 : zh1064 a = some (.inr (1, [.int (nI 6), .int (nI ck), .int (d (20 + 2 * ck + 1))])) := by rw [ze1065]; rw [va_up_ne _ _ (show a ≠ o + 61 by omega)]; exact zK924
        have zl1075 : ∀ zq : Nat, zq < (o + 76) → zq ≠ (o + 61) → zh1064 zq = h zq := by intro zq hzq zn0; rw [ze1065, va_up_ne _ _ (show zq ≠ o + 61 by omega)]; try rfl
        have zr1076 : Zr κ (o + 76) h zh1064 := (Zr.refl).trans (Zr.same (fun zq h1 => by rw [ze1065, va_up_ne _ _ (show zq ≠ o + 61 by omega)]))
        refine z_iret X E dX11_as_25 (by omega) (by omega) ⟨?_, ?_, ?_, ?_, ?_⟩
        · rw [opAs_e (fun zq => (by assumption : ¬ (0 ≤ w.toInt ∧ w.toInt ≤ 6)) zq.2.2)]; rfl
        · rfl
        · exact fun zq hzq zn0 => zl1075 zq hzq zn0
        · exact zr1076
        · rw [opAs_e (fun zq => (by assumption : ¬ (0 ≤ w.toInt ∧ w.toInt ≤ 6)) zq.2.2)]; exact zK1073
  · skip
    refine z_callV X (c_causeAt_n (κ := κ) (n := n) (o := (o)) (im := (im)) (len := (len)) (nc := (nc)) (cold := (cold)) (wind := (wind)) (cs := (cs)) (c := (c)) K0 K1 K2 K3 (by first | assumption | omega) (hin)) mk_X11_causeAt dX11_as_2 wd_413 wd_415 wd_1 rfl K0 rfl rfl rfl (Nat.le_of_ble_eq_true rfl) (Nat.le_of_ble_eq_true rfl) (Nat.le_of_ble_eq_true rfl) (by omega) (by omega) (fun q zh1077 zm1079 zp1080 => ?_)
    obtain ⟨rfl, ze1078, zn1081⟩ := zp1080
    subst zm1079
    subst zh1077
    refine z_st (st' := [.null]) rfl ?_
    · skip
      refine z_astore_nN (ls' := [(3, .null), (0, .ref o), (1, .int c), (2, .int w)]) X dX11_as_5 (by decide) rfl ?_
      refine z_aload_nN X 0 dX11_as_6 rfl ?_
      refine z_ifnullN X 20 dX11_as_7 (by decide) ?_
      refine z_aload_n X 1 dX11_as_20 rfl ?_
      refine z_iconst (v := 1) X dX11_as_21 (by decide) ?_
      refine z_callV X (c_fail (κ := κ) (n := n) (o := (o)) (im := (im)) (fo := (fo)) (k := (1)) K0 K4 (by first | assumption | omega) (by first | assumption | omega)) mk_X11_fail dX11_as_22 wd_260 wd_262 wd_0 rfl K0 rfl rfl rfl (Nat.le_of_ble_eq_true rfl) (Nat.le_of_ble_eq_true rfl) (Nat.le_of_ble_eq_true rfl) (by omega) (by omega) (fun q zh1082 zm1084 zp1085 => ?_)
      obtain ⟨rfl, ze1083, zn1086⟩ := zp1085
      subst zm1084
      refine z_st (st' := [.int (lowE 1)]) rfl ?_
      have zK1087 : zh1082 o = some (.inr (11, [.ref (o + 1), .ref (o + 14), .ref (o + 27), .ref (o + 33), .ref (o + 42), .ref (o + 55), .ref (o + 57), .ref (o + 59), .ref (o + 61), .int im])) := by rw [ze1083]; rw [va_up_ne _ _ (show o ≠ o + 61 by omega)]; exact K0
      have zK1088 : zh1082 (o + 1) = some (.inr (3, [.ref (o + 1 + 1), .ref (o + 1 + 7), .ref (o + 1 + 9), .ref (o + 1 + 11), .int (d 13)])) := by rw [ze1083]; rw [va_up_ne _ _ (show o + 1 ≠ o + 61 by omega)]; exact K1
      have zK1089 : zh1082 (o + 2) = some (.inr (2, [.ref (o + 3), .ref (o + 4), .ref (o + 5), .ref (o + 6), .ref (o + 7), .int (nI len), .int (d 0), .int (d 2), .int (d 3), .int (nI nc), .int (d 10), .int cold, .int wind])) := by rw [ze1083]; rw [va_up_ne _ _ (show o + 2 ≠ o + 61 by omega)]; exact K2
      have zK1090 : zh1082 (o + 6) = arR κ 1 6 cs := by rw [ze1083]; rw [va_up_ne _ _ (show o + 6 ≠ o + 61 by omega)]; exact K3
      have zK1091 : zh1082 (o + 61) = arI κ 6 (bmp fo 1) := by rw [ze1083]; exact va_up_self _ _ _
      have zl1092 : ∀ zq : Nat, zq < (o + 76) → zq ≠ (o + 61) → zh1082 zq = h zq := by intro zq hzq zn0; rw [ze1083, va_up_ne _ _ (show zq ≠ o + 61 by omega)]; try rfl
      have zr1093 : Zr κ (o + 76) h zh1082 := (Zr.refl).trans (Zr.same (fun zq h1 => by rw [ze1083, va_up_ne _ _ (show zq ≠ o + 61 by omega)]))
      refine z_iret X E dX11_as_25 (by omega) (by omega) ⟨?_, ?_, ?_, ?_, ?_⟩
      · rw [opAs_e (fun zq => hin ⟨zq.1, zq.2.1⟩)]; rfl
      · rfl
      · exact fun zq hzq zn0 => zl1092 zq hzq zn0
      · exact zr1093
      · rw [opAs_e (fun zq => hin ⟨zq.1, zq.2.1⟩)]; exact zK1091
set_option maxHeartbeats 4000000 in
set_option maxRecDepth 100000 in
theorem p_told {κ : Wc} {l : Launch} {h : Mm} {n : Nat} {o : Nat} {im : Int32} {fo : Nat → Int32} {k : Int32} (K0 : h o = some (.inr (11, [.ref (o + 1), .ref (o + 14), .ref (o + 27), .ref (o + 33), .ref (o + 42), .ref (o + 55), .ref (o + 57), .ref (o + 59), .ref (o + 61), .int im]))) (K1 : h (o + 61) = arI κ 6 fo)  : Con κ l yX11_told cX11_told 2 (some .int) 3 0 0 [.ref o, .int k] h n (fun q h' n' => q = some (.int (ansOf (opTold fo k))) ∧ n' = n ∧ (∀ zq : Nat, zq < (o + 76) → zq ≠ (o + 61) → h' zq = h zq) ∧ Zr κ (o + 76) h h' ∧ h' (o + 61) = arI κ 6 (bump (opTold fo k) fo)) := by
  refine Con.of mk_X11_told (Nat.le_of_ble_eq_true rfl) (fun G hG X E => ?_)
  subst hG
  refine z_ls (ls' := [(0, .ref o), (1, .int k)]) rfl ?_
  refine z_iload_n X 1 dX11_told_0 rfl ?_
  refine z_iconst (v := 1) X dX11_told_1 (by decide) ?_
  refine z_iconst (v := 5) X dX11_told_2 (by decide) ?_
  refine z_callS X (c_within (κ := κ) (n := n) (v := (k)) (lo := (1)) (hi := (5))  ) mk_X11_within dX11_told_3 wd_259 wd_257 rfl rfl (Nat.le_of_ble_eq_true rfl) (Nat.le_of_ble_eq_true rfl) (Nat.le_of_ble_eq_true rfl) (by omega) (by omega) (fun q zh1 zm3 zp4 => ?_)
  obtain ⟨rfl, ze2, zn5⟩ := zp4
  subst zm3
  subst zh1
  refine z_st (st' := [.int (b2i ((1 : Int32).toInt ≤ (k : Int32).toInt ∧ (k : Int32).toInt ≤ (5 : Int32).toInt))]) rfl ?_
  refine z_toe (y := b2i (1 ≤ k.toInt ∧ k.toInt ≤ 5)) (by simp only [show (1 : Int32).toInt = 1 by decide, show (5 : Int32).toInt = 5 by decide]) ?_
  refine z_if_eq X 18 dX11_told_6 (by decide) (fun zc6 => ?_) (fun zc6 => ?_)
  · replace zc6 := b2i_f zc6
    refine z_aload_n X 0 dX11_told_18 rfl ?_
    refine z_iconst (v := 1) X dX11_told_19 (by decide) ?_
    refine z_callV X (c_fail (κ := κ) (n := n) (o := (o)) (im := (im)) (fo := (fo)) (k := (1)) K0 K1 (by first | assumption | omega) (by first | assumption | omega)) mk_X11_fail dX11_told_20 wd_260 wd_262 wd_0 rfl K0 rfl rfl rfl (Nat.le_of_ble_eq_true rfl) (Nat.le_of_ble_eq_true rfl) (Nat.le_of_ble_eq_true rfl) (by omega) (by omega) (fun q zh7 zm9 zp10 => ?_)
    obtain ⟨rfl, ze8, zn11⟩ := zp10
    subst zm9
    refine z_st (st' := [.int (lowE 1)]) rfl ?_
    have zK12 : zh7 o = some (.inr (11, [.ref (o + 1), .ref (o + 14), .ref (o + 27), .ref (o + 33), .ref (o + 42), .ref (o + 55), .ref (o + 57), .ref (o + 59), .ref (o + 61), .int im])) := by rw [ze8]; rw [va_up_ne _ _ (show o ≠ o + 61 by omega)]; exact K0
    have zK13 : zh7 (o + 61) = arI κ 6 (bmp fo 1) := by rw [ze8]; exact va_up_self _ _ _
    have zl14 : ∀ zq : Nat, zq < (o + 76) → zq ≠ (o + 61) → zh7 zq = h zq := by intro zq hzq zn0; rw [ze8, va_up_ne _ _ (show zq ≠ o + 61 by omega)]; try rfl
    have zr15 : Zr κ (o + 76) h zh7 := (Zr.refl).trans (Zr.same (fun zq h1 => by rw [ze8, va_up_ne _ _ (show zq ≠ o + 61 by omega)]))
    refine z_iret X E dX11_told_23 (by omega) (by omega) ⟨?_, ?_, ?_, ?_, ?_⟩
    · generalize hzz : opTold fo k = zz1; unfold opTold at hzz; (try simp only [ i_eq, i_lt, i_le, show (-1 : Int32).toInt = -1 by decide, show (0 : Int32).toInt = 0 by decide, show (1 : Int32).toInt = 1 by decide, show (2 : Int32).toInt = 2 by decide, show (3 : Int32).toInt = 3 by decide, show (4 : Int32).toInt = 4 by decide, show (5 : Int32).toInt = 5 by decide, show (6 : Int32).toInt = 6 by decide, show (7 : Int32).toInt = 7 by decide, show (8 : Int32).toInt = 8 by decide, show (9 : Int32).toInt = 9 by decide, show (10 : Int32).toInt = 10 by decide, show (11 : Int32).toInt = 11 by decide, show (12 : Int32).toInt = 12 by decide, show (13 : Int32).toInt = 13 by decide, show (14 : Int32).toInt = 14 by decide, show (15 : Int32).toInt = 15 by decide, show (16 : Int32).toInt = 16 by decide, show (20 : Int32).toInt = 20 by decide, show (39 : Int32).toInt = 39 by decide, show (40 : Int32).toInt = 40 by decide, show (50 : Int32).toInt = 50 by decide, show (60 : Int32).toInt = 60 by decide, show (99 : Int32).toInt = 99 by decide, show (100 : Int32).toInt = 100 by decide, show (999 : Int32).toInt = 999 by decide, show (9999 : Int32).toInt = 9999 by decide, show (99999 : Int32).toInt = 99999 by decide, show (999999 : Int32).toInt = 999999 by decide, show (9999999 : Int32).toInt = 9999999 by decide, show (-50 : Int32).toInt = -50 by decide, show (32 : Int32).toInt = 32 by decide] at *); (repeat first | rw [if_pos (by omega)] at hzz | rw [if_neg (by omega)] at hzz); subst hzz; first | rfl | exact congrArg (fun z => some (Value.int z)) (ansOf_0 _).symm
    · rfl
    · exact fun zq hzq zn0 => zl14 zq hzq zn0
    · exact zr15
    · generalize hzz : opTold fo k = zz1; unfold opTold at hzz; (try simp only [ i_eq, i_lt, i_le, show (-1 : Int32).toInt = -1 by decide, show (0 : Int32).toInt = 0 by decide, show (1 : Int32).toInt = 1 by decide, show (2 : Int32).toInt = 2 by decide, show (3 : Int32).toInt = 3 by decide, show (4 : Int32).toInt = 4 by decide, show (5 : Int32).toInt = 5 by decide, show (6 : Int32).toInt = 6 by decide, show (7 : Int32).toInt = 7 by decide, show (8 : Int32).toInt = 8 by decide, show (9 : Int32).toInt = 9 by decide, show (10 : Int32).toInt = 10 by decide, show (11 : Int32).toInt = 11 by decide, show (12 : Int32).toInt = 12 by decide, show (13 : Int32).toInt = 13 by decide, show (14 : Int32).toInt = 14 by decide, show (15 : Int32).toInt = 15 by decide, show (16 : Int32).toInt = 16 by decide, show (20 : Int32).toInt = 20 by decide, show (39 : Int32).toInt = 39 by decide, show (40 : Int32).toInt = 40 by decide, show (50 : Int32).toInt = 50 by decide, show (60 : Int32).toInt = 60 by decide, show (99 : Int32).toInt = 99 by decide, show (100 : Int32).toInt = 100 by decide, show (999 : Int32).toInt = 999 by decide, show (9999 : Int32).toInt = 9999 by decide, show (99999 : Int32).toInt = 99999 by decide, show (999999 : Int32).toInt = 999999 by decide, show (9999999 : Int32).toInt = 9999999 by decide, show (-50 : Int32).toInt = -50 by decide, show (32 : Int32).toInt = 32 by decide] at *); (repeat first | rw [if_pos (by omega)] at hzz | rw [if_neg (by omega)] at hzz); subst hzz; exact zK13
  · replace zc6 := b2i_t zc6
    obtain ⟨kk, hkk, rfl⟩ := ix_of (c := k) (len := 6) (by omega) (by omega)
    refine z_aload_n X 0 dX11_told_9 rfl ?_
    refine z_get X fl_X11_48_11 dX11_told_10 K0 rfl ?_
    refine z_iload_n X 1 dX11_told_13 rfl ?_
    refine z_iald2 (v := fo kk) X dX11_told_14 K1 (vp_in_nI (n := kk) (by omega) (by omega)) (congrArg fo (nI_clamp (n := kk) (by omega))) ?_
    refine z_goto X 23 dX11_told_15 (by decide) ?_
    refine z_iret X E dX11_told_23 (by omega) (by omega) ⟨?_, ?_, ?_, ?_, ?_⟩
    · generalize hzz : opTold fo (nI kk) = zz1; unfold opTold at hzz; (try simp only [i_nI (n := kk) (by omega), nI_clamp (n := kk) (by omega),  i_eq, i_lt, i_le, show (-1 : Int32).toInt = -1 by decide, show (0 : Int32).toInt = 0 by decide, show (1 : Int32).toInt = 1 by decide, show (2 : Int32).toInt = 2 by decide, show (3 : Int32).toInt = 3 by decide, show (4 : Int32).toInt = 4 by decide, show (5 : Int32).toInt = 5 by decide, show (6 : Int32).toInt = 6 by decide, show (7 : Int32).toInt = 7 by decide, show (8 : Int32).toInt = 8 by decide, show (9 : Int32).toInt = 9 by decide, show (10 : Int32).toInt = 10 by decide, show (11 : Int32).toInt = 11 by decide, show (12 : Int32).toInt = 12 by decide, show (13 : Int32).toInt = 13 by decide, show (14 : Int32).toInt = 14 by decide, show (15 : Int32).toInt = 15 by decide, show (16 : Int32).toInt = 16 by decide, show (20 : Int32).toInt = 20 by decide, show (39 : Int32).toInt = 39 by decide, show (40 : Int32).toInt = 40 by decide, show (50 : Int32).toInt = 50 by decide, show (60 : Int32).toInt = 60 by decide, show (99 : Int32).toInt = 99 by decide, show (100 : Int32).toInt = 100 by decide, show (999 : Int32).toInt = 999 by decide, show (9999 : Int32).toInt = 9999 by decide, show (99999 : Int32).toInt = 99999 by decide, show (999999 : Int32).toInt = 999999 by decide, show (9999999 : Int32).toInt = 9999999 by decide, show (-50 : Int32).toInt = -50 by decide, show (32 : Int32).toInt = 32 by decide] at *); (repeat first | rw [if_pos (by omega)] at hzz | rw [if_neg (by omega)] at hzz); subst hzz; first | rfl | exact congrArg (fun z => some (Value.int z)) (ansOf_0 _).symm
    · rfl
    · exact fun zq hzq zn0 => rfl
    · exact Zr.refl
    · generalize hzz : opTold fo (nI kk) = zz1; unfold opTold at hzz; (try simp only [i_nI (n := kk) (by omega), nI_clamp (n := kk) (by omega),  i_eq, i_lt, i_le, show (-1 : Int32).toInt = -1 by decide, show (0 : Int32).toInt = 0 by decide, show (1 : Int32).toInt = 1 by decide, show (2 : Int32).toInt = 2 by decide, show (3 : Int32).toInt = 3 by decide, show (4 : Int32).toInt = 4 by decide, show (5 : Int32).toInt = 5 by decide, show (6 : Int32).toInt = 6 by decide, show (7 : Int32).toInt = 7 by decide, show (8 : Int32).toInt = 8 by decide, show (9 : Int32).toInt = 9 by decide, show (10 : Int32).toInt = 10 by decide, show (11 : Int32).toInt = 11 by decide, show (12 : Int32).toInt = 12 by decide, show (13 : Int32).toInt = 13 by decide, show (14 : Int32).toInt = 14 by decide, show (15 : Int32).toInt = 15 by decide, show (16 : Int32).toInt = 16 by decide, show (20 : Int32).toInt = 20 by decide, show (39 : Int32).toInt = 39 by decide, show (40 : Int32).toInt = 40 by decide, show (50 : Int32).toInt = 50 by decide, show (60 : Int32).toInt = 60 by decide, show (99 : Int32).toInt = 99 by decide, show (100 : Int32).toInt = 100 by decide, show (999 : Int32).toInt = 999 by decide, show (9999 : Int32).toInt = 9999 by decide, show (99999 : Int32).toInt = 99999 by decide, show (999999 : Int32).toInt = 999999 by decide, show (9999999 : Int32).toInt = 9999999 by decide, show (-50 : Int32).toInt = -50 by decide, show (32 : Int32).toInt = 32 by decide] at *); (repeat first | rw [if_pos (by omega)] at hzz | rw [if_neg (by omega)] at hzz); subst hzz; exact K1
set_option maxHeartbeats 4000000 in
set_option maxRecDepth 100000 in
theorem p_trace {κ : Wc} {l : Launch} {h : Mm} {n : Nat} {o : Nat} {im : Int32} {tn : Nat} {bt3 : Int32} {tr : Nat → Int32} {fo : Nat → Int32} {k : Int32} (K0 : h o = some (.inr (11, [.ref (o + 1), .ref (o + 14), .ref (o + 27), .ref (o + 33), .ref (o + 42), .ref (o + 55), .ref (o + 57), .ref (o + 59), .ref (o + 61), .int im]))) (K1 : h (o + 59) = some (.inr (6, [.ref (o + 59 + 1), .int (nI tn), .int bt3]))) (K2 : h (o + 60) = arI κ 40 tr) (K3 : h (o + 61) = arI κ 6 fo) (p2 : tn ≤ 40) : Con κ l yX11_trace cX11_trace 2 (some .int) 4 0 0 [.ref o, .int k] h n (fun q h' n' => q = some (.int (ansOf (opTrace tr tn k))) ∧ n' = n ∧ (∀ zq : Nat, zq < (o + 76) → zq ≠ (o + 61) → h' zq = h zq) ∧ Zr κ (o + 76) h h' ∧ h' (o + 61) = arI κ 6 (bump (opTrace tr tn k) fo)) := by
  refine Con.of mk_X11_trace (Nat.le_of_ble_eq_true rfl) (fun G hG X E => ?_)
  subst hG
  refine z_ls (ls' := [(0, .ref o), (1, .int k)]) rfl ?_
  refine z_iload_n X 1 dX11_trace_0 rfl ?_
  refine z_iconst (v := 0) X dX11_trace_1 (by decide) ?_
  refine z_aload_n X 0 dX11_trace_2 rfl ?_
  refine z_get X fl_X11_45_11 dX11_trace_3 K0 rfl ?_
  refine z_get X fl_X11_95_6 dX11_trace_6 K1 rfl ?_
  refine z_iconst (v := 1) X dX11_trace_9 (by decide) ?_
  refine z_isub X dX11_trace_10 ?_
  refine z_callS X (c_within (κ := κ) (n := n) (v := (k)) (lo := (0)) (hi := ((nI tn) - 1))  ) mk_X11_within dX11_trace_11 wd_259 wd_257 rfl rfl (Nat.le_of_ble_eq_true rfl) (Nat.le_of_ble_eq_true rfl) (Nat.le_of_ble_eq_true rfl) (by omega) (by omega) (fun q zh1 zm3 zp4 => ?_)
  obtain ⟨rfl, ze2, zn5⟩ := zp4
  subst zm3
  subst zh1
  refine z_st (st' := [.int (b2i ((0 : Int32).toInt ≤ (k : Int32).toInt ∧ (k : Int32).toInt ≤ ((nI tn) - 1 : Int32).toInt))]) rfl ?_
  refine z_toe (y := b2i (0 ≤ k.toInt ∧ k.toInt ≤ ((tn : Nat) : Int) - 1)) (by simp only [i_m1 (n := tn) (by omega), show (0 : Int32).toInt = 0 by decide]) ?_
  refine z_if_eq X 28 dX11_trace_14 (by decide) (fun zc6 => ?_) (fun zc6 => ?_)
  · replace zc6 := b2i_f zc6
    refine z_aload_n X 0 dX11_trace_28 rfl ?_
    refine z_iconst (v := 2) X dX11_trace_29 (by decide) ?_
    refine z_callV X (c_fail (κ := κ) (n := n) (o := (o)) (im := (im)) (fo := (fo)) (k := (2)) K0 K3 (by first | assumption | omega) (by first | assumption | omega)) mk_X11_fail dX11_trace_30 wd_260 wd_262 wd_0 rfl K0 rfl rfl rfl (Nat.le_of_ble_eq_true rfl) (Nat.le_of_ble_eq_true rfl) (Nat.le_of_ble_eq_true rfl) (by omega) (by omega) (fun q zh7 zm9 zp10 => ?_)
    obtain ⟨rfl, ze8, zn11⟩ := zp10
    subst zm9
    refine z_st (st' := [.int (lowE 2)]) rfl ?_
    have zK12 : zh7 o = some (.inr (11, [.ref (o + 1), .ref (o + 14), .ref (o + 27), .ref (o + 33), .ref (o + 42), .ref (o + 55), .ref (o + 57), .ref (o + 59), .ref (o + 61), .int im])) := by rw [ze8]; rw [va_up_ne _ _ (show o ≠ o + 61 by omega)]; exact K0
    have zK13 : zh7 (o + 59) = some (.inr (6, [.ref (o + 59 + 1), .int (nI tn), .int bt3])) := by rw [ze8]; rw [va_up_ne _ _ (show o + 59 ≠ o + 61 by omega)]; exact K1
    have zK14 : zh7 (o + 60) = arI κ 40 tr := by rw [ze8]; rw [va_up_ne _ _ (show o + 60 ≠ o + 61 by omega)]; exact K2
    have zK15 : zh7 (o + 61) = arI κ 6 (bmp fo 2) := by rw [ze8]; exact va_up_self _ _ _
    have zl16 : ∀ zq : Nat, zq < (o + 76) → zq ≠ (o + 61) → zh7 zq = h zq := by intro zq hzq zn0; rw [ze8, va_up_ne _ _ (show zq ≠ o + 61 by omega)]; try rfl
    have zr17 : Zr κ (o + 76) h zh7 := (Zr.refl).trans (Zr.same (fun zq h1 => by rw [ze8, va_up_ne _ _ (show zq ≠ o + 61 by omega)]))
    refine z_iret X E dX11_trace_33 (by omega) (by omega) ⟨?_, ?_, ?_, ?_, ?_⟩
    · generalize hzz : opTrace tr tn k = zz1; unfold opTrace at hzz; (try simp only [ i_eq, i_lt, i_le, show (-1 : Int32).toInt = -1 by decide, show (0 : Int32).toInt = 0 by decide, show (1 : Int32).toInt = 1 by decide, show (2 : Int32).toInt = 2 by decide, show (3 : Int32).toInt = 3 by decide, show (4 : Int32).toInt = 4 by decide, show (5 : Int32).toInt = 5 by decide, show (6 : Int32).toInt = 6 by decide, show (7 : Int32).toInt = 7 by decide, show (8 : Int32).toInt = 8 by decide, show (9 : Int32).toInt = 9 by decide, show (10 : Int32).toInt = 10 by decide, show (11 : Int32).toInt = 11 by decide, show (12 : Int32).toInt = 12 by decide, show (13 : Int32).toInt = 13 by decide, show (14 : Int32).toInt = 14 by decide, show (15 : Int32).toInt = 15 by decide, show (16 : Int32).toInt = 16 by decide, show (20 : Int32).toInt = 20 by decide, show (39 : Int32).toInt = 39 by decide, show (40 : Int32).toInt = 40 by decide, show (50 : Int32).toInt = 50 by decide, show (60 : Int32).toInt = 60 by decide, show (99 : Int32).toInt = 99 by decide, show (100 : Int32).toInt = 100 by decide, show (999 : Int32).toInt = 999 by decide, show (9999 : Int32).toInt = 9999 by decide, show (99999 : Int32).toInt = 99999 by decide, show (999999 : Int32).toInt = 999999 by decide, show (9999999 : Int32).toInt = 9999999 by decide, show (-50 : Int32).toInt = -50 by decide, show (32 : Int32).toInt = 32 by decide] at *); (repeat first | rw [if_pos (by omega)] at hzz | rw [if_neg (by omega)] at hzz); subst hzz; first | rfl | exact congrArg (fun z => some (Value.int z)) (ansOf_0 _).symm
    · rfl
    · exact fun zq hzq zn0 => zl16 zq hzq zn0
    · exact zr17
    · generalize hzz : opTrace tr tn k = zz1; unfold opTrace at hzz; (try simp only [ i_eq, i_lt, i_le, show (-1 : Int32).toInt = -1 by decide, show (0 : Int32).toInt = 0 by decide, show (1 : Int32).toInt = 1 by decide, show (2 : Int32).toInt = 2 by decide, show (3 : Int32).toInt = 3 by decide, show (4 : Int32).toInt = 4 by decide, show (5 : Int32).toInt = 5 by decide, show (6 : Int32).toInt = 6 by decide, show (7 : Int32).toInt = 7 by decide, show (8 : Int32).toInt = 8 by decide, show (9 : Int32).toInt = 9 by decide, show (10 : Int32).toInt = 10 by decide, show (11 : Int32).toInt = 11 by decide, show (12 : Int32).toInt = 12 by decide, show (13 : Int32).toInt = 13 by decide, show (14 : Int32).toInt = 14 by decide, show (15 : Int32).toInt = 15 by decide, show (16 : Int32).toInt = 16 by decide, show (20 : Int32).toInt = 20 by decide, show (39 : Int32).toInt = 39 by decide, show (40 : Int32).toInt = 40 by decide, show (50 : Int32).toInt = 50 by decide, show (60 : Int32).toInt = 60 by decide, show (99 : Int32).toInt = 99 by decide, show (100 : Int32).toInt = 100 by decide, show (999 : Int32).toInt = 999 by decide, show (9999 : Int32).toInt = 9999 by decide, show (99999 : Int32).toInt = 99999 by decide, show (999999 : Int32).toInt = 999999 by decide, show (9999999 : Int32).toInt = 9999999 by decide, show (-50 : Int32).toInt = -50 by decide, show (32 : Int32).toInt = 32 by decide] at *); (repeat first | rw [if_pos (by omega)] at hzz | rw [if_neg (by omega)] at hzz); subst hzz; exact zK15
  · replace zc6 := b2i_t zc6
    obtain ⟨kk, hkk, rfl⟩ := ix_of (c := k) (len := tn) (by omega) (by omega)
    refine z_aload_n X 0 dX11_trace_17 rfl ?_
    refine z_get X fl_X11_45_11 dX11_trace_18 K0 rfl ?_
    refine z_iload_n X 1 dX11_trace_21 rfl ?_
    refine z_callV X (c_Row_at (κ := κ) (n := n) (r := (o + 59)) (k := (tn)) (bt := (bt3)) (i := (nI kk)) (N := (40)) (f := (tr)) K1 K2 (by first | assumption | omega) (by first | assumption | omega)) mk_X6_at dX11_trace_22 wd_298 wd_299 wd_300 rfl K1 rfl rfl rfl (Nat.le_of_ble_eq_true rfl) (Nat.le_of_ble_eq_true rfl) (Nat.le_of_ble_eq_true rfl) (by omega) (by omega) (fun q zh18 zm20 zp21 => ?_)
    obtain ⟨rfl, ze19, zn22⟩ := zp21
    subst zm20
    subst zh18
    refine z_st (st' := [.int (rowAt tn tr (nI kk))]) rfl ?_
    refine z_toe (y := tr kk) (by rw [rowAt, i_nI (by omega), nI_clamp (by omega), if_pos (by omega)]) ?_
    refine z_goto X 33 dX11_trace_25 (by decide) ?_
    refine z_iret X E dX11_trace_33 (by omega) (by omega) ⟨?_, ?_, ?_, ?_, ?_⟩
    · generalize hzz : opTrace tr tn (nI kk) = zz1; unfold opTrace at hzz; (try simp only [i_nI (n := kk) (by omega), nI_clamp (n := kk) (by omega),  i_eq, i_lt, i_le, show (-1 : Int32).toInt = -1 by decide, show (0 : Int32).toInt = 0 by decide, show (1 : Int32).toInt = 1 by decide, show (2 : Int32).toInt = 2 by decide, show (3 : Int32).toInt = 3 by decide, show (4 : Int32).toInt = 4 by decide, show (5 : Int32).toInt = 5 by decide, show (6 : Int32).toInt = 6 by decide, show (7 : Int32).toInt = 7 by decide, show (8 : Int32).toInt = 8 by decide, show (9 : Int32).toInt = 9 by decide, show (10 : Int32).toInt = 10 by decide, show (11 : Int32).toInt = 11 by decide, show (12 : Int32).toInt = 12 by decide, show (13 : Int32).toInt = 13 by decide, show (14 : Int32).toInt = 14 by decide, show (15 : Int32).toInt = 15 by decide, show (16 : Int32).toInt = 16 by decide, show (20 : Int32).toInt = 20 by decide, show (39 : Int32).toInt = 39 by decide, show (40 : Int32).toInt = 40 by decide, show (50 : Int32).toInt = 50 by decide, show (60 : Int32).toInt = 60 by decide, show (99 : Int32).toInt = 99 by decide, show (100 : Int32).toInt = 100 by decide, show (999 : Int32).toInt = 999 by decide, show (9999 : Int32).toInt = 9999 by decide, show (99999 : Int32).toInt = 99999 by decide, show (999999 : Int32).toInt = 999999 by decide, show (9999999 : Int32).toInt = 9999999 by decide, show (-50 : Int32).toInt = -50 by decide, show (32 : Int32).toInt = 32 by decide] at *); (repeat first | rw [if_pos (by omega)] at hzz | rw [if_neg (by omega)] at hzz); subst hzz; first | rfl | exact congrArg (fun z => some (Value.int z)) (ansOf_0 _).symm
    · rfl
    · exact fun zq hzq zn0 => rfl
    · exact Zr.refl
    · generalize hzz : opTrace tr tn (nI kk) = zz1; unfold opTrace at hzz; (try simp only [i_nI (n := kk) (by omega), nI_clamp (n := kk) (by omega),  i_eq, i_lt, i_le, show (-1 : Int32).toInt = -1 by decide, show (0 : Int32).toInt = 0 by decide, show (1 : Int32).toInt = 1 by decide, show (2 : Int32).toInt = 2 by decide, show (3 : Int32).toInt = 3 by decide, show (4 : Int32).toInt = 4 by decide, show (5 : Int32).toInt = 5 by decide, show (6 : Int32).toInt = 6 by decide, show (7 : Int32).toInt = 7 by decide, show (8 : Int32).toInt = 8 by decide, show (9 : Int32).toInt = 9 by decide, show (10 : Int32).toInt = 10 by decide, show (11 : Int32).toInt = 11 by decide, show (12 : Int32).toInt = 12 by decide, show (13 : Int32).toInt = 13 by decide, show (14 : Int32).toInt = 14 by decide, show (15 : Int32).toInt = 15 by decide, show (16 : Int32).toInt = 16 by decide, show (20 : Int32).toInt = 20 by decide, show (39 : Int32).toInt = 39 by decide, show (40 : Int32).toInt = 40 by decide, show (50 : Int32).toInt = 50 by decide, show (60 : Int32).toInt = 60 by decide, show (99 : Int32).toInt = 99 by decide, show (100 : Int32).toInt = 100 by decide, show (999 : Int32).toInt = 999 by decide, show (9999 : Int32).toInt = 9999 by decide, show (99999 : Int32).toInt = 99999 by decide, show (999999 : Int32).toInt = 999999 by decide, show (9999999 : Int32).toInt = 9999999 by decide, show (-50 : Int32).toInt = -50 by decide, show (32 : Int32).toInt = 32 by decide] at *); (repeat first | rw [if_pos (by omega)] at hzz | rw [if_neg (by omega)] at hzz); subst hzz; exact K3
set_option maxHeartbeats 4000000 in
set_option maxRecDepth 100000 in
theorem p_count {κ : Wc} {l : Launch} {h : Mm} {n : Nat} {o : Nat} {im : Int32} {d : Nat → Int32} {len : Nat} {nc : Nat} {cold : Int32} {wind : Int32} {nt : Nat} {nw : Nat} {nb : Nat} {tn : Nat} {bt3 : Int32} {fo : Nat → Int32} {k : Int32} (K0 : h o = some (.inr (11, [.ref (o + 1), .ref (o + 14), .ref (o + 27), .ref (o + 33), .ref (o + 42), .ref (o + 55), .ref (o + 57), .ref (o + 59), .ref (o + 61), .int im]))) (K1 : h (o + 1) = some (.inr (3, [.ref (o + 1 + 1), .ref (o + 1 + 7), .ref (o + 1 + 9), .ref (o + 1 + 11), .int (d 13)]))) (K2 : h (o + 2) = some (.inr (2, [.ref (o + 3), .ref (o + 4), .ref (o + 5), .ref (o + 6), .ref (o + 7), .int (nI len), .int (d 0), .int (d 2), .int (d 3), .int (nI nc), .int (d 10), .int cold, .int wind]))) (K3 : h (o + 8) = some (.inr (6, [.ref (o + 8 + 1), .int (nI nt), .int 32]))) (K4 : h (o + 10) = some (.inr (6, [.ref (o + 10 + 1), .int (nI nw), .int 32]))) (K5 : h (o + 12) = some (.inr (6, [.ref (o + 12 + 1), .int (nI (3 * nb)), .int 32]))) (K6 : h (o + 59) = some (.inr (6, [.ref (o + 59 + 1), .int (nI tn), .int bt3]))) (K7 : h (o + 61) = arI κ 6 fo) (q1 : d 1 = nI len) (q2 : 1 ≤ len) (q3 : len ≤ 40) (q4 : d 11 = nI nc) (q5 : nc ≤ 6) (p1 : d 14 = nI nt) (p2 : d 15 = nI nw) (p3 : d 12 = nI nb) (p4 : nb ≤ 5) : Con κ l yX11_count cX11_count 3 (some .int) 3 0 0 [.ref o, .int k] h n (fun q h' n' => q = some (.int (ansOf (opCount d (nI tn) k))) ∧ n' = n ∧ (∀ zq : Nat, zq < (o + 76) → zq ≠ (o + 61) → h' zq = h zq) ∧ Zr κ (o + 76) h h' ∧ h' (o + 61) = arI κ 6 (bump (opCount d (nI tn) k) fo)) := by
  refine Con.of mk_X11_count (Nat.le_of_ble_eq_true rfl) (fun G hG X E => ?_)
  subst hG
  refine z_ls (ls' := [(0, .ref o), (1, .int k)]) rfl ?_
  refine z_aload_n X 0 dX11_count_0 rfl ?_
  refine z_get X fl_X11_10_11 dX11_count_1 K0 rfl ?_
  refine z_get X fl_X11_56_3 dX11_count_4 K1 rfl ?_
  refine z_astore_n (ls' := [(2, .ref (o + 1 + 1)), (0, .ref o), (1, .int k)]) X dX11_count_7 (by decide) rfl ?_
  refine z_iload_n X 2 dX11_count_8 rfl ?_
  by_cases zc1 : k = 0
  · refine z_tableIn (off := 55) X 64 dX11_count_9 (by rw [zc1]; decide) (by rw [zc1]; decide) (by rw [zc1]; decide) (by decide) ?_
    refine z_aload_n X 0 dX11_count_64 rfl ?_
    refine z_get X fl_X11_182_2 dX11_count_65 K2 rfl ?_
    refine z_iret X E dX11_count_68 (by omega) (by omega) ⟨?_, ?_, ?_, ?_, ?_⟩
    · generalize hzz : opCount d (nI tn) k = zz1; unfold opCount at hzz; rw [q1, q4, p1, p2, p3] at hzz; (try simp only [ i_eq, i_lt, i_le, show (-1 : Int32).toInt = -1 by decide, show (0 : Int32).toInt = 0 by decide, show (1 : Int32).toInt = 1 by decide, show (2 : Int32).toInt = 2 by decide, show (3 : Int32).toInt = 3 by decide, show (4 : Int32).toInt = 4 by decide, show (5 : Int32).toInt = 5 by decide, show (6 : Int32).toInt = 6 by decide, show (7 : Int32).toInt = 7 by decide, show (8 : Int32).toInt = 8 by decide, show (9 : Int32).toInt = 9 by decide, show (10 : Int32).toInt = 10 by decide, show (11 : Int32).toInt = 11 by decide, show (12 : Int32).toInt = 12 by decide, show (13 : Int32).toInt = 13 by decide, show (14 : Int32).toInt = 14 by decide, show (15 : Int32).toInt = 15 by decide, show (16 : Int32).toInt = 16 by decide, show (20 : Int32).toInt = 20 by decide, show (39 : Int32).toInt = 39 by decide, show (40 : Int32).toInt = 40 by decide, show (50 : Int32).toInt = 50 by decide, show (60 : Int32).toInt = 60 by decide, show (99 : Int32).toInt = 99 by decide, show (100 : Int32).toInt = 100 by decide, show (999 : Int32).toInt = 999 by decide, show (9999 : Int32).toInt = 9999 by decide, show (99999 : Int32).toInt = 99999 by decide, show (999999 : Int32).toInt = 999999 by decide, show (9999999 : Int32).toInt = 9999999 by decide, show (-50 : Int32).toInt = -50 by decide, show (32 : Int32).toInt = 32 by decide] at *); (repeat first | rw [if_pos (by omega)] at hzz | rw [if_neg (by omega)] at hzz); subst hzz; rfl
    · rfl
    · exact fun zq hzq zn0 => rfl
    · exact Zr.refl
    · generalize hzz : opCount d (nI tn) k = zz1; unfold opCount at hzz; rw [q1, q4, p1, p2, p3] at hzz; (try simp only [ i_eq, i_lt, i_le, show (-1 : Int32).toInt = -1 by decide, show (0 : Int32).toInt = 0 by decide, show (1 : Int32).toInt = 1 by decide, show (2 : Int32).toInt = 2 by decide, show (3 : Int32).toInt = 3 by decide, show (4 : Int32).toInt = 4 by decide, show (5 : Int32).toInt = 5 by decide, show (6 : Int32).toInt = 6 by decide, show (7 : Int32).toInt = 7 by decide, show (8 : Int32).toInt = 8 by decide, show (9 : Int32).toInt = 9 by decide, show (10 : Int32).toInt = 10 by decide, show (11 : Int32).toInt = 11 by decide, show (12 : Int32).toInt = 12 by decide, show (13 : Int32).toInt = 13 by decide, show (14 : Int32).toInt = 14 by decide, show (15 : Int32).toInt = 15 by decide, show (16 : Int32).toInt = 16 by decide, show (20 : Int32).toInt = 20 by decide, show (39 : Int32).toInt = 39 by decide, show (40 : Int32).toInt = 40 by decide, show (50 : Int32).toInt = 50 by decide, show (60 : Int32).toInt = 60 by decide, show (99 : Int32).toInt = 99 by decide, show (100 : Int32).toInt = 100 by decide, show (999 : Int32).toInt = 999 by decide, show (9999 : Int32).toInt = 9999 by decide, show (99999 : Int32).toInt = 99999 by decide, show (999999 : Int32).toInt = 999999 by decide, show (9999999 : Int32).toInt = 9999999 by decide, show (-50 : Int32).toInt = -50 by decide, show (32 : Int32).toInt = 32 by decide] at *); (repeat first | rw [if_pos (by omega)] at hzz | rw [if_neg (by omega)] at hzz); subst hzz; exact K7
  by_cases zc2 : k = 1
  · refine z_tableIn (off := 60) X 69 dX11_count_9 (by rw [zc2]; decide) (by rw [zc2]; decide) (by rw [zc2]; decide) (by decide) ?_
    refine z_aload_n X 0 dX11_count_69 rfl ?_
    refine z_get X fl_X11_98_2 dX11_count_70 K2 rfl ?_
    refine z_iret X E dX11_count_73 (by omega) (by omega) ⟨?_, ?_, ?_, ?_, ?_⟩
    · generalize hzz : opCount d (nI tn) k = zz1; unfold opCount at hzz; rw [q1, q4, p1, p2, p3] at hzz; (try simp only [ i_eq, i_lt, i_le, show (-1 : Int32).toInt = -1 by decide, show (0 : Int32).toInt = 0 by decide, show (1 : Int32).toInt = 1 by decide, show (2 : Int32).toInt = 2 by decide, show (3 : Int32).toInt = 3 by decide, show (4 : Int32).toInt = 4 by decide, show (5 : Int32).toInt = 5 by decide, show (6 : Int32).toInt = 6 by decide, show (7 : Int32).toInt = 7 by decide, show (8 : Int32).toInt = 8 by decide, show (9 : Int32).toInt = 9 by decide, show (10 : Int32).toInt = 10 by decide, show (11 : Int32).toInt = 11 by decide, show (12 : Int32).toInt = 12 by decide, show (13 : Int32).toInt = 13 by decide, show (14 : Int32).toInt = 14 by decide, show (15 : Int32).toInt = 15 by decide, show (16 : Int32).toInt = 16 by decide, show (20 : Int32).toInt = 20 by decide, show (39 : Int32).toInt = 39 by decide, show (40 : Int32).toInt = 40 by decide, show (50 : Int32).toInt = 50 by decide, show (60 : Int32).toInt = 60 by decide, show (99 : Int32).toInt = 99 by decide, show (100 : Int32).toInt = 100 by decide, show (999 : Int32).toInt = 999 by decide, show (9999 : Int32).toInt = 9999 by decide, show (99999 : Int32).toInt = 99999 by decide, show (999999 : Int32).toInt = 999999 by decide, show (9999999 : Int32).toInt = 9999999 by decide, show (-50 : Int32).toInt = -50 by decide, show (32 : Int32).toInt = 32 by decide] at *); (repeat first | rw [if_pos (by omega)] at hzz | rw [if_neg (by omega)] at hzz); subst hzz; rfl
    · rfl
    · exact fun zq hzq zn0 => rfl
    · exact Zr.refl
    · generalize hzz : opCount d (nI tn) k = zz1; unfold opCount at hzz; rw [q1, q4, p1, p2, p3] at hzz; (try simp only [ i_eq, i_lt, i_le, show (-1 : Int32).toInt = -1 by decide, show (0 : Int32).toInt = 0 by decide, show (1 : Int32).toInt = 1 by decide, show (2 : Int32).toInt = 2 by decide, show (3 : Int32).toInt = 3 by decide, show (4 : Int32).toInt = 4 by decide, show (5 : Int32).toInt = 5 by decide, show (6 : Int32).toInt = 6 by decide, show (7 : Int32).toInt = 7 by decide, show (8 : Int32).toInt = 8 by decide, show (9 : Int32).toInt = 9 by decide, show (10 : Int32).toInt = 10 by decide, show (11 : Int32).toInt = 11 by decide, show (12 : Int32).toInt = 12 by decide, show (13 : Int32).toInt = 13 by decide, show (14 : Int32).toInt = 14 by decide, show (15 : Int32).toInt = 15 by decide, show (16 : Int32).toInt = 16 by decide, show (20 : Int32).toInt = 20 by decide, show (39 : Int32).toInt = 39 by decide, show (40 : Int32).toInt = 40 by decide, show (50 : Int32).toInt = 50 by decide, show (60 : Int32).toInt = 60 by decide, show (99 : Int32).toInt = 99 by decide, show (100 : Int32).toInt = 100 by decide, show (999 : Int32).toInt = 999 by decide, show (9999 : Int32).toInt = 9999 by decide, show (99999 : Int32).toInt = 99999 by decide, show (999999 : Int32).toInt = 999999 by decide, show (9999999 : Int32).toInt = 9999999 by decide, show (-50 : Int32).toInt = -50 by decide, show (32 : Int32).toInt = 32 by decide] at *); (repeat first | rw [if_pos (by omega)] at hzz | rw [if_neg (by omega)] at hzz); subst hzz; exact K7
  by_cases zc3 : k = 2
  · refine z_tableIn (off := 65) X 74 dX11_count_9 (by rw [zc3]; decide) (by rw [zc3]; decide) (by rw [zc3]; decide) (by decide) ?_
    refine z_aload_n X 0 dX11_count_74 rfl ?_
    refine z_get X fl_X11_117_2 dX11_count_75 K2 rfl ?_
    refine z_iret X E dX11_count_78 (by omega) (by omega) ⟨?_, ?_, ?_, ?_, ?_⟩
    · generalize hzz : opCount d (nI tn) k = zz1; unfold opCount at hzz; rw [q1, q4, p1, p2, p3] at hzz; (try simp only [ i_eq, i_lt, i_le, show (-1 : Int32).toInt = -1 by decide, show (0 : Int32).toInt = 0 by decide, show (1 : Int32).toInt = 1 by decide, show (2 : Int32).toInt = 2 by decide, show (3 : Int32).toInt = 3 by decide, show (4 : Int32).toInt = 4 by decide, show (5 : Int32).toInt = 5 by decide, show (6 : Int32).toInt = 6 by decide, show (7 : Int32).toInt = 7 by decide, show (8 : Int32).toInt = 8 by decide, show (9 : Int32).toInt = 9 by decide, show (10 : Int32).toInt = 10 by decide, show (11 : Int32).toInt = 11 by decide, show (12 : Int32).toInt = 12 by decide, show (13 : Int32).toInt = 13 by decide, show (14 : Int32).toInt = 14 by decide, show (15 : Int32).toInt = 15 by decide, show (16 : Int32).toInt = 16 by decide, show (20 : Int32).toInt = 20 by decide, show (39 : Int32).toInt = 39 by decide, show (40 : Int32).toInt = 40 by decide, show (50 : Int32).toInt = 50 by decide, show (60 : Int32).toInt = 60 by decide, show (99 : Int32).toInt = 99 by decide, show (100 : Int32).toInt = 100 by decide, show (999 : Int32).toInt = 999 by decide, show (9999 : Int32).toInt = 9999 by decide, show (99999 : Int32).toInt = 99999 by decide, show (999999 : Int32).toInt = 999999 by decide, show (9999999 : Int32).toInt = 9999999 by decide, show (-50 : Int32).toInt = -50 by decide, show (32 : Int32).toInt = 32 by decide] at *); (repeat first | rw [if_pos (by omega)] at hzz | rw [if_neg (by omega)] at hzz); subst hzz; rfl
    · rfl
    · exact fun zq hzq zn0 => rfl
    · exact Zr.refl
    · generalize hzz : opCount d (nI tn) k = zz1; unfold opCount at hzz; rw [q1, q4, p1, p2, p3] at hzz; (try simp only [ i_eq, i_lt, i_le, show (-1 : Int32).toInt = -1 by decide, show (0 : Int32).toInt = 0 by decide, show (1 : Int32).toInt = 1 by decide, show (2 : Int32).toInt = 2 by decide, show (3 : Int32).toInt = 3 by decide, show (4 : Int32).toInt = 4 by decide, show (5 : Int32).toInt = 5 by decide, show (6 : Int32).toInt = 6 by decide, show (7 : Int32).toInt = 7 by decide, show (8 : Int32).toInt = 8 by decide, show (9 : Int32).toInt = 9 by decide, show (10 : Int32).toInt = 10 by decide, show (11 : Int32).toInt = 11 by decide, show (12 : Int32).toInt = 12 by decide, show (13 : Int32).toInt = 13 by decide, show (14 : Int32).toInt = 14 by decide, show (15 : Int32).toInt = 15 by decide, show (16 : Int32).toInt = 16 by decide, show (20 : Int32).toInt = 20 by decide, show (39 : Int32).toInt = 39 by decide, show (40 : Int32).toInt = 40 by decide, show (50 : Int32).toInt = 50 by decide, show (60 : Int32).toInt = 60 by decide, show (99 : Int32).toInt = 99 by decide, show (100 : Int32).toInt = 100 by decide, show (999 : Int32).toInt = 999 by decide, show (9999 : Int32).toInt = 9999 by decide, show (99999 : Int32).toInt = 99999 by decide, show (999999 : Int32).toInt = 999999 by decide, show (9999999 : Int32).toInt = 9999999 by decide, show (-50 : Int32).toInt = -50 by decide, show (32 : Int32).toInt = 32 by decide] at *); (repeat first | rw [if_pos (by omega)] at hzz | rw [if_neg (by omega)] at hzz); subst hzz; exact K7
  by_cases zc4 : k = 3
  · refine z_tableIn (off := 70) X 79 dX11_count_9 (by rw [zc4]; decide) (by rw [zc4]; decide) (by rw [zc4]; decide) (by decide) ?_
    refine z_aload_n X 1 dX11_count_79 rfl ?_
    refine z_get X fl_X11_10_11 dX11_count_80 K0 rfl ?_
    refine z_callV X (c_boxCount (κ := κ) (n := n) (k := (o + 1)) (z := (d 13)) K1 K5 (by first | assumption | omega)) mk_X3_boxCount dX11_count_83 wd_741 wd_742 wd_743 rfl K1 rfl rfl rfl (Nat.le_of_ble_eq_true rfl) (Nat.le_of_ble_eq_true rfl) (Nat.le_of_ble_eq_true rfl) (by omega) (by omega) (fun q zh5 zm7 zp8 => ?_)
    obtain ⟨rfl, ze6, zn9⟩ := zp8
    subst zm7
    subst zh5
    refine z_st (st' := [.int (nI nb)]) rfl ?_
    refine z_iret X E dX11_count_86 (by omega) (by omega) ⟨?_, ?_, ?_, ?_, ?_⟩
    · generalize hzz : opCount d (nI tn) k = zz1; unfold opCount at hzz; rw [q1, q4, p1, p2, p3] at hzz; (try simp only [ i_eq, i_lt, i_le, show (-1 : Int32).toInt = -1 by decide, show (0 : Int32).toInt = 0 by decide, show (1 : Int32).toInt = 1 by decide, show (2 : Int32).toInt = 2 by decide, show (3 : Int32).toInt = 3 by decide, show (4 : Int32).toInt = 4 by decide, show (5 : Int32).toInt = 5 by decide, show (6 : Int32).toInt = 6 by decide, show (7 : Int32).toInt = 7 by decide, show (8 : Int32).toInt = 8 by decide, show (9 : Int32).toInt = 9 by decide, show (10 : Int32).toInt = 10 by decide, show (11 : Int32).toInt = 11 by decide, show (12 : Int32).toInt = 12 by decide, show (13 : Int32).toInt = 13 by decide, show (14 : Int32).toInt = 14 by decide, show (15 : Int32).toInt = 15 by decide, show (16 : Int32).toInt = 16 by decide, show (20 : Int32).toInt = 20 by decide, show (39 : Int32).toInt = 39 by decide, show (40 : Int32).toInt = 40 by decide, show (50 : Int32).toInt = 50 by decide, show (60 : Int32).toInt = 60 by decide, show (99 : Int32).toInt = 99 by decide, show (100 : Int32).toInt = 100 by decide, show (999 : Int32).toInt = 999 by decide, show (9999 : Int32).toInt = 9999 by decide, show (99999 : Int32).toInt = 99999 by decide, show (999999 : Int32).toInt = 999999 by decide, show (9999999 : Int32).toInt = 9999999 by decide, show (-50 : Int32).toInt = -50 by decide, show (32 : Int32).toInt = 32 by decide] at *); (repeat first | rw [if_pos (by omega)] at hzz | rw [if_neg (by omega)] at hzz); subst hzz; rfl
    · rfl
    · exact fun zq hzq zn0 => rfl
    · exact Zr.refl
    · generalize hzz : opCount d (nI tn) k = zz1; unfold opCount at hzz; rw [q1, q4, p1, p2, p3] at hzz; (try simp only [ i_eq, i_lt, i_le, show (-1 : Int32).toInt = -1 by decide, show (0 : Int32).toInt = 0 by decide, show (1 : Int32).toInt = 1 by decide, show (2 : Int32).toInt = 2 by decide, show (3 : Int32).toInt = 3 by decide, show (4 : Int32).toInt = 4 by decide, show (5 : Int32).toInt = 5 by decide, show (6 : Int32).toInt = 6 by decide, show (7 : Int32).toInt = 7 by decide, show (8 : Int32).toInt = 8 by decide, show (9 : Int32).toInt = 9 by decide, show (10 : Int32).toInt = 10 by decide, show (11 : Int32).toInt = 11 by decide, show (12 : Int32).toInt = 12 by decide, show (13 : Int32).toInt = 13 by decide, show (14 : Int32).toInt = 14 by decide, show (15 : Int32).toInt = 15 by decide, show (16 : Int32).toInt = 16 by decide, show (20 : Int32).toInt = 20 by decide, show (39 : Int32).toInt = 39 by decide, show (40 : Int32).toInt = 40 by decide, show (50 : Int32).toInt = 50 by decide, show (60 : Int32).toInt = 60 by decide, show (99 : Int32).toInt = 99 by decide, show (100 : Int32).toInt = 100 by decide, show (999 : Int32).toInt = 999 by decide, show (9999 : Int32).toInt = 9999 by decide, show (99999 : Int32).toInt = 99999 by decide, show (999999 : Int32).toInt = 999999 by decide, show (9999999 : Int32).toInt = 9999999 by decide, show (-50 : Int32).toInt = -50 by decide, show (32 : Int32).toInt = 32 by decide] at *); (repeat first | rw [if_pos (by omega)] at hzz | rw [if_neg (by omega)] at hzz); subst hzz; exact K7
  by_cases zc10 : k = 4
  · refine z_tableIn (off := 78) X 87 dX11_count_9 (by rw [zc10]; decide) (by rw [zc10]; decide) (by rw [zc10]; decide) (by decide) ?_
    refine z_aload_n X 0 dX11_count_87 rfl ?_
    refine z_get X fl_X11_207_2 dX11_count_88 K2 rfl ?_
    refine z_iret X E dX11_count_91 (by omega) (by omega) ⟨?_, ?_, ?_, ?_, ?_⟩
    · generalize hzz : opCount d (nI tn) k = zz1; unfold opCount at hzz; rw [q1, q4, p1, p2, p3] at hzz; (try simp only [ i_eq, i_lt, i_le, show (-1 : Int32).toInt = -1 by decide, show (0 : Int32).toInt = 0 by decide, show (1 : Int32).toInt = 1 by decide, show (2 : Int32).toInt = 2 by decide, show (3 : Int32).toInt = 3 by decide, show (4 : Int32).toInt = 4 by decide, show (5 : Int32).toInt = 5 by decide, show (6 : Int32).toInt = 6 by decide, show (7 : Int32).toInt = 7 by decide, show (8 : Int32).toInt = 8 by decide, show (9 : Int32).toInt = 9 by decide, show (10 : Int32).toInt = 10 by decide, show (11 : Int32).toInt = 11 by decide, show (12 : Int32).toInt = 12 by decide, show (13 : Int32).toInt = 13 by decide, show (14 : Int32).toInt = 14 by decide, show (15 : Int32).toInt = 15 by decide, show (16 : Int32).toInt = 16 by decide, show (20 : Int32).toInt = 20 by decide, show (39 : Int32).toInt = 39 by decide, show (40 : Int32).toInt = 40 by decide, show (50 : Int32).toInt = 50 by decide, show (60 : Int32).toInt = 60 by decide, show (99 : Int32).toInt = 99 by decide, show (100 : Int32).toInt = 100 by decide, show (999 : Int32).toInt = 999 by decide, show (9999 : Int32).toInt = 9999 by decide, show (99999 : Int32).toInt = 99999 by decide, show (999999 : Int32).toInt = 999999 by decide, show (9999999 : Int32).toInt = 9999999 by decide, show (-50 : Int32).toInt = -50 by decide, show (32 : Int32).toInt = 32 by decide] at *); (repeat first | rw [if_pos (by omega)] at hzz | rw [if_neg (by omega)] at hzz); subst hzz; rfl
    · rfl
    · exact fun zq hzq zn0 => rfl
    · exact Zr.refl
    · generalize hzz : opCount d (nI tn) k = zz1; unfold opCount at hzz; rw [q1, q4, p1, p2, p3] at hzz; (try simp only [ i_eq, i_lt, i_le, show (-1 : Int32).toInt = -1 by decide, show (0 : Int32).toInt = 0 by decide, show (1 : Int32).toInt = 1 by decide, show (2 : Int32).toInt = 2 by decide, show (3 : Int32).toInt = 3 by decide, show (4 : Int32).toInt = 4 by decide, show (5 : Int32).toInt = 5 by decide, show (6 : Int32).toInt = 6 by decide, show (7 : Int32).toInt = 7 by decide, show (8 : Int32).toInt = 8 by decide, show (9 : Int32).toInt = 9 by decide, show (10 : Int32).toInt = 10 by decide, show (11 : Int32).toInt = 11 by decide, show (12 : Int32).toInt = 12 by decide, show (13 : Int32).toInt = 13 by decide, show (14 : Int32).toInt = 14 by decide, show (15 : Int32).toInt = 15 by decide, show (16 : Int32).toInt = 16 by decide, show (20 : Int32).toInt = 20 by decide, show (39 : Int32).toInt = 39 by decide, show (40 : Int32).toInt = 40 by decide, show (50 : Int32).toInt = 50 by decide, show (60 : Int32).toInt = 60 by decide, show (99 : Int32).toInt = 99 by decide, show (100 : Int32).toInt = 100 by decide, show (999 : Int32).toInt = 999 by decide, show (9999 : Int32).toInt = 9999 by decide, show (99999 : Int32).toInt = 99999 by decide, show (999999 : Int32).toInt = 999999 by decide, show (9999999 : Int32).toInt = 9999999 by decide, show (-50 : Int32).toInt = -50 by decide, show (32 : Int32).toInt = 32 by decide] at *); (repeat first | rw [if_pos (by omega)] at hzz | rw [if_neg (by omega)] at hzz); subst hzz; exact K7
  by_cases zc11 : k = 5
  · refine z_tableIn (off := 83) X 92 dX11_count_9 (by rw [zc11]; decide) (by rw [zc11]; decide) (by rw [zc11]; decide) (by decide) ?_
    refine z_aload_n X 0 dX11_count_92 rfl ?_
    refine z_get X fl_X11_210_2 dX11_count_93 K2 rfl ?_
    refine z_iret X E dX11_count_96 (by omega) (by omega) ⟨?_, ?_, ?_, ?_, ?_⟩
    · generalize hzz : opCount d (nI tn) k = zz1; unfold opCount at hzz; rw [q1, q4, p1, p2, p3] at hzz; (try simp only [ i_eq, i_lt, i_le, show (-1 : Int32).toInt = -1 by decide, show (0 : Int32).toInt = 0 by decide, show (1 : Int32).toInt = 1 by decide, show (2 : Int32).toInt = 2 by decide, show (3 : Int32).toInt = 3 by decide, show (4 : Int32).toInt = 4 by decide, show (5 : Int32).toInt = 5 by decide, show (6 : Int32).toInt = 6 by decide, show (7 : Int32).toInt = 7 by decide, show (8 : Int32).toInt = 8 by decide, show (9 : Int32).toInt = 9 by decide, show (10 : Int32).toInt = 10 by decide, show (11 : Int32).toInt = 11 by decide, show (12 : Int32).toInt = 12 by decide, show (13 : Int32).toInt = 13 by decide, show (14 : Int32).toInt = 14 by decide, show (15 : Int32).toInt = 15 by decide, show (16 : Int32).toInt = 16 by decide, show (20 : Int32).toInt = 20 by decide, show (39 : Int32).toInt = 39 by decide, show (40 : Int32).toInt = 40 by decide, show (50 : Int32).toInt = 50 by decide, show (60 : Int32).toInt = 60 by decide, show (99 : Int32).toInt = 99 by decide, show (100 : Int32).toInt = 100 by decide, show (999 : Int32).toInt = 999 by decide, show (9999 : Int32).toInt = 9999 by decide, show (99999 : Int32).toInt = 99999 by decide, show (999999 : Int32).toInt = 999999 by decide, show (9999999 : Int32).toInt = 9999999 by decide, show (-50 : Int32).toInt = -50 by decide, show (32 : Int32).toInt = 32 by decide] at *); (repeat first | rw [if_pos (by omega)] at hzz | rw [if_neg (by omega)] at hzz); subst hzz; rfl
    · rfl
    · exact fun zq hzq zn0 => rfl
    · exact Zr.refl
    · generalize hzz : opCount d (nI tn) k = zz1; unfold opCount at hzz; rw [q1, q4, p1, p2, p3] at hzz; (try simp only [ i_eq, i_lt, i_le, show (-1 : Int32).toInt = -1 by decide, show (0 : Int32).toInt = 0 by decide, show (1 : Int32).toInt = 1 by decide, show (2 : Int32).toInt = 2 by decide, show (3 : Int32).toInt = 3 by decide, show (4 : Int32).toInt = 4 by decide, show (5 : Int32).toInt = 5 by decide, show (6 : Int32).toInt = 6 by decide, show (7 : Int32).toInt = 7 by decide, show (8 : Int32).toInt = 8 by decide, show (9 : Int32).toInt = 9 by decide, show (10 : Int32).toInt = 10 by decide, show (11 : Int32).toInt = 11 by decide, show (12 : Int32).toInt = 12 by decide, show (13 : Int32).toInt = 13 by decide, show (14 : Int32).toInt = 14 by decide, show (15 : Int32).toInt = 15 by decide, show (16 : Int32).toInt = 16 by decide, show (20 : Int32).toInt = 20 by decide, show (39 : Int32).toInt = 39 by decide, show (40 : Int32).toInt = 40 by decide, show (50 : Int32).toInt = 50 by decide, show (60 : Int32).toInt = 60 by decide, show (99 : Int32).toInt = 99 by decide, show (100 : Int32).toInt = 100 by decide, show (999 : Int32).toInt = 999 by decide, show (9999 : Int32).toInt = 9999 by decide, show (99999 : Int32).toInt = 99999 by decide, show (999999 : Int32).toInt = 999999 by decide, show (9999999 : Int32).toInt = 9999999 by decide, show (-50 : Int32).toInt = -50 by decide, show (32 : Int32).toInt = 32 by decide] at *); (repeat first | rw [if_pos (by omega)] at hzz | rw [if_neg (by omega)] at hzz); subst hzz; exact K7
  by_cases zc12 : k = 6
  · refine z_tableIn (off := 88) X 97 dX11_count_9 (by rw [zc12]; decide) (by rw [zc12]; decide) (by rw [zc12]; decide) (by decide) ?_
    refine z_aload_n X 1 dX11_count_97 rfl ?_
    refine z_get X fl_X11_10_11 dX11_count_98 K0 rfl ?_
    refine z_get X fl_X11_158_3 dX11_count_101 K1 rfl ?_
    refine z_get X fl_X11_95_6 dX11_count_104 K3 rfl ?_
    refine z_iret X E dX11_count_107 (by omega) (by omega) ⟨?_, ?_, ?_, ?_, ?_⟩
    · generalize hzz : opCount d (nI tn) k = zz1; unfold opCount at hzz; rw [q1, q4, p1, p2, p3] at hzz; (try simp only [ i_eq, i_lt, i_le, show (-1 : Int32).toInt = -1 by decide, show (0 : Int32).toInt = 0 by decide, show (1 : Int32).toInt = 1 by decide, show (2 : Int32).toInt = 2 by decide, show (3 : Int32).toInt = 3 by decide, show (4 : Int32).toInt = 4 by decide, show (5 : Int32).toInt = 5 by decide, show (6 : Int32).toInt = 6 by decide, show (7 : Int32).toInt = 7 by decide, show (8 : Int32).toInt = 8 by decide, show (9 : Int32).toInt = 9 by decide, show (10 : Int32).toInt = 10 by decide, show (11 : Int32).toInt = 11 by decide, show (12 : Int32).toInt = 12 by decide, show (13 : Int32).toInt = 13 by decide, show (14 : Int32).toInt = 14 by decide, show (15 : Int32).toInt = 15 by decide, show (16 : Int32).toInt = 16 by decide, show (20 : Int32).toInt = 20 by decide, show (39 : Int32).toInt = 39 by decide, show (40 : Int32).toInt = 40 by decide, show (50 : Int32).toInt = 50 by decide, show (60 : Int32).toInt = 60 by decide, show (99 : Int32).toInt = 99 by decide, show (100 : Int32).toInt = 100 by decide, show (999 : Int32).toInt = 999 by decide, show (9999 : Int32).toInt = 9999 by decide, show (99999 : Int32).toInt = 99999 by decide, show (999999 : Int32).toInt = 999999 by decide, show (9999999 : Int32).toInt = 9999999 by decide, show (-50 : Int32).toInt = -50 by decide, show (32 : Int32).toInt = 32 by decide] at *); (repeat first | rw [if_pos (by omega)] at hzz | rw [if_neg (by omega)] at hzz); subst hzz; rfl
    · rfl
    · exact fun zq hzq zn0 => rfl
    · exact Zr.refl
    · generalize hzz : opCount d (nI tn) k = zz1; unfold opCount at hzz; rw [q1, q4, p1, p2, p3] at hzz; (try simp only [ i_eq, i_lt, i_le, show (-1 : Int32).toInt = -1 by decide, show (0 : Int32).toInt = 0 by decide, show (1 : Int32).toInt = 1 by decide, show (2 : Int32).toInt = 2 by decide, show (3 : Int32).toInt = 3 by decide, show (4 : Int32).toInt = 4 by decide, show (5 : Int32).toInt = 5 by decide, show (6 : Int32).toInt = 6 by decide, show (7 : Int32).toInt = 7 by decide, show (8 : Int32).toInt = 8 by decide, show (9 : Int32).toInt = 9 by decide, show (10 : Int32).toInt = 10 by decide, show (11 : Int32).toInt = 11 by decide, show (12 : Int32).toInt = 12 by decide, show (13 : Int32).toInt = 13 by decide, show (14 : Int32).toInt = 14 by decide, show (15 : Int32).toInt = 15 by decide, show (16 : Int32).toInt = 16 by decide, show (20 : Int32).toInt = 20 by decide, show (39 : Int32).toInt = 39 by decide, show (40 : Int32).toInt = 40 by decide, show (50 : Int32).toInt = 50 by decide, show (60 : Int32).toInt = 60 by decide, show (99 : Int32).toInt = 99 by decide, show (100 : Int32).toInt = 100 by decide, show (999 : Int32).toInt = 999 by decide, show (9999 : Int32).toInt = 9999 by decide, show (99999 : Int32).toInt = 99999 by decide, show (999999 : Int32).toInt = 999999 by decide, show (9999999 : Int32).toInt = 9999999 by decide, show (-50 : Int32).toInt = -50 by decide, show (32 : Int32).toInt = 32 by decide] at *); (repeat first | rw [if_pos (by omega)] at hzz | rw [if_neg (by omega)] at hzz); subst hzz; exact K7
  by_cases zc13 : k = 7
  · refine z_tableIn (off := 99) X 108 dX11_count_9 (by rw [zc13]; decide) (by rw [zc13]; decide) (by rw [zc13]; decide) (by decide) ?_
    refine z_aload_n X 1 dX11_count_108 rfl ?_
    refine z_get X fl_X11_10_11 dX11_count_109 K0 rfl ?_
    refine z_get X fl_X11_303_3 dX11_count_112 K1 rfl ?_
    refine z_get X fl_X11_95_6 dX11_count_115 K4 rfl ?_
    refine z_iret X E dX11_count_118 (by omega) (by omega) ⟨?_, ?_, ?_, ?_, ?_⟩
    · generalize hzz : opCount d (nI tn) k = zz1; unfold opCount at hzz; rw [q1, q4, p1, p2, p3] at hzz; (try simp only [ i_eq, i_lt, i_le, show (-1 : Int32).toInt = -1 by decide, show (0 : Int32).toInt = 0 by decide, show (1 : Int32).toInt = 1 by decide, show (2 : Int32).toInt = 2 by decide, show (3 : Int32).toInt = 3 by decide, show (4 : Int32).toInt = 4 by decide, show (5 : Int32).toInt = 5 by decide, show (6 : Int32).toInt = 6 by decide, show (7 : Int32).toInt = 7 by decide, show (8 : Int32).toInt = 8 by decide, show (9 : Int32).toInt = 9 by decide, show (10 : Int32).toInt = 10 by decide, show (11 : Int32).toInt = 11 by decide, show (12 : Int32).toInt = 12 by decide, show (13 : Int32).toInt = 13 by decide, show (14 : Int32).toInt = 14 by decide, show (15 : Int32).toInt = 15 by decide, show (16 : Int32).toInt = 16 by decide, show (20 : Int32).toInt = 20 by decide, show (39 : Int32).toInt = 39 by decide, show (40 : Int32).toInt = 40 by decide, show (50 : Int32).toInt = 50 by decide, show (60 : Int32).toInt = 60 by decide, show (99 : Int32).toInt = 99 by decide, show (100 : Int32).toInt = 100 by decide, show (999 : Int32).toInt = 999 by decide, show (9999 : Int32).toInt = 9999 by decide, show (99999 : Int32).toInt = 99999 by decide, show (999999 : Int32).toInt = 999999 by decide, show (9999999 : Int32).toInt = 9999999 by decide, show (-50 : Int32).toInt = -50 by decide, show (32 : Int32).toInt = 32 by decide] at *); (repeat first | rw [if_pos (by omega)] at hzz | rw [if_neg (by omega)] at hzz); subst hzz; rfl
    · rfl
    · exact fun zq hzq zn0 => rfl
    · exact Zr.refl
    · generalize hzz : opCount d (nI tn) k = zz1; unfold opCount at hzz; rw [q1, q4, p1, p2, p3] at hzz; (try simp only [ i_eq, i_lt, i_le, show (-1 : Int32).toInt = -1 by decide, show (0 : Int32).toInt = 0 by decide, show (1 : Int32).toInt = 1 by decide, show (2 : Int32).toInt = 2 by decide, show (3 : Int32).toInt = 3 by decide, show (4 : Int32).toInt = 4 by decide, show (5 : Int32).toInt = 5 by decide, show (6 : Int32).toInt = 6 by decide, show (7 : Int32).toInt = 7 by decide, show (8 : Int32).toInt = 8 by decide, show (9 : Int32).toInt = 9 by decide, show (10 : Int32).toInt = 10 by decide, show (11 : Int32).toInt = 11 by decide, show (12 : Int32).toInt = 12 by decide, show (13 : Int32).toInt = 13 by decide, show (14 : Int32).toInt = 14 by decide, show (15 : Int32).toInt = 15 by decide, show (16 : Int32).toInt = 16 by decide, show (20 : Int32).toInt = 20 by decide, show (39 : Int32).toInt = 39 by decide, show (40 : Int32).toInt = 40 by decide, show (50 : Int32).toInt = 50 by decide, show (60 : Int32).toInt = 60 by decide, show (99 : Int32).toInt = 99 by decide, show (100 : Int32).toInt = 100 by decide, show (999 : Int32).toInt = 999 by decide, show (9999 : Int32).toInt = 9999 by decide, show (99999 : Int32).toInt = 99999 by decide, show (999999 : Int32).toInt = 999999 by decide, show (9999999 : Int32).toInt = 9999999 by decide, show (-50 : Int32).toInt = -50 by decide, show (32 : Int32).toInt = 32 by decide] at *); (repeat first | rw [if_pos (by omega)] at hzz | rw [if_neg (by omega)] at hzz); subst hzz; exact K7
  by_cases zc14 : k = 8
  · refine z_tableIn (off := 110) X 119 dX11_count_9 (by rw [zc14]; decide) (by rw [zc14]; decide) (by rw [zc14]; decide) (by decide) ?_
    refine z_aload_n X 1 dX11_count_119 rfl ?_
    refine z_get X fl_X11_45_11 dX11_count_120 K0 rfl ?_
    refine z_get X fl_X11_95_6 dX11_count_123 K6 rfl ?_
    refine z_iret X E dX11_count_126 (by omega) (by omega) ⟨?_, ?_, ?_, ?_, ?_⟩
    · generalize hzz : opCount d (nI tn) k = zz1; unfold opCount at hzz; rw [q1, q4, p1, p2, p3] at hzz; (try simp only [ i_eq, i_lt, i_le, show (-1 : Int32).toInt = -1 by decide, show (0 : Int32).toInt = 0 by decide, show (1 : Int32).toInt = 1 by decide, show (2 : Int32).toInt = 2 by decide, show (3 : Int32).toInt = 3 by decide, show (4 : Int32).toInt = 4 by decide, show (5 : Int32).toInt = 5 by decide, show (6 : Int32).toInt = 6 by decide, show (7 : Int32).toInt = 7 by decide, show (8 : Int32).toInt = 8 by decide, show (9 : Int32).toInt = 9 by decide, show (10 : Int32).toInt = 10 by decide, show (11 : Int32).toInt = 11 by decide, show (12 : Int32).toInt = 12 by decide, show (13 : Int32).toInt = 13 by decide, show (14 : Int32).toInt = 14 by decide, show (15 : Int32).toInt = 15 by decide, show (16 : Int32).toInt = 16 by decide, show (20 : Int32).toInt = 20 by decide, show (39 : Int32).toInt = 39 by decide, show (40 : Int32).toInt = 40 by decide, show (50 : Int32).toInt = 50 by decide, show (60 : Int32).toInt = 60 by decide, show (99 : Int32).toInt = 99 by decide, show (100 : Int32).toInt = 100 by decide, show (999 : Int32).toInt = 999 by decide, show (9999 : Int32).toInt = 9999 by decide, show (99999 : Int32).toInt = 99999 by decide, show (999999 : Int32).toInt = 999999 by decide, show (9999999 : Int32).toInt = 9999999 by decide, show (-50 : Int32).toInt = -50 by decide, show (32 : Int32).toInt = 32 by decide] at *); (repeat first | rw [if_pos (by omega)] at hzz | rw [if_neg (by omega)] at hzz); subst hzz; rfl
    · rfl
    · exact fun zq hzq zn0 => rfl
    · exact Zr.refl
    · generalize hzz : opCount d (nI tn) k = zz1; unfold opCount at hzz; rw [q1, q4, p1, p2, p3] at hzz; (try simp only [ i_eq, i_lt, i_le, show (-1 : Int32).toInt = -1 by decide, show (0 : Int32).toInt = 0 by decide, show (1 : Int32).toInt = 1 by decide, show (2 : Int32).toInt = 2 by decide, show (3 : Int32).toInt = 3 by decide, show (4 : Int32).toInt = 4 by decide, show (5 : Int32).toInt = 5 by decide, show (6 : Int32).toInt = 6 by decide, show (7 : Int32).toInt = 7 by decide, show (8 : Int32).toInt = 8 by decide, show (9 : Int32).toInt = 9 by decide, show (10 : Int32).toInt = 10 by decide, show (11 : Int32).toInt = 11 by decide, show (12 : Int32).toInt = 12 by decide, show (13 : Int32).toInt = 13 by decide, show (14 : Int32).toInt = 14 by decide, show (15 : Int32).toInt = 15 by decide, show (16 : Int32).toInt = 16 by decide, show (20 : Int32).toInt = 20 by decide, show (39 : Int32).toInt = 39 by decide, show (40 : Int32).toInt = 40 by decide, show (50 : Int32).toInt = 50 by decide, show (60 : Int32).toInt = 60 by decide, show (99 : Int32).toInt = 99 by decide, show (100 : Int32).toInt = 100 by decide, show (999 : Int32).toInt = 999 by decide, show (9999 : Int32).toInt = 9999 by decide, show (99999 : Int32).toInt = 99999 by decide, show (999999 : Int32).toInt = 999999 by decide, show (9999999 : Int32).toInt = 9999999 by decide, show (-50 : Int32).toInt = -50 by decide, show (32 : Int32).toInt = 32 by decide] at *); (repeat first | rw [if_pos (by omega)] at hzz | rw [if_neg (by omega)] at hzz); subst hzz; exact K7
  by_cases zc15 : k = 9
  · refine z_tableIn (off := 118) X 127 dX11_count_9 (by rw [zc15]; decide) (by rw [zc15]; decide) (by rw [zc15]; decide) (by decide) ?_
    refine z_aload_n X 1 dX11_count_127 rfl ?_
    refine z_get X fl_X11_10_11 dX11_count_128 K0 rfl ?_
    refine z_get X fl_X11_260_3 dX11_count_131 K1 rfl ?_
    refine z_iret X E dX11_count_134 (by omega) (by omega) ⟨?_, ?_, ?_, ?_, ?_⟩
    · generalize hzz : opCount d (nI tn) k = zz1; unfold opCount at hzz; rw [q1, q4, p1, p2, p3] at hzz; (try simp only [ i_eq, i_lt, i_le, show (-1 : Int32).toInt = -1 by decide, show (0 : Int32).toInt = 0 by decide, show (1 : Int32).toInt = 1 by decide, show (2 : Int32).toInt = 2 by decide, show (3 : Int32).toInt = 3 by decide, show (4 : Int32).toInt = 4 by decide, show (5 : Int32).toInt = 5 by decide, show (6 : Int32).toInt = 6 by decide, show (7 : Int32).toInt = 7 by decide, show (8 : Int32).toInt = 8 by decide, show (9 : Int32).toInt = 9 by decide, show (10 : Int32).toInt = 10 by decide, show (11 : Int32).toInt = 11 by decide, show (12 : Int32).toInt = 12 by decide, show (13 : Int32).toInt = 13 by decide, show (14 : Int32).toInt = 14 by decide, show (15 : Int32).toInt = 15 by decide, show (16 : Int32).toInt = 16 by decide, show (20 : Int32).toInt = 20 by decide, show (39 : Int32).toInt = 39 by decide, show (40 : Int32).toInt = 40 by decide, show (50 : Int32).toInt = 50 by decide, show (60 : Int32).toInt = 60 by decide, show (99 : Int32).toInt = 99 by decide, show (100 : Int32).toInt = 100 by decide, show (999 : Int32).toInt = 999 by decide, show (9999 : Int32).toInt = 9999 by decide, show (99999 : Int32).toInt = 99999 by decide, show (999999 : Int32).toInt = 999999 by decide, show (9999999 : Int32).toInt = 9999999 by decide, show (-50 : Int32).toInt = -50 by decide, show (32 : Int32).toInt = 32 by decide] at *); (repeat first | rw [if_pos (by omega)] at hzz | rw [if_neg (by omega)] at hzz); subst hzz; rfl
    · rfl
    · exact fun zq hzq zn0 => rfl
    · exact Zr.refl
    · generalize hzz : opCount d (nI tn) k = zz1; unfold opCount at hzz; rw [q1, q4, p1, p2, p3] at hzz; (try simp only [ i_eq, i_lt, i_le, show (-1 : Int32).toInt = -1 by decide, show (0 : Int32).toInt = 0 by decide, show (1 : Int32).toInt = 1 by decide, show (2 : Int32).toInt = 2 by decide, show (3 : Int32).toInt = 3 by decide, show (4 : Int32).toInt = 4 by decide, show (5 : Int32).toInt = 5 by decide, show (6 : Int32).toInt = 6 by decide, show (7 : Int32).toInt = 7 by decide, show (8 : Int32).toInt = 8 by decide, show (9 : Int32).toInt = 9 by decide, show (10 : Int32).toInt = 10 by decide, show (11 : Int32).toInt = 11 by decide, show (12 : Int32).toInt = 12 by decide, show (13 : Int32).toInt = 13 by decide, show (14 : Int32).toInt = 14 by decide, show (15 : Int32).toInt = 15 by decide, show (16 : Int32).toInt = 16 by decide, show (20 : Int32).toInt = 20 by decide, show (39 : Int32).toInt = 39 by decide, show (40 : Int32).toInt = 40 by decide, show (50 : Int32).toInt = 50 by decide, show (60 : Int32).toInt = 60 by decide, show (99 : Int32).toInt = 99 by decide, show (100 : Int32).toInt = 100 by decide, show (999 : Int32).toInt = 999 by decide, show (9999 : Int32).toInt = 9999 by decide, show (99999 : Int32).toInt = 99999 by decide, show (999999 : Int32).toInt = 999999 by decide, show (9999999 : Int32).toInt = 9999999 by decide, show (-50 : Int32).toInt = -50 by decide, show (32 : Int32).toInt = 32 by decide] at *); (repeat first | rw [if_pos (by omega)] at hzz | rw [if_neg (by omega)] at hzz); subst hzz; exact K7
  refine z_tableOut X 135 dX11_count_9 (by have t0 := lv_neT zc1 (show (0 : Int32).toInt = 0 by decide); have t1 := lv_neT zc2 (show (1 : Int32).toInt = 1 by decide); have t2 := lv_neT zc3 (show (2 : Int32).toInt = 2 by decide); have t3 := lv_neT zc4 (show (3 : Int32).toInt = 3 by decide); have t4 := lv_neT zc10 (show (4 : Int32).toInt = 4 by decide); have t5 := lv_neT zc11 (show (5 : Int32).toInt = 5 by decide); have t6 := lv_neT zc12 (show (6 : Int32).toInt = 6 by decide); have t7 := lv_neT zc13 (show (7 : Int32).toInt = 7 by decide); have t8 := lv_neT zc14 (show (8 : Int32).toInt = 8 by decide); have t9 := lv_neT zc15 (show (9 : Int32).toInt = 9 by decide); omega) (by decide) ?_
  refine z_aload_n X 1 dX11_count_135 rfl ?_
  refine z_iconst (v := 1) X dX11_count_136 (by decide) ?_
  refine z_callV X (c_fail (κ := κ) (n := n) (o := (o)) (im := (im)) (fo := (fo)) (k := (1)) K0 K7 (by first | assumption | omega) (by first | assumption | omega)) mk_X11_fail dX11_count_137 wd_260 wd_262 wd_0 rfl K0 rfl rfl rfl (Nat.le_of_ble_eq_true rfl) (Nat.le_of_ble_eq_true rfl) (Nat.le_of_ble_eq_true rfl) (by omega) (by omega) (fun q zh16 zm18 zp19 => ?_)
  obtain ⟨rfl, ze17, zn20⟩ := zp19
  subst zm18
  refine z_st (st' := [.int (lowE 1)]) rfl ?_
  have zK21 : zh16 o = some (.inr (11, [.ref (o + 1), .ref (o + 14), .ref (o + 27), .ref (o + 33), .ref (o + 42), .ref (o + 55), .ref (o + 57), .ref (o + 59), .ref (o + 61), .int im])) := by rw [ze17]; rw [va_up_ne _ _ (show o ≠ o + 61 by omega)]; exact K0
  have zK22 : zh16 (o + 1) = some (.inr (3, [.ref (o + 1 + 1), .ref (o + 1 + 7), .ref (o + 1 + 9), .ref (o + 1 + 11), .int (d 13)])) := by rw [ze17]; rw [va_up_ne _ _ (show o + 1 ≠ o + 61 by omega)]; exact K1
  have zK23 : zh16 (o + 2) = some (.inr (2, [.ref (o + 3), .ref (o + 4), .ref (o + 5), .ref (o + 6), .ref (o + 7), .int (nI len), .int (d 0), .int (d 2), .int (d 3), .int (nI nc), .int (d 10), .int cold, .int wind])) := by rw [ze17]; rw [va_up_ne _ _ (show o + 2 ≠ o + 61 by omega)]; exact K2
  have zK24 : zh16 (o + 8) = some (.inr (6, [.ref (o + 8 + 1), .int (nI nt), .int 32])) := by rw [ze17]; rw [va_up_ne _ _ (show o + 8 ≠ o + 61 by omega)]; exact K3
  have zK25 : zh16 (o + 10) = some (.inr (6, [.ref (o + 10 + 1), .int (nI nw), .int 32])) := by rw [ze17]; rw [va_up_ne _ _ (show o + 10 ≠ o + 61 by omega)]; exact K4
  have zK26 : zh16 (o + 12) = some (.inr (6, [.ref (o + 12 + 1), .int (nI (3 * nb)), .int 32])) := by rw [ze17]; rw [va_up_ne _ _ (show o + 12 ≠ o + 61 by omega)]; exact K5
  have zK27 : zh16 (o + 59) = some (.inr (6, [.ref (o + 59 + 1), .int (nI tn), .int bt3])) := by rw [ze17]; rw [va_up_ne _ _ (show o + 59 ≠ o + 61 by omega)]; exact K6
  have zK28 : zh16 (o + 61) = arI κ 6 (bmp fo 1) := by rw [ze17]; exact va_up_self _ _ _
  have zl29 : ∀ zq : Nat, zq < (o + 76) → zq ≠ (o + 61) → zh16 zq = h zq := by intro zq hzq zn0; rw [ze17, va_up_ne _ _ (show zq ≠ o + 61 by omega)]; try rfl
  have zr30 : Zr κ (o + 76) h zh16 := (Zr.refl).trans (Zr.same (fun zq h1 => by rw [ze17, va_up_ne _ _ (show zq ≠ o + 61 by omega)]))
  refine z_iret X E dX11_count_140 (by omega) (by omega) ⟨?_, ?_, ?_, ?_, ?_⟩
  · generalize hzz : opCount d (nI tn) k = zz1; unfold opCount at hzz; rw [q1, q4, p1, p2, p3] at hzz; (try simp only [ i_eq, i_lt, i_le, show (-1 : Int32).toInt = -1 by decide, show (0 : Int32).toInt = 0 by decide, show (1 : Int32).toInt = 1 by decide, show (2 : Int32).toInt = 2 by decide, show (3 : Int32).toInt = 3 by decide, show (4 : Int32).toInt = 4 by decide, show (5 : Int32).toInt = 5 by decide, show (6 : Int32).toInt = 6 by decide, show (7 : Int32).toInt = 7 by decide, show (8 : Int32).toInt = 8 by decide, show (9 : Int32).toInt = 9 by decide, show (10 : Int32).toInt = 10 by decide, show (11 : Int32).toInt = 11 by decide, show (12 : Int32).toInt = 12 by decide, show (13 : Int32).toInt = 13 by decide, show (14 : Int32).toInt = 14 by decide, show (15 : Int32).toInt = 15 by decide, show (16 : Int32).toInt = 16 by decide, show (20 : Int32).toInt = 20 by decide, show (39 : Int32).toInt = 39 by decide, show (40 : Int32).toInt = 40 by decide, show (50 : Int32).toInt = 50 by decide, show (60 : Int32).toInt = 60 by decide, show (99 : Int32).toInt = 99 by decide, show (100 : Int32).toInt = 100 by decide, show (999 : Int32).toInt = 999 by decide, show (9999 : Int32).toInt = 9999 by decide, show (99999 : Int32).toInt = 99999 by decide, show (999999 : Int32).toInt = 999999 by decide, show (9999999 : Int32).toInt = 9999999 by decide, show (-50 : Int32).toInt = -50 by decide, show (32 : Int32).toInt = 32 by decide] at *); (repeat first | rw [if_pos (by omega)] at hzz | rw [if_neg (by omega)] at hzz); subst hzz; rfl
  · rfl
  · exact fun zq hzq zn0 => zl29 zq hzq zn0
  · exact zr30
  · generalize hzz : opCount d (nI tn) k = zz1; unfold opCount at hzz; rw [q1, q4, p1, p2, p3] at hzz; (try simp only [ i_eq, i_lt, i_le, show (-1 : Int32).toInt = -1 by decide, show (0 : Int32).toInt = 0 by decide, show (1 : Int32).toInt = 1 by decide, show (2 : Int32).toInt = 2 by decide, show (3 : Int32).toInt = 3 by decide, show (4 : Int32).toInt = 4 by decide, show (5 : Int32).toInt = 5 by decide, show (6 : Int32).toInt = 6 by decide, show (7 : Int32).toInt = 7 by decide, show (8 : Int32).toInt = 8 by decide, show (9 : Int32).toInt = 9 by decide, show (10 : Int32).toInt = 10 by decide, show (11 : Int32).toInt = 11 by decide, show (12 : Int32).toInt = 12 by decide, show (13 : Int32).toInt = 13 by decide, show (14 : Int32).toInt = 14 by decide, show (15 : Int32).toInt = 15 by decide, show (16 : Int32).toInt = 16 by decide, show (20 : Int32).toInt = 20 by decide, show (39 : Int32).toInt = 39 by decide, show (40 : Int32).toInt = 40 by decide, show (50 : Int32).toInt = 50 by decide, show (60 : Int32).toInt = 60 by decide, show (99 : Int32).toInt = 99 by decide, show (100 : Int32).toInt = 100 by decide, show (999 : Int32).toInt = 999 by decide, show (9999 : Int32).toInt = 9999 by decide, show (99999 : Int32).toInt = 99999 by decide, show (999999 : Int32).toInt = 999999 by decide, show (9999999 : Int32).toInt = 9999999 by decide, show (-50 : Int32).toInt = -50 by decide, show (32 : Int32).toInt = 32 by decide] at *); (repeat first | rw [if_pos (by omega)] at hzz | rw [if_neg (by omega)] at hzz); subst hzz; exact zK28
set_option maxHeartbeats 4000000 in
set_option maxRecDepth 100000 in
theorem p_seed {κ : Wc} {l : Launch} {h : Mm} {n : Nat} {o : Nat} {im : Int32} {d : Nat → Int32} {v : Int32} (K0 : h o = some (.inr (11, [.ref (o + 1), .ref (o + 14), .ref (o + 27), .ref (o + 33), .ref (o + 42), .ref (o + 55), .ref (o + 57), .ref (o + 59), .ref (o + 61), .int im]))) (K1 : h (o + 1) = some (.inr (3, [.ref (o + 1 + 1), .ref (o + 1 + 7), .ref (o + 1 + 9), .ref (o + 1 + 11), .int (d 13)])))  : Con κ l yX11_seed cX11_seed 3 (some .int) 1 0 0 [.ref o, .int v] h n (fun q h' n' => q = some (.int (d 13)) ∧ n' = n ∧ (∀ zq : Nat, zq < (o + 76) → zq ≠ (o + 1) → h' zq = h zq) ∧ Zr κ (o + 76) h h' ∧ h' (o + 1) = some (.inr (3, [.ref (o + 1 + 1), .ref (o + 1 + 7), .ref (o + 1 + 9), .ref (o + 1 + 11), .int (upd d 13 v 13)]))) := by
  refine Con.of mk_X11_seed (Nat.le_of_ble_eq_true rfl) (fun G hG X E => ?_)
  subst hG
  refine z_ls (ls' := [(0, .ref o), (1, .int v)]) rfl ?_
  refine z_aload_n X 0 dX11_seed_0 rfl ?_
  refine z_get X fl_X11_10_11 dX11_seed_1 K0 rfl ?_
  refine z_get X fl_X11_260_3 dX11_seed_4 K1 rfl ?_
  refine z_istore_n (ls' := [(2, .int (d 13)), (0, .ref o), (1, .int v)]) X dX11_seed_7 (by decide) rfl ?_
  refine z_aload_n X 1 dX11_seed_8 rfl ?_
  refine z_get X fl_X11_10_11 dX11_seed_9 K0 rfl ?_
  refine z_iload_n X 2 dX11_seed_12 rfl ?_
  refine z_put X fp_X11_260_3 dX11_seed_13 K1 (by first | rfl | decide) (by first | rfl | decide) (Nat.le_of_ble_eq_true rfl) rfl ?_
  obtain ⟨zh1, ze2⟩ : ∃ z : Mm, z = va_up h (o + 1) (some (.inr (3, [.ref (o + 1 + 1), .ref (o + 1 + 7), .ref (o + 1 + 9), .ref (o + 1 + 11), .int v]))) := ⟨_, rfl⟩
  refine z_heap (h' := zh1) ze2.symm ?_
  have zK3 := up_off ze2 (show o ≠ o + 1 by omega) K0
  have zK4 := up_at ze2
  have zl5 : ∀ zq : Nat, zq < (o + 76) → zq ≠ (o + 1) → zh1 zq = h zq := by intro zq hzq zn0; rw [ze2, va_up_ne _ _ (show zq ≠ o + 1 by omega)]; try rfl
  have zr6 : Zr κ (o + 76) h zh1 := (Zr.refl).trans (Zr.same (fun zq h1 => by rw [ze2, va_up_ne _ _ (show zq ≠ o + 1 by omega)]))
  refine z_iload_n X 0 dX11_seed_16 rfl ?_
  refine z_iret X E dX11_seed_17 (by omega) (by omega) ⟨?_, ?_, ?_, ?_, ?_⟩
  · rfl
  · rfl
  · exact fun zq hzq zn0 => zl5 zq hzq zn0
  · exact zr6
  · rw [pk_us]; exact zK4
set_option maxHeartbeats 4000000 in
set_option maxRecDepth 100000 in
theorem p_mass {κ : Wc} {l : Launch} {h : Mm} {n : Nat} {o : Nat} {im : Int32} {d : Nat → Int32} {len : Nat} {nc : Nat} {cold : Int32} {wind : Int32} (K0 : h o = some (.inr (11, [.ref (o + 1), .ref (o + 14), .ref (o + 27), .ref (o + 33), .ref (o + 42), .ref (o + 55), .ref (o + 57), .ref (o + 59), .ref (o + 61), .int im]))) (K1 : h (o + 1) = some (.inr (3, [.ref (o + 1 + 1), .ref (o + 1 + 7), .ref (o + 1 + 9), .ref (o + 1 + 11), .int (d 13)]))) (K2 : h (o + 2) = some (.inr (2, [.ref (o + 3), .ref (o + 4), .ref (o + 5), .ref (o + 6), .ref (o + 7), .int (nI len), .int (d 0), .int (d 2), .int (d 3), .int (nI nc), .int (d 10), .int cold, .int wind]))) (K3 : h (o + 3) = arI κ 40 (win 100 40 d)) (K4 : h (o + 4) = arI κ 40 (win 140 40 d)) (q1 : d 1 = nI len) (q2 : 1 ≤ len) (q3 : len ≤ 40) : Con κ l yX11_mass cX11_mass 1 (some .int) 4 0 0 [.ref o] h n (fun q h' n' => q = some (.int (massR d len)) ∧ n' = n ∧ (∀ zq : Nat, zq < (o + 76) → h' zq = h zq) ∧ Zr κ (o + 76) h h') := by
  refine Con.of mk_X11_mass (Nat.le_of_ble_eq_true rfl) (fun G hG X E => ?_)
  subst hG
  refine z_ls (ls' := [(0, .ref o)]) rfl ?_
  refine z_aload_n X 0 dX11_mass_0 rfl ?_
  refine z_get X fl_X11_10_11 dX11_mass_1 K0 rfl ?_
  refine z_get X fl_X11_56_3 dX11_mass_4 K1 rfl ?_
  refine z_callV X (c_massOfAll (κ := κ) (n := n) (i := (o + 1 + 1)) (len := (len)) (m := (d)) (now := (d 0)) (dd := (d 2)) (dr := (d 3)) (cc := (nI nc)) (on := (d 10)) (cold := (cold)) (wind := (wind)) K2 K3 K4 (by first | assumption | omega)) mk_X2_massOfAll dX11_mass_7 wd_631 wd_632 wd_633 rfl K2 rfl rfl rfl (Nat.le_of_ble_eq_true rfl) (Nat.le_of_ble_eq_true rfl) (Nat.le_of_ble_eq_true rfl) (by omega) (by omega) (fun q zh1 zm3 zp4 => ?_)
  obtain ⟨rfl, ze2, zn5⟩ := zp4
  subst zm3
  subst zh1
  refine z_st (st' := [.int (massR d len)]) rfl ?_
  refine z_iret X E dX11_mass_10 (by omega) (by omega) ⟨?_, ?_, ?_, ?_⟩
  · rfl
  · rfl
  · exact fun zq hzq  => rfl
  · exact Zr.refl
set_option maxHeartbeats 4000000 in
set_option maxRecDepth 100000 in
theorem p_ring {κ : Wc} {l : Launch} {h : Mm} {n : Nat} {o : Nat} {im : Int32} {d : Nat → Int32} {len : Nat} {nc : Nat} {cold : Int32} {wind : Int32} {rs1 : Int32} {bt1 : Int32} {g1 : Nat → Int32} {fo : Nat → Int32} {i : Int32} (K0 : h o = some (.inr (11, [.ref (o + 1), .ref (o + 14), .ref (o + 27), .ref (o + 33), .ref (o + 42), .ref (o + 55), .ref (o + 57), .ref (o + 59), .ref (o + 61), .int im]))) (K1 : h (o + 1) = some (.inr (3, [.ref (o + 1 + 1), .ref (o + 1 + 7), .ref (o + 1 + 9), .ref (o + 1 + 11), .int (d 13)]))) (K2 : h (o + 2) = some (.inr (2, [.ref (o + 3), .ref (o + 4), .ref (o + 5), .ref (o + 6), .ref (o + 7), .int (nI len), .int (d 0), .int (d 2), .int (d 3), .int (nI nc), .int (d 10), .int cold, .int wind]))) (K3 : h (o + 3) = arI κ 40 (win 100 40 d)) (K4 : h (o + 55) = some (.inr (6, [.ref (o + 55 + 1), .int rs1, .int bt1]))) (K5 : h (o + 56) = arI κ 40 g1) (K6 : h (o + 61) = arI κ 6 fo) (q1 : d 1 = nI len) (q2 : 1 ≤ len) (q3 : len ≤ 40) : Con κ l yX11_ring cX11_ring 2 (some .int) 4 0 0 [.ref o, .int i] h n (fun q h' n' => ∃ rs' : Int32, ∃ g' : Nat → Int32, q = some (.int (ansOf (opRing d len i))) ∧ n' = n ∧ (∀ zq : Nat, zq < (o + 76) → zq ≠ (o + 55) → zq ≠ (o + 56) → zq ≠ (o + 61) → h' zq = h zq) ∧ Zr κ (o + 76) h h' ∧ h' (o + 55) = some (.inr (6, [.ref (o + 55 + 1), .int rs', .int bt1])) ∧ h' (o + 56) = arI κ 40 g' ∧ h' (o + 61) = arI κ 6 (bump (opRing d len i) fo)) := by
  refine Con.of mk_X11_ring (Nat.le_of_ble_eq_true rfl) (fun G hG X E => ?_)
  subst hG
  refine z_ls (ls' := [(0, .ref o), (1, .int i)]) rfl ?_
  refine z_iload_n X 1 dX11_ring_0 rfl ?_
  refine z_iconst (v := -1) X dX11_ring_1 (by decide) ?_
  refine z_icmp_ge X 11 dX11_ring_2 (by decide) (fun zc1 => ?_) (fun zc1 => ?_)
  · refine z_aload_n X 0 dX11_ring_11 rfl ?_
    refine z_get X fl_X11_10_11 dX11_ring_12 K0 rfl ?_
    refine z_get X fl_X11_56_3 dX11_ring_15 K1 rfl ?_
    refine z_aload_n X 0 dX11_ring_18 rfl ?_
    refine z_get X fl_X11_38_11 dX11_ring_19 K0 rfl ?_
    refine z_callV X (c_ringsInto (κ := κ) (n := n) (i := (o + 1 + 1)) (len := (len)) (m := (d)) (now := (d 0)) (dd := (d 2)) (dr := (d 3)) (cc := (nI nc)) (on := (d 10)) (cold := (cold)) (wind := (wind)) (r := (o + 55)) (rs := (rs1)) (bt := (bt1)) (g := (g1)) K2 K3 K4 K5 (by first | assumption | omega) (by first | assumption | omega)) mk_X2_ringsInto dX11_ring_22 wd_643 wd_644 wd_645 rfl K2 rfl rfl rfl (Nat.le_of_ble_eq_true rfl) (Nat.le_of_ble_eq_true rfl) (Nat.le_of_ble_eq_true rfl) (by omega) (by omega) (fun q zh3 zm5 zp6 => ?_)
    obtain ⟨g'2, rfl, ze4, zn8, zf7⟩ := zp6
    subst zm5
    refine z_st (st' := [.int (nI (rn d len len))]) rfl ?_
    have zK9 : zh3 o = some (.inr (11, [.ref (o + 1), .ref (o + 14), .ref (o + 27), .ref (o + 33), .ref (o + 42), .ref (o + 55), .ref (o + 57), .ref (o + 59), .ref (o + 61), .int im])) := by rw [ze4]; rw [va_up_ne _ _ (show o ≠ o + 56 by omega)]; rw [va_up_ne _ _ (show o ≠ o + 55 by omega)]; exact K0
    have zK10 : zh3 (o + 1) = some (.inr (3, [.ref (o + 1 + 1), .ref (o + 1 + 7), .ref (o + 1 + 9), .ref (o + 1 + 11), .int (d 13)])) := by rw [ze4]; rw [va_up_ne _ _ (show o + 1 ≠ o + 56 by omega)]; rw [va_up_ne _ _ (show o + 1 ≠ o + 55 by omega)]; exact K1
    have zK11 : zh3 (o + 2) = some (.inr (2, [.ref (o + 3), .ref (o + 4), .ref (o + 5), .ref (o + 6), .ref (o + 7), .int (nI len), .int (d 0), .int (d 2), .int (d 3), .int (nI nc), .int (d 10), .int cold, .int wind])) := by rw [ze4]; rw [va_up_ne _ _ (show o + 2 ≠ o + 56 by omega)]; rw [va_up_ne _ _ (show o + 2 ≠ o + 55 by omega)]; exact K2
    have zK12 : zh3 (o + 3) = arI κ 40 (win 100 40 d) := by rw [ze4]; rw [va_up_ne _ _ (show o + 3 ≠ o + 56 by omega)]; rw [va_up_ne _ _ (show o + 3 ≠ o + 55 by omega)]; exact K3
    have zK13 : zh3 (o + 55) = some (.inr (6, [.ref ((o + 55) + 1), .int (nI (rn d len len)), .int bt1])) := by rw [ze4]; rw [va_up_ne _ _ (show o + 55 ≠ o + 56 by omega)]; exact va_up_self _ _ _
    have zK14 : zh3 (o + 56) = arI κ 40 g'2 := by rw [ze4]; exact va_up_self _ _ _
    have zK15 : zh3 (o + 61) = arI κ 6 fo := by rw [ze4]; rw [va_up_ne _ _ (show o + 61 ≠ o + 56 by omega)]; rw [va_up_ne _ _ (show o + 61 ≠ o + 55 by omega)]; exact K6
    have zl16 : ∀ zq : Nat, zq < (o + 76) → zq ≠ (o + 55) → zq ≠ (o + 56) → zh3 zq = h zq := by intro zq hzq zn0 zn1; rw [ze4, va_up_ne _ _ (show zq ≠ o + 56 by omega), va_up_ne _ _ (show zq ≠ o + 55 by omega)]; try rfl
    have zr17 : Zr κ (o + 76) h zh3 := (Zr.refl).trans (Zr.same (fun zq h1 => by rw [ze4, va_up_ne _ _ (show zq ≠ o + 56 by omega), va_up_ne _ _ (show zq ≠ o + 55 by omega)]))
    have hrg := zf7
    have hrn := rn_le d len len
    refine z_pop X dX11_ring_25 rfl ?_
    refine z_iload_n X 1 dX11_ring_26 rfl ?_
    refine z_iconst (v := -1) X dX11_ring_27 (by decide) ?_
    refine z_icmp_ne X 39 dX11_ring_28 (by decide) (fun zc18 => ?_) (fun zc18 => ?_)
    · refine z_iload_n X 1 dX11_ring_39 rfl ?_
      refine z_aload_n X 0 dX11_ring_40 rfl ?_
      refine z_get X fl_X11_38_11 dX11_ring_41 zK9 rfl ?_
      refine z_get X fl_X11_95_6 dX11_ring_44 zK13 rfl ?_
      refine z_icmp_ge X 61 dX11_ring_47 (by decide) (fun zc19 => ?_) (fun zc19 => ?_)
      · rw [i_le, i_nI (n := rn d len len) (by omega)] at zc19
        refine z_aload_n X 0 dX11_ring_61 rfl ?_
        refine z_iconst (v := 2) X dX11_ring_62 (by decide) ?_
        refine z_callV X (c_fail (κ := κ) (n := n) (o := (o)) (im := (im)) (fo := (fo)) (k := (2)) zK9 zK15 (by first | assumption | omega) (by first | assumption | omega)) mk_X11_fail dX11_ring_63 wd_260 wd_262 wd_0 rfl zK9 rfl rfl rfl (Nat.le_of_ble_eq_true rfl) (Nat.le_of_ble_eq_true rfl) (Nat.le_of_ble_eq_true rfl) (by omega) (by omega) (fun q zh20 zm22 zp23 => ?_)
        obtain ⟨rfl, ze21, zn24⟩ := zp23
        subst zm22
        refine z_st (st' := [.int (lowE 2)]) rfl ?_
        have zK25 : zh20 o = some (.inr (11, [.ref (o + 1), .ref (o + 14), .ref (o + 27), .ref (o + 33), .ref (o + 42), .ref (o + 55), .ref (o + 57), .ref (o + 59), .ref (o + 61), .int im])) := by rw [ze21]; rw [va_up_ne _ _ (show o ≠ o + 61 by omega)]; exact zK9
        have zK26 : zh20 (o + 1) = some (.inr (3, [.ref (o + 1 + 1), .ref (o + 1 + 7), .ref (o + 1 + 9), .ref (o + 1 + 11), .int (d 13)])) := by rw [ze21]; rw [va_up_ne _ _ (show o + 1 ≠ o + 61 by omega)]; exact zK10
        have zK27 : zh20 (o + 2) = some (.inr (2, [.ref (o + 3), .ref (o + 4), .ref (o + 5), .ref (o + 6), .ref (o + 7), .int (nI len), .int (d 0), .int (d 2), .int (d 3), .int (nI nc), .int (d 10), .int cold, .int wind])) := by rw [ze21]; rw [va_up_ne _ _ (show o + 2 ≠ o + 61 by omega)]; exact zK11
        have zK28 : zh20 (o + 3) = arI κ 40 (win 100 40 d) := by rw [ze21]; rw [va_up_ne _ _ (show o + 3 ≠ o + 61 by omega)]; exact zK12
        have zK29 : zh20 (o + 55) = some (.inr (6, [.ref ((o + 55) + 1), .int (nI (rn d len len)), .int bt1])) := by rw [ze21]; rw [va_up_ne _ _ (show o + 55 ≠ o + 61 by omega)]; exact zK13
        have zK30 : zh20 (o + 56) = arI κ 40 g'2 := by rw [ze21]; rw [va_up_ne _ _ (show o + 56 ≠ o + 61 by omega)]; exact zK14
        have zK31 : zh20 (o + 61) = arI κ 6 (bmp fo 2) := by rw [ze21]; exact va_up_self _ _ _
        have zl32 : ∀ zq : Nat, zq < (o + 76) → zq ≠ (o + 55) → zq ≠ (o + 56) → zq ≠ (o + 61) → zh20 zq = h zq := by intro zq hzq zn0 zn1 zn2; rw [ze21, va_up_ne _ _ (show zq ≠ o + 61 by omega)]; exact zl16 zq hzq zn0 zn1
        have zr33 : Zr κ (o + 76) h zh20 := (zr17).trans (Zr.same (fun zq h1 => by rw [ze21, va_up_ne _ _ (show zq ≠ o + 61 by omega)]))
        refine z_iret X E dX11_ring_66 (by omega) (by omega) ⟨(nI (rn d len len)), g'2, ?_, ?_, ?_, ?_, ?_, ?_, ?_⟩
        · generalize hzz : opRing d len i = zz1; unfold opRing at hzz; (try simp only [ i_eq, i_lt, i_le, show (-1 : Int32).toInt = -1 by decide, show (0 : Int32).toInt = 0 by decide, show (1 : Int32).toInt = 1 by decide, show (2 : Int32).toInt = 2 by decide, show (3 : Int32).toInt = 3 by decide, show (4 : Int32).toInt = 4 by decide, show (5 : Int32).toInt = 5 by decide, show (6 : Int32).toInt = 6 by decide, show (7 : Int32).toInt = 7 by decide, show (8 : Int32).toInt = 8 by decide, show (9 : Int32).toInt = 9 by decide, show (10 : Int32).toInt = 10 by decide, show (11 : Int32).toInt = 11 by decide, show (12 : Int32).toInt = 12 by decide, show (13 : Int32).toInt = 13 by decide, show (14 : Int32).toInt = 14 by decide, show (15 : Int32).toInt = 15 by decide, show (16 : Int32).toInt = 16 by decide, show (20 : Int32).toInt = 20 by decide, show (39 : Int32).toInt = 39 by decide, show (40 : Int32).toInt = 40 by decide, show (50 : Int32).toInt = 50 by decide, show (60 : Int32).toInt = 60 by decide, show (99 : Int32).toInt = 99 by decide, show (100 : Int32).toInt = 100 by decide, show (999 : Int32).toInt = 999 by decide, show (9999 : Int32).toInt = 9999 by decide, show (99999 : Int32).toInt = 99999 by decide, show (999999 : Int32).toInt = 999999 by decide, show (9999999 : Int32).toInt = 9999999 by decide, show (-50 : Int32).toInt = -50 by decide, show (32 : Int32).toInt = 32 by decide] at *); (repeat first | rw [if_pos (by omega)] at hzz | rw [if_neg (by omega)] at hzz); subst hzz; first | rfl | exact congrArg (fun z => some (Value.int z)) (ansOf_0 _).symm
        · rfl
        · exact fun zq hzq zn0 zn1 zn2 => zl32 zq hzq zn0 zn1 zn2
        · exact zr33
        · exact zK29
        · exact zK30
        · generalize hzz : opRing d len i = zz1; unfold opRing at hzz; (try simp only [ i_eq, i_lt, i_le, show (-1 : Int32).toInt = -1 by decide, show (0 : Int32).toInt = 0 by decide, show (1 : Int32).toInt = 1 by decide, show (2 : Int32).toInt = 2 by decide, show (3 : Int32).toInt = 3 by decide, show (4 : Int32).toInt = 4 by decide, show (5 : Int32).toInt = 5 by decide, show (6 : Int32).toInt = 6 by decide, show (7 : Int32).toInt = 7 by decide, show (8 : Int32).toInt = 8 by decide, show (9 : Int32).toInt = 9 by decide, show (10 : Int32).toInt = 10 by decide, show (11 : Int32).toInt = 11 by decide, show (12 : Int32).toInt = 12 by decide, show (13 : Int32).toInt = 13 by decide, show (14 : Int32).toInt = 14 by decide, show (15 : Int32).toInt = 15 by decide, show (16 : Int32).toInt = 16 by decide, show (20 : Int32).toInt = 20 by decide, show (39 : Int32).toInt = 39 by decide, show (40 : Int32).toInt = 40 by decide, show (50 : Int32).toInt = 50 by decide, show (60 : Int32).toInt = 60 by decide, show (99 : Int32).toInt = 99 by decide, show (100 : Int32).toInt = 100 by decide, show (999 : Int32).toInt = 999 by decide, show (9999 : Int32).toInt = 9999 by decide, show (99999 : Int32).toInt = 99999 by decide, show (999999 : Int32).toInt = 999999 by decide, show (9999999 : Int32).toInt = 9999999 by decide, show (-50 : Int32).toInt = -50 by decide, show (32 : Int32).toInt = 32 by decide] at *); (repeat first | rw [if_pos (by omega)] at hzz | rw [if_neg (by omega)] at hzz); subst hzz; exact zK31
      · rw [i_le, i_nI (n := rn d len len) (by omega)] at zc19
        have hi0 : 0 ≤ i.toInt := by (simp only [i_eq, i_lt, i_le, show (-1 : Int32).toInt = -1 by decide, show (0 : Int32).toInt = 0 by decide, show (1 : Int32).toInt = 1 by decide, show (2 : Int32).toInt = 2 by decide, show (3 : Int32).toInt = 3 by decide, show (4 : Int32).toInt = 4 by decide, show (5 : Int32).toInt = 5 by decide, show (6 : Int32).toInt = 6 by decide, show (7 : Int32).toInt = 7 by decide, show (8 : Int32).toInt = 8 by decide, show (9 : Int32).toInt = 9 by decide, show (10 : Int32).toInt = 10 by decide, show (11 : Int32).toInt = 11 by decide, show (12 : Int32).toInt = 12 by decide, show (13 : Int32).toInt = 13 by decide, show (14 : Int32).toInt = 14 by decide, show (15 : Int32).toInt = 15 by decide, show (16 : Int32).toInt = 16 by decide, show (20 : Int32).toInt = 20 by decide, show (39 : Int32).toInt = 39 by decide, show (40 : Int32).toInt = 40 by decide, show (50 : Int32).toInt = 50 by decide, show (60 : Int32).toInt = 60 by decide, show (99 : Int32).toInt = 99 by decide, show (100 : Int32).toInt = 100 by decide, show (999 : Int32).toInt = 999 by decide, show (9999 : Int32).toInt = 9999 by decide, show (99999 : Int32).toInt = 99999 by decide, show (999999 : Int32).toInt = 999999 by decide, show (9999999 : Int32).toInt = 9999999 by decide, show (-50 : Int32).toInt = -50 by decide, show (32 : Int32).toInt = 32 by decide] at *; omega)
        obtain ⟨ik, hik, rfl⟩ := ix_of (c := i) (len := rn d len len) (by omega) (by omega)
        refine z_aload_n X 0 dX11_ring_50 rfl ?_
        refine z_get X fl_X11_38_11 dX11_ring_51 zK9 rfl ?_
        refine z_iload_n X 1 dX11_ring_54 rfl ?_
        refine z_callV X (c_Row_at (κ := κ) (n := n) (r := (o + 55)) (k := (rn d len len)) (bt := (bt1)) (i := (nI ik)) (N := (40)) (f := (g'2)) zK13 zK14 (by first | assumption | omega) (by first | assumption | omega)) mk_X6_at dX11_ring_55 wd_298 wd_299 wd_300 rfl zK13 rfl rfl rfl (Nat.le_of_ble_eq_true rfl) (Nat.le_of_ble_eq_true rfl) (Nat.le_of_ble_eq_true rfl) (by omega) (by omega) (fun q zh34 zm36 zp37 => ?_)
        obtain ⟨rfl, ze35, zn38⟩ := zp37
        subst zm36
        subst zh34
        refine z_st (st' := [.int (rowAt (rn d len len) g'2 (nI ik))]) rfl ?_
        refine z_toe (y := nI (rAt d len ik)) (by (rw [rowAt, i_nI (by omega), nI_clamp (by omega), if_pos (by omega)]; exact rgOk_at hrg (by omega))) ?_
        refine z_goto X 66 dX11_ring_58 (by decide) ?_
        refine z_iret X E dX11_ring_66 (by omega) (by omega) ⟨(nI (rn d len len)), g'2, ?_, ?_, ?_, ?_, ?_, ?_, ?_⟩
        · generalize hzz : opRing d len (nI ik) = zz1; unfold opRing at hzz; (try simp only [i_nI (n := ik) (by omega), nI_clamp (n := ik) (by omega),  i_eq, i_lt, i_le, show (-1 : Int32).toInt = -1 by decide, show (0 : Int32).toInt = 0 by decide, show (1 : Int32).toInt = 1 by decide, show (2 : Int32).toInt = 2 by decide, show (3 : Int32).toInt = 3 by decide, show (4 : Int32).toInt = 4 by decide, show (5 : Int32).toInt = 5 by decide, show (6 : Int32).toInt = 6 by decide, show (7 : Int32).toInt = 7 by decide, show (8 : Int32).toInt = 8 by decide, show (9 : Int32).toInt = 9 by decide, show (10 : Int32).toInt = 10 by decide, show (11 : Int32).toInt = 11 by decide, show (12 : Int32).toInt = 12 by decide, show (13 : Int32).toInt = 13 by decide, show (14 : Int32).toInt = 14 by decide, show (15 : Int32).toInt = 15 by decide, show (16 : Int32).toInt = 16 by decide, show (20 : Int32).toInt = 20 by decide, show (39 : Int32).toInt = 39 by decide, show (40 : Int32).toInt = 40 by decide, show (50 : Int32).toInt = 50 by decide, show (60 : Int32).toInt = 60 by decide, show (99 : Int32).toInt = 99 by decide, show (100 : Int32).toInt = 100 by decide, show (999 : Int32).toInt = 999 by decide, show (9999 : Int32).toInt = 9999 by decide, show (99999 : Int32).toInt = 99999 by decide, show (999999 : Int32).toInt = 999999 by decide, show (9999999 : Int32).toInt = 9999999 by decide, show (-50 : Int32).toInt = -50 by decide, show (32 : Int32).toInt = 32 by decide] at *); (repeat first | rw [if_pos (by omega)] at hzz | rw [if_neg (by omega)] at hzz); subst hzz; first | rfl | exact congrArg (fun z => some (Value.int z)) (ansOf_0 _).symm
        · rfl
        · exact fun zq hzq zn0 zn1 zn2 => zl16 zq hzq zn0 zn1
        · exact zr17
        · exact zK13
        · exact zK14
        · generalize hzz : opRing d len (nI ik) = zz1; unfold opRing at hzz; (try simp only [i_nI (n := ik) (by omega), nI_clamp (n := ik) (by omega),  i_eq, i_lt, i_le, show (-1 : Int32).toInt = -1 by decide, show (0 : Int32).toInt = 0 by decide, show (1 : Int32).toInt = 1 by decide, show (2 : Int32).toInt = 2 by decide, show (3 : Int32).toInt = 3 by decide, show (4 : Int32).toInt = 4 by decide, show (5 : Int32).toInt = 5 by decide, show (6 : Int32).toInt = 6 by decide, show (7 : Int32).toInt = 7 by decide, show (8 : Int32).toInt = 8 by decide, show (9 : Int32).toInt = 9 by decide, show (10 : Int32).toInt = 10 by decide, show (11 : Int32).toInt = 11 by decide, show (12 : Int32).toInt = 12 by decide, show (13 : Int32).toInt = 13 by decide, show (14 : Int32).toInt = 14 by decide, show (15 : Int32).toInt = 15 by decide, show (16 : Int32).toInt = 16 by decide, show (20 : Int32).toInt = 20 by decide, show (39 : Int32).toInt = 39 by decide, show (40 : Int32).toInt = 40 by decide, show (50 : Int32).toInt = 50 by decide, show (60 : Int32).toInt = 60 by decide, show (99 : Int32).toInt = 99 by decide, show (100 : Int32).toInt = 100 by decide, show (999 : Int32).toInt = 999 by decide, show (9999 : Int32).toInt = 9999 by decide, show (99999 : Int32).toInt = 99999 by decide, show (999999 : Int32).toInt = 999999 by decide, show (9999999 : Int32).toInt = 9999999 by decide, show (-50 : Int32).toInt = -50 by decide, show (32 : Int32).toInt = 32 by decide] at *); (repeat first | rw [if_pos (by omega)] at hzz | rw [if_neg (by omega)] at hzz); subst hzz; exact zK15
    · refine z_aload_n X 0 dX11_ring_31 rfl ?_
      refine z_get X fl_X11_38_11 dX11_ring_32 zK9 rfl ?_
      refine z_get X fl_X11_95_6 dX11_ring_35 zK13 rfl ?_
      refine z_iret X E dX11_ring_38 (by omega) (by omega) ⟨(nI (rn d len len)), g'2, ?_, ?_, ?_, ?_, ?_, ?_, ?_⟩
      · generalize hzz : opRing d len i = zz1; unfold opRing at hzz; (try simp only [ i_eq, i_lt, i_le, show (-1 : Int32).toInt = -1 by decide, show (0 : Int32).toInt = 0 by decide, show (1 : Int32).toInt = 1 by decide, show (2 : Int32).toInt = 2 by decide, show (3 : Int32).toInt = 3 by decide, show (4 : Int32).toInt = 4 by decide, show (5 : Int32).toInt = 5 by decide, show (6 : Int32).toInt = 6 by decide, show (7 : Int32).toInt = 7 by decide, show (8 : Int32).toInt = 8 by decide, show (9 : Int32).toInt = 9 by decide, show (10 : Int32).toInt = 10 by decide, show (11 : Int32).toInt = 11 by decide, show (12 : Int32).toInt = 12 by decide, show (13 : Int32).toInt = 13 by decide, show (14 : Int32).toInt = 14 by decide, show (15 : Int32).toInt = 15 by decide, show (16 : Int32).toInt = 16 by decide, show (20 : Int32).toInt = 20 by decide, show (39 : Int32).toInt = 39 by decide, show (40 : Int32).toInt = 40 by decide, show (50 : Int32).toInt = 50 by decide, show (60 : Int32).toInt = 60 by decide, show (99 : Int32).toInt = 99 by decide, show (100 : Int32).toInt = 100 by decide, show (999 : Int32).toInt = 999 by decide, show (9999 : Int32).toInt = 9999 by decide, show (99999 : Int32).toInt = 99999 by decide, show (999999 : Int32).toInt = 999999 by decide, show (9999999 : Int32).toInt = 9999999 by decide, show (-50 : Int32).toInt = -50 by decide, show (32 : Int32).toInt = 32 by decide] at *); (repeat first | rw [if_pos (by omega)] at hzz | rw [if_neg (by omega)] at hzz); subst hzz; first | rfl | exact congrArg (fun z => some (Value.int z)) (ansOf_0 _).symm
      · rfl
      · exact fun zq hzq zn0 zn1 zn2 => zl16 zq hzq zn0 zn1
      · exact zr17
      · exact zK13
      · exact zK14
      · generalize hzz : opRing d len i = zz1; unfold opRing at hzz; (try simp only [ i_eq, i_lt, i_le, show (-1 : Int32).toInt = -1 by decide, show (0 : Int32).toInt = 0 by decide, show (1 : Int32).toInt = 1 by decide, show (2 : Int32).toInt = 2 by decide, show (3 : Int32).toInt = 3 by decide, show (4 : Int32).toInt = 4 by decide, show (5 : Int32).toInt = 5 by decide, show (6 : Int32).toInt = 6 by decide, show (7 : Int32).toInt = 7 by decide, show (8 : Int32).toInt = 8 by decide, show (9 : Int32).toInt = 9 by decide, show (10 : Int32).toInt = 10 by decide, show (11 : Int32).toInt = 11 by decide, show (12 : Int32).toInt = 12 by decide, show (13 : Int32).toInt = 13 by decide, show (14 : Int32).toInt = 14 by decide, show (15 : Int32).toInt = 15 by decide, show (16 : Int32).toInt = 16 by decide, show (20 : Int32).toInt = 20 by decide, show (39 : Int32).toInt = 39 by decide, show (40 : Int32).toInt = 40 by decide, show (50 : Int32).toInt = 50 by decide, show (60 : Int32).toInt = 60 by decide, show (99 : Int32).toInt = 99 by decide, show (100 : Int32).toInt = 100 by decide, show (999 : Int32).toInt = 999 by decide, show (9999 : Int32).toInt = 9999 by decide, show (99999 : Int32).toInt = 99999 by decide, show (999999 : Int32).toInt = 999999 by decide, show (9999999 : Int32).toInt = 9999999 by decide, show (-50 : Int32).toInt = -50 by decide, show (32 : Int32).toInt = 32 by decide] at *); (repeat first | rw [if_pos (by omega)] at hzz | rw [if_neg (by omega)] at hzz); subst hzz; exact zK15
  · refine z_aload_n X 0 dX11_ring_5 rfl ?_
    refine z_iconst (v := 1) X dX11_ring_6 (by decide) ?_
    refine z_callV X (c_fail (κ := κ) (n := n) (o := (o)) (im := (im)) (fo := (fo)) (k := (1)) K0 K6 (by first | assumption | omega) (by first | assumption | omega)) mk_X11_fail dX11_ring_7 wd_260 wd_262 wd_0 rfl K0 rfl rfl rfl (Nat.le_of_ble_eq_true rfl) (Nat.le_of_ble_eq_true rfl) (Nat.le_of_ble_eq_true rfl) (by omega) (by omega) (fun q zh39 zm41 zp42 => ?_)
    obtain ⟨rfl, ze40, zn43⟩ := zp42
    subst zm41
    refine z_st (st' := [.int (lowE 1)]) rfl ?_
    have zK44 : zh39 o = some (.inr (11, [.ref (o + 1), .ref (o + 14), .ref (o + 27), .ref (o + 33), .ref (o + 42), .ref (o + 55), .ref (o + 57), .ref (o + 59), .ref (o + 61), .int im])) := by rw [ze40]; rw [va_up_ne _ _ (show o ≠ o + 61 by omega)]; exact K0
    have zK45 : zh39 (o + 1) = some (.inr (3, [.ref (o + 1 + 1), .ref (o + 1 + 7), .ref (o + 1 + 9), .ref (o + 1 + 11), .int (d 13)])) := by rw [ze40]; rw [va_up_ne _ _ (show o + 1 ≠ o + 61 by omega)]; exact K1
    have zK46 : zh39 (o + 2) = some (.inr (2, [.ref (o + 3), .ref (o + 4), .ref (o + 5), .ref (o + 6), .ref (o + 7), .int (nI len), .int (d 0), .int (d 2), .int (d 3), .int (nI nc), .int (d 10), .int cold, .int wind])) := by rw [ze40]; rw [va_up_ne _ _ (show o + 2 ≠ o + 61 by omega)]; exact K2
    have zK47 : zh39 (o + 3) = arI κ 40 (win 100 40 d) := by rw [ze40]; rw [va_up_ne _ _ (show o + 3 ≠ o + 61 by omega)]; exact K3
    have zK48 : zh39 (o + 55) = some (.inr (6, [.ref (o + 55 + 1), .int rs1, .int bt1])) := by rw [ze40]; rw [va_up_ne _ _ (show o + 55 ≠ o + 61 by omega)]; exact K4
    have zK49 : zh39 (o + 56) = arI κ 40 g1 := by rw [ze40]; rw [va_up_ne _ _ (show o + 56 ≠ o + 61 by omega)]; exact K5
    have zK50 : zh39 (o + 61) = arI κ 6 (bmp fo 1) := by rw [ze40]; exact va_up_self _ _ _
    have zl51 : ∀ zq : Nat, zq < (o + 76) → zq ≠ (o + 61) → zh39 zq = h zq := by intro zq hzq zn0; rw [ze40, va_up_ne _ _ (show zq ≠ o + 61 by omega)]; try rfl
    have zr52 : Zr κ (o + 76) h zh39 := (Zr.refl).trans (Zr.same (fun zq h1 => by rw [ze40, va_up_ne _ _ (show zq ≠ o + 61 by omega)]))
    refine z_iret X E dX11_ring_10 (by omega) (by omega) ⟨rs1, g1, ?_, ?_, ?_, ?_, ?_, ?_, ?_⟩
    · generalize hzz : opRing d len i = zz1; unfold opRing at hzz; (try simp only [ i_eq, i_lt, i_le, show (-1 : Int32).toInt = -1 by decide, show (0 : Int32).toInt = 0 by decide, show (1 : Int32).toInt = 1 by decide, show (2 : Int32).toInt = 2 by decide, show (3 : Int32).toInt = 3 by decide, show (4 : Int32).toInt = 4 by decide, show (5 : Int32).toInt = 5 by decide, show (6 : Int32).toInt = 6 by decide, show (7 : Int32).toInt = 7 by decide, show (8 : Int32).toInt = 8 by decide, show (9 : Int32).toInt = 9 by decide, show (10 : Int32).toInt = 10 by decide, show (11 : Int32).toInt = 11 by decide, show (12 : Int32).toInt = 12 by decide, show (13 : Int32).toInt = 13 by decide, show (14 : Int32).toInt = 14 by decide, show (15 : Int32).toInt = 15 by decide, show (16 : Int32).toInt = 16 by decide, show (20 : Int32).toInt = 20 by decide, show (39 : Int32).toInt = 39 by decide, show (40 : Int32).toInt = 40 by decide, show (50 : Int32).toInt = 50 by decide, show (60 : Int32).toInt = 60 by decide, show (99 : Int32).toInt = 99 by decide, show (100 : Int32).toInt = 100 by decide, show (999 : Int32).toInt = 999 by decide, show (9999 : Int32).toInt = 9999 by decide, show (99999 : Int32).toInt = 99999 by decide, show (999999 : Int32).toInt = 999999 by decide, show (9999999 : Int32).toInt = 9999999 by decide, show (-50 : Int32).toInt = -50 by decide, show (32 : Int32).toInt = 32 by decide] at *); (repeat first | rw [if_pos (by omega)] at hzz | rw [if_neg (by omega)] at hzz); subst hzz; first | rfl | exact congrArg (fun z => some (Value.int z)) (ansOf_0 _).symm
    · rfl
    · exact fun zq hzq zn0 zn1 zn2 => zl51 zq hzq zn2
    · exact zr52
    · exact zK48
    · exact zK49
    · generalize hzz : opRing d len i = zz1; unfold opRing at hzz; (try simp only [ i_eq, i_lt, i_le, show (-1 : Int32).toInt = -1 by decide, show (0 : Int32).toInt = 0 by decide, show (1 : Int32).toInt = 1 by decide, show (2 : Int32).toInt = 2 by decide, show (3 : Int32).toInt = 3 by decide, show (4 : Int32).toInt = 4 by decide, show (5 : Int32).toInt = 5 by decide, show (6 : Int32).toInt = 6 by decide, show (7 : Int32).toInt = 7 by decide, show (8 : Int32).toInt = 8 by decide, show (9 : Int32).toInt = 9 by decide, show (10 : Int32).toInt = 10 by decide, show (11 : Int32).toInt = 11 by decide, show (12 : Int32).toInt = 12 by decide, show (13 : Int32).toInt = 13 by decide, show (14 : Int32).toInt = 14 by decide, show (15 : Int32).toInt = 15 by decide, show (16 : Int32).toInt = 16 by decide, show (20 : Int32).toInt = 20 by decide, show (39 : Int32).toInt = 39 by decide, show (40 : Int32).toInt = 40 by decide, show (50 : Int32).toInt = 50 by decide, show (60 : Int32).toInt = 60 by decide, show (99 : Int32).toInt = 99 by decide, show (100 : Int32).toInt = 100 by decide, show (999 : Int32).toInt = 999 by decide, show (9999 : Int32).toInt = 9999 by decide, show (99999 : Int32).toInt = 99999 by decide, show (999999 : Int32).toInt = 999999 by decide, show (9999999 : Int32).toInt = 9999999 by decide, show (-50 : Int32).toInt = -50 by decide, show (32 : Int32).toInt = 32 by decide] at *); (repeat first | rw [if_pos (by omega)] at hzz | rw [if_neg (by omega)] at hzz); subst hzz; exact zK50
set_option maxHeartbeats 4000000 in
set_option maxRecDepth 100000 in
theorem p_apart {κ : Wc} {l : Launch} {h : Mm} {n : Nat} {o : Nat} {im : Int32} {d : Nat → Int32} {len : Nat} {nc : Nat} {cold : Int32} {wind : Int32} {rs1 : Int32} {bt1 : Int32} {g1 : Nat → Int32} {fo : Nat → Int32} (K0 : h o = some (.inr (11, [.ref (o + 1), .ref (o + 14), .ref (o + 27), .ref (o + 33), .ref (o + 42), .ref (o + 55), .ref (o + 57), .ref (o + 59), .ref (o + 61), .int im]))) (K1 : h (o + 1) = some (.inr (3, [.ref (o + 1 + 1), .ref (o + 1 + 7), .ref (o + 1 + 9), .ref (o + 1 + 11), .int (d 13)]))) (K2 : h (o + 2) = some (.inr (2, [.ref (o + 3), .ref (o + 4), .ref (o + 5), .ref (o + 6), .ref (o + 7), .int (nI len), .int (d 0), .int (d 2), .int (d 3), .int (nI nc), .int (d 10), .int cold, .int wind]))) (K3 : h (o + 3) = arI κ 40 (win 100 40 d)) (K4 : h (o + 55) = some (.inr (6, [.ref (o + 55 + 1), .int rs1, .int bt1]))) (K5 : h (o + 56) = arI κ 40 g1) (K6 : h (o + 61) = arI κ 6 fo) (q1 : d 1 = nI len) (q2 : 1 ≤ len) (q3 : len ≤ 40) : Con κ l yX11_apart cX11_apart 2 (some .int) 4 0 0 [.ref o] h n (fun q h' n' => ∃ rs' : Int32, ∃ g' : Nat → Int32, q = some (.int (ansOf (opApart d len))) ∧ n' = n ∧ (∀ zq : Nat, zq < (o + 76) → zq ≠ (o + 55) → zq ≠ (o + 56) → zq ≠ (o + 61) → h' zq = h zq) ∧ Zr κ (o + 76) h h' ∧ h' (o + 55) = some (.inr (6, [.ref (o + 55 + 1), .int rs', .int bt1])) ∧ h' (o + 56) = arI κ 40 g' ∧ h' (o + 61) = arI κ 6 (bump (opApart d len) fo)) := by
  refine Con.of mk_X11_apart (Nat.le_of_ble_eq_true rfl) (fun G hG X E => ?_)
  subst hG
  refine z_ls (ls' := [(0, .ref o)]) rfl ?_
  refine z_aload_n X 0 dX11_apart_0 rfl ?_
  refine z_get X fl_X11_10_11 dX11_apart_1 K0 rfl ?_
  refine z_get X fl_X11_56_3 dX11_apart_4 K1 rfl ?_
  refine z_aload_n X 0 dX11_apart_7 rfl ?_
  refine z_get X fl_X11_38_11 dX11_apart_8 K0 rfl ?_
  refine z_callV X (c_ringsInto (κ := κ) (n := n) (i := (o + 1 + 1)) (len := (len)) (m := (d)) (now := (d 0)) (dd := (d 2)) (dr := (d 3)) (cc := (nI nc)) (on := (d 10)) (cold := (cold)) (wind := (wind)) (r := (o + 55)) (rs := (rs1)) (bt := (bt1)) (g := (g1)) K2 K3 K4 K5 (by first | assumption | omega) (by first | assumption | omega)) mk_X2_ringsInto dX11_apart_11 wd_643 wd_644 wd_645 rfl K2 rfl rfl rfl (Nat.le_of_ble_eq_true rfl) (Nat.le_of_ble_eq_true rfl) (Nat.le_of_ble_eq_true rfl) (by omega) (by omega) (fun q zh2 zm4 zp5 => ?_)
  obtain ⟨g'1, rfl, ze3, zn7, zf6⟩ := zp5
  subst zm4
  refine z_st (st' := [.int (nI (rn d len len))]) rfl ?_
  have zK8 : zh2 o = some (.inr (11, [.ref (o + 1), .ref (o + 14), .ref (o + 27), .ref (o + 33), .ref (o + 42), .ref (o + 55), .ref (o + 57), .ref (o + 59), .ref (o + 61), .int im])) := by rw [ze3]; rw [va_up_ne _ _ (show o ≠ o + 56 by omega)]; rw [va_up_ne _ _ (show o ≠ o + 55 by omega)]; exact K0
  have zK9 : zh2 (o + 1) = some (.inr (3, [.ref (o + 1 + 1), .ref (o + 1 + 7), .ref (o + 1 + 9), .ref (o + 1 + 11), .int (d 13)])) := by rw [ze3]; rw [va_up_ne _ _ (show o + 1 ≠ o + 56 by omega)]; rw [va_up_ne _ _ (show o + 1 ≠ o + 55 by omega)]; exact K1
  have zK10 : zh2 (o + 2) = some (.inr (2, [.ref (o + 3), .ref (o + 4), .ref (o + 5), .ref (o + 6), .ref (o + 7), .int (nI len), .int (d 0), .int (d 2), .int (d 3), .int (nI nc), .int (d 10), .int cold, .int wind])) := by rw [ze3]; rw [va_up_ne _ _ (show o + 2 ≠ o + 56 by omega)]; rw [va_up_ne _ _ (show o + 2 ≠ o + 55 by omega)]; exact K2
  have zK11 : zh2 (o + 3) = arI κ 40 (win 100 40 d) := by rw [ze3]; rw [va_up_ne _ _ (show o + 3 ≠ o + 56 by omega)]; rw [va_up_ne _ _ (show o + 3 ≠ o + 55 by omega)]; exact K3
  have zK12 : zh2 (o + 55) = some (.inr (6, [.ref ((o + 55) + 1), .int (nI (rn d len len)), .int bt1])) := by rw [ze3]; rw [va_up_ne _ _ (show o + 55 ≠ o + 56 by omega)]; exact va_up_self _ _ _
  have zK13 : zh2 (o + 56) = arI κ 40 g'1 := by rw [ze3]; exact va_up_self _ _ _
  have zK14 : zh2 (o + 61) = arI κ 6 fo := by rw [ze3]; rw [va_up_ne _ _ (show o + 61 ≠ o + 56 by omega)]; rw [va_up_ne _ _ (show o + 61 ≠ o + 55 by omega)]; exact K6
  have zl15 : ∀ zq : Nat, zq < (o + 76) → zq ≠ (o + 55) → zq ≠ (o + 56) → zh2 zq = h zq := by intro zq hzq zn0 zn1; rw [ze3, va_up_ne _ _ (show zq ≠ o + 56 by omega), va_up_ne _ _ (show zq ≠ o + 55 by omega)]; try rfl
  have zr16 : Zr κ (o + 76) h zh2 := (Zr.refl).trans (Zr.same (fun zq h1 => by rw [ze3, va_up_ne _ _ (show zq ≠ o + 56 by omega), va_up_ne _ _ (show zq ≠ o + 55 by omega)]))
  have hrg := zf6
  have hrn := rn_le d len len
  refine z_istore_n (ls' := [(1, .int (nI (rn d len len))), (0, .ref o)]) X dX11_apart_14 (by decide) rfl ?_
  refine z_iload_n X 0 dX11_apart_15 rfl ?_
  refine z_iconst (v := 2) X dX11_apart_16 (by decide) ?_
  refine z_icmp_ge X 26 dX11_apart_17 (by decide) (fun zc17 => ?_) (fun zc17 => ?_)
  · try replace zc17 := (nI_leI (a := 2) (b := rn d len len) (by omega) (by omega)).mp zc17
    refine z_aload_n X 1 dX11_apart_26 rfl ?_
    refine z_get X fl_X11_38_11 dX11_apart_27 zK8 rfl ?_
    refine z_iload_n X 0 dX11_apart_30 rfl ?_
    refine z_iconst (v := 1) X dX11_apart_31 (by decide) ?_
    refine z_isub X dX11_apart_32 ?_
    refine z_toe (y := nI (rn d len len - 1)) (pk_sub (a := rn d len len) (b := 1) (by omega)) ?_
    refine z_callV X (c_Row_at (κ := κ) (n := n) (r := (o + 55)) (k := (rn d len len)) (bt := (bt1)) (i := (nI (rn d len len - 1))) (N := (40)) (f := (g'1)) zK12 zK13 (by first | assumption | omega) (by first | assumption | omega)) mk_X6_at dX11_apart_33 wd_298 wd_299 wd_300 rfl zK12 rfl rfl rfl (Nat.le_of_ble_eq_true rfl) (Nat.le_of_ble_eq_true rfl) (Nat.le_of_ble_eq_true rfl) (by omega) (by omega) (fun q zh18 zm20 zp21 => ?_)
    obtain ⟨rfl, ze19, zn22⟩ := zp21
    subst zm20
    subst zh18
    refine z_st (st' := [.int (rowAt (rn d len len) g'1 (nI (rn d len len - 1)))]) rfl ?_
    refine z_toe (y := nI (rAt d len (rn d len len - 1))) (by (rw [rowAt, i_nI (by omega), nI_clamp (by omega), if_pos (by omega)]; exact rgOk_at hrg (by omega))) ?_
    refine z_aload_n X 1 dX11_apart_36 rfl ?_
    refine z_get X fl_X11_38_11 dX11_apart_37 zK8 rfl ?_
    refine z_iconst (v := 0) X dX11_apart_40 (by decide) ?_
    refine z_callV X (c_Row_at (κ := κ) (n := n) (r := (o + 55)) (k := (rn d len len)) (bt := (bt1)) (i := (0)) (N := (40)) (f := (g'1)) zK12 zK13 (by first | assumption | omega) (by first | assumption | omega)) mk_X6_at dX11_apart_41 wd_298 wd_299 wd_300 rfl zK12 rfl rfl rfl (Nat.le_of_ble_eq_true rfl) (Nat.le_of_ble_eq_true rfl) (Nat.le_of_ble_eq_true rfl) (by omega) (by omega) (fun q zh23 zm25 zp26 => ?_)
    obtain ⟨rfl, ze24, zn27⟩ := zp26
    subst zm25
    subst zh23
    refine z_st (st' := [.int (rowAt (rn d len len) g'1 0), .int (nI (rAt d len (rn d len len - 1)))]) rfl ?_
    refine z_toe (y := nI (rAt d len 0)) (by (rw [show (0 : Int32) = nI 0 from rfl, rowAt, i_nI (by omega), nI_clamp (by omega), if_pos (by omega)]; exact rgOk_at hrg (by omega))) ?_
    refine z_isub X dX11_apart_44 ?_
    refine z_iload_n X 0 dX11_apart_45 rfl ?_
    refine z_iconst (v := 1) X dX11_apart_46 (by decide) ?_
    refine z_isub X dX11_apart_47 ?_
    refine z_toe (y := nI (rn d len len - 1)) (pk_sub (a := rn d len len) (b := 1) (by omega)) ?_
    refine z_idiv X dX11_apart_48 (fun q => absurd ((nI_eq (a := rn d len len - 1) (b := 0) (by omega) (by omega)).mp q) (by omega)) ?_
    refine z_iret X E dX11_apart_49 (by omega) (by omega) ⟨(nI (rn d len len)), g'1, ?_, ?_, ?_, ?_, ?_, ?_, ?_⟩
    · generalize hzz : opApart d len = zz1; unfold opApart at hzz; (try simp only [ i_eq, i_lt, i_le, show (-1 : Int32).toInt = -1 by decide, show (0 : Int32).toInt = 0 by decide, show (1 : Int32).toInt = 1 by decide, show (2 : Int32).toInt = 2 by decide, show (3 : Int32).toInt = 3 by decide, show (4 : Int32).toInt = 4 by decide, show (5 : Int32).toInt = 5 by decide, show (6 : Int32).toInt = 6 by decide, show (7 : Int32).toInt = 7 by decide, show (8 : Int32).toInt = 8 by decide, show (9 : Int32).toInt = 9 by decide, show (10 : Int32).toInt = 10 by decide, show (11 : Int32).toInt = 11 by decide, show (12 : Int32).toInt = 12 by decide, show (13 : Int32).toInt = 13 by decide, show (14 : Int32).toInt = 14 by decide, show (15 : Int32).toInt = 15 by decide, show (16 : Int32).toInt = 16 by decide, show (20 : Int32).toInt = 20 by decide, show (39 : Int32).toInt = 39 by decide, show (40 : Int32).toInt = 40 by decide, show (50 : Int32).toInt = 50 by decide, show (60 : Int32).toInt = 60 by decide, show (99 : Int32).toInt = 99 by decide, show (100 : Int32).toInt = 100 by decide, show (999 : Int32).toInt = 999 by decide, show (9999 : Int32).toInt = 9999 by decide, show (99999 : Int32).toInt = 99999 by decide, show (999999 : Int32).toInt = 999999 by decide, show (9999999 : Int32).toInt = 9999999 by decide, show (-50 : Int32).toInt = -50 by decide, show (32 : Int32).toInt = 32 by decide] at *); (repeat first | rw [if_pos (by omega)] at hzz | rw [if_neg (by omega)] at hzz); subst hzz; first | rfl | exact congrArg (fun z => some (Value.int z)) (ansOf_0 _).symm
    · rfl
    · exact fun zq hzq zn0 zn1 zn2 => zl15 zq hzq zn0 zn1
    · exact zr16
    · exact zK12
    · exact zK13
    · generalize hzz : opApart d len = zz1; unfold opApart at hzz; (try simp only [ i_eq, i_lt, i_le, show (-1 : Int32).toInt = -1 by decide, show (0 : Int32).toInt = 0 by decide, show (1 : Int32).toInt = 1 by decide, show (2 : Int32).toInt = 2 by decide, show (3 : Int32).toInt = 3 by decide, show (4 : Int32).toInt = 4 by decide, show (5 : Int32).toInt = 5 by decide, show (6 : Int32).toInt = 6 by decide, show (7 : Int32).toInt = 7 by decide, show (8 : Int32).toInt = 8 by decide, show (9 : Int32).toInt = 9 by decide, show (10 : Int32).toInt = 10 by decide, show (11 : Int32).toInt = 11 by decide, show (12 : Int32).toInt = 12 by decide, show (13 : Int32).toInt = 13 by decide, show (14 : Int32).toInt = 14 by decide, show (15 : Int32).toInt = 15 by decide, show (16 : Int32).toInt = 16 by decide, show (20 : Int32).toInt = 20 by decide, show (39 : Int32).toInt = 39 by decide, show (40 : Int32).toInt = 40 by decide, show (50 : Int32).toInt = 50 by decide, show (60 : Int32).toInt = 60 by decide, show (99 : Int32).toInt = 99 by decide, show (100 : Int32).toInt = 100 by decide, show (999 : Int32).toInt = 999 by decide, show (9999 : Int32).toInt = 9999 by decide, show (99999 : Int32).toInt = 99999 by decide, show (999999 : Int32).toInt = 999999 by decide, show (9999999 : Int32).toInt = 9999999 by decide, show (-50 : Int32).toInt = -50 by decide, show (32 : Int32).toInt = 32 by decide] at *); (repeat first | rw [if_pos (by omega)] at hzz | rw [if_neg (by omega)] at hzz); subst hzz; exact zK14
  · try replace zc17 := mt (nI_leI (a := 2) (b := rn d len len) (by omega) (by omega)).mpr zc17
    refine z_aload_n X 1 dX11_apart_20 rfl ?_
    refine z_iconst (v := 2) X dX11_apart_21 (by decide) ?_
    refine z_callV X (c_fail (κ := κ) (n := n) (o := (o)) (im := (im)) (fo := (fo)) (k := (2)) zK8 zK14 (by first | assumption | omega) (by first | assumption | omega)) mk_X11_fail dX11_apart_22 wd_260 wd_262 wd_0 rfl zK8 rfl rfl rfl (Nat.le_of_ble_eq_true rfl) (Nat.le_of_ble_eq_true rfl) (Nat.le_of_ble_eq_true rfl) (by omega) (by omega) (fun q zh28 zm30 zp31 => ?_)
    obtain ⟨rfl, ze29, zn32⟩ := zp31
    subst zm30
    refine z_st (st' := [.int (lowE 2)]) rfl ?_
    have zK33 : zh28 o = some (.inr (11, [.ref (o + 1), .ref (o + 14), .ref (o + 27), .ref (o + 33), .ref (o + 42), .ref (o + 55), .ref (o + 57), .ref (o + 59), .ref (o + 61), .int im])) := by rw [ze29]; rw [va_up_ne _ _ (show o ≠ o + 61 by omega)]; exact zK8
    have zK34 : zh28 (o + 1) = some (.inr (3, [.ref (o + 1 + 1), .ref (o + 1 + 7), .ref (o + 1 + 9), .ref (o + 1 + 11), .int (d 13)])) := by rw [ze29]; rw [va_up_ne _ _ (show o + 1 ≠ o + 61 by omega)]; exact zK9
    have zK35 : zh28 (o + 2) = some (.inr (2, [.ref (o + 3), .ref (o + 4), .ref (o + 5), .ref (o + 6), .ref (o + 7), .int (nI len), .int (d 0), .int (d 2), .int (d 3), .int (nI nc), .int (d 10), .int cold, .int wind])) := by rw [ze29]; rw [va_up_ne _ _ (show o + 2 ≠ o + 61 by omega)]; exact zK10
    have zK36 : zh28 (o + 3) = arI κ 40 (win 100 40 d) := by rw [ze29]; rw [va_up_ne _ _ (show o + 3 ≠ o + 61 by omega)]; exact zK11
    have zK37 : zh28 (o + 55) = some (.inr (6, [.ref ((o + 55) + 1), .int (nI (rn d len len)), .int bt1])) := by rw [ze29]; rw [va_up_ne _ _ (show o + 55 ≠ o + 61 by omega)]; exact zK12
    have zK38 : zh28 (o + 56) = arI κ 40 g'1 := by rw [ze29]; rw [va_up_ne _ _ (show o + 56 ≠ o + 61 by omega)]; exact zK13
    have zK39 : zh28 (o + 61) = arI κ 6 (bmp fo 2) := by rw [ze29]; exact va_up_self _ _ _
    have zl40 : ∀ zq : Nat, zq < (o + 76) → zq ≠ (o + 55) → zq ≠ (o + 56) → zq ≠ (o + 61) → zh28 zq = h zq := by intro zq hzq zn0 zn1 zn2; rw [ze29, va_up_ne _ _ (show zq ≠ o + 61 by omega)]; exact zl15 zq hzq zn0 zn1
    have zr41 : Zr κ (o + 76) h zh28 := (zr16).trans (Zr.same (fun zq h1 => by rw [ze29, va_up_ne _ _ (show zq ≠ o + 61 by omega)]))
    refine z_iret X E dX11_apart_25 (by omega) (by omega) ⟨(nI (rn d len len)), g'1, ?_, ?_, ?_, ?_, ?_, ?_, ?_⟩
    · generalize hzz : opApart d len = zz1; unfold opApart at hzz; (try simp only [ i_eq, i_lt, i_le, show (-1 : Int32).toInt = -1 by decide, show (0 : Int32).toInt = 0 by decide, show (1 : Int32).toInt = 1 by decide, show (2 : Int32).toInt = 2 by decide, show (3 : Int32).toInt = 3 by decide, show (4 : Int32).toInt = 4 by decide, show (5 : Int32).toInt = 5 by decide, show (6 : Int32).toInt = 6 by decide, show (7 : Int32).toInt = 7 by decide, show (8 : Int32).toInt = 8 by decide, show (9 : Int32).toInt = 9 by decide, show (10 : Int32).toInt = 10 by decide, show (11 : Int32).toInt = 11 by decide, show (12 : Int32).toInt = 12 by decide, show (13 : Int32).toInt = 13 by decide, show (14 : Int32).toInt = 14 by decide, show (15 : Int32).toInt = 15 by decide, show (16 : Int32).toInt = 16 by decide, show (20 : Int32).toInt = 20 by decide, show (39 : Int32).toInt = 39 by decide, show (40 : Int32).toInt = 40 by decide, show (50 : Int32).toInt = 50 by decide, show (60 : Int32).toInt = 60 by decide, show (99 : Int32).toInt = 99 by decide, show (100 : Int32).toInt = 100 by decide, show (999 : Int32).toInt = 999 by decide, show (9999 : Int32).toInt = 9999 by decide, show (99999 : Int32).toInt = 99999 by decide, show (999999 : Int32).toInt = 999999 by decide, show (9999999 : Int32).toInt = 9999999 by decide, show (-50 : Int32).toInt = -50 by decide, show (32 : Int32).toInt = 32 by decide] at *); (repeat first | rw [if_pos (by omega)] at hzz | rw [if_neg (by omega)] at hzz); subst hzz; first | rfl | exact congrArg (fun z => some (Value.int z)) (ansOf_0 _).symm
    · rfl
    · exact fun zq hzq zn0 zn1 zn2 => zl40 zq hzq zn0 zn1 zn2
    · exact zr41
    · exact zK37
    · exact zK38
    · generalize hzz : opApart d len = zz1; unfold opApart at hzz; (try simp only [ i_eq, i_lt, i_le, show (-1 : Int32).toInt = -1 by decide, show (0 : Int32).toInt = 0 by decide, show (1 : Int32).toInt = 1 by decide, show (2 : Int32).toInt = 2 by decide, show (3 : Int32).toInt = 3 by decide, show (4 : Int32).toInt = 4 by decide, show (5 : Int32).toInt = 5 by decide, show (6 : Int32).toInt = 6 by decide, show (7 : Int32).toInt = 7 by decide, show (8 : Int32).toInt = 8 by decide, show (9 : Int32).toInt = 9 by decide, show (10 : Int32).toInt = 10 by decide, show (11 : Int32).toInt = 11 by decide, show (12 : Int32).toInt = 12 by decide, show (13 : Int32).toInt = 13 by decide, show (14 : Int32).toInt = 14 by decide, show (15 : Int32).toInt = 15 by decide, show (16 : Int32).toInt = 16 by decide, show (20 : Int32).toInt = 20 by decide, show (39 : Int32).toInt = 39 by decide, show (40 : Int32).toInt = 40 by decide, show (50 : Int32).toInt = 50 by decide, show (60 : Int32).toInt = 60 by decide, show (99 : Int32).toInt = 99 by decide, show (100 : Int32).toInt = 100 by decide, show (999 : Int32).toInt = 999 by decide, show (9999 : Int32).toInt = 9999 by decide, show (99999 : Int32).toInt = 99999 by decide, show (999999 : Int32).toInt = 999999 by decide, show (9999999 : Int32).toInt = 9999999 by decide, show (-50 : Int32).toInt = -50 by decide, show (32 : Int32).toInt = 32 by decide] at *); (repeat first | rw [if_pos (by omega)] at hzz | rw [if_neg (by omega)] at hzz); subst hzz; exact zK39
set_option maxHeartbeats 4000000 in
set_option maxRecDepth 100000 in
theorem p_tell {κ : Wc} {l : Launch} {h : Mm} {n : Nat} {o : Nat} {im : Int32} {d : Nat → Int32} {nw : Nat} {wt : Nat → Int32} {fo : Nat → Int32} {v : Int32} (K0 : h o = some (.inr (11, [.ref (o + 1), .ref (o + 14), .ref (o + 27), .ref (o + 33), .ref (o + 42), .ref (o + 55), .ref (o + 57), .ref (o + 59), .ref (o + 61), .int im]))) (K1 : h (o + 1) = some (.inr (3, [.ref (o + 1 + 1), .ref (o + 1 + 7), .ref (o + 1 + 9), .ref (o + 1 + 11), .int (d 13)]))) (K2 : h (o + 10) = some (.inr (6, [.ref (o + 10 + 1), .int (nI nw), .int 32]))) (K3 : h (o + 11) = arI κ 20 wt) (K4 : h (o + 61) = arI κ 6 fo) (p1 : d 15 = nI nw) (p2 : nw ≤ 20) (p3 : ∀ j, j < nw → wt j = d (70 + j)) : Con κ l yX11_tell cX11_tell 2 (some .int) 3 0 0 [.ref o, .int v] h n (fun q h' n' => ∃ wt' : Nat → Int32, q = some (.int (ansOf (opTell nw))) ∧ n' = n ∧ (∀ zq : Nat, zq < (o + 76) → zq ≠ (o + 10) → zq ≠ (o + 11) → zq ≠ (o + 61) → h' zq = h zq) ∧ Zr κ (o + 76) h h' ∧ h' (o + 10) = some (.inr (6, [.ref (o + 10 + 1), .int (dTell d nw v 15), .int 32])) ∧ h' (o + 11) = arI κ 20 wt' ∧ h' (o + 61) = arI κ 6 (bump (opTell nw) fo) ∧ (∀ j, j < (if nw = 20 then nw else nw + 1) → wt' j = dTell d nw v (70 + j))) := by
  refine Con.of mk_X11_tell (Nat.le_of_ble_eq_true rfl) (fun G hG X E => ?_)
  subst hG
  refine z_ls (ls' := [(0, .ref o), (1, .int v)]) rfl ?_
  refine z_aload_n X 0 dX11_tell_0 rfl ?_
  refine z_get X fl_X11_10_11 dX11_tell_1 K0 rfl ?_
  refine z_get X fl_X11_303_3 dX11_tell_4 K1 rfl ?_
  refine z_get X fl_X11_95_6 dX11_tell_7 K2 rfl ?_
  refine z_bipush (v := 20) X dX11_tell_10 (by decide) ?_
  refine z_icmp_lt X 21 dX11_tell_12 (by decide) (fun zc1 => ?_) (fun zc1 => ?_)
  · try replace zc1 := (nI_ltI (a := nw) (b := 20) (by omega) (by omega)).mp zc1
    refine z_aload_n X 0 dX11_tell_21 rfl ?_
    refine z_get X fl_X11_10_11 dX11_tell_22 K0 rfl ?_
    refine z_get X fl_X11_303_3 dX11_tell_25 K1 rfl ?_
    refine z_iload_n X 1 dX11_tell_28 rfl ?_
    refine z_callV X (c_Row_add (κ := κ) (n := n) (r := (o + 1 + 9)) (k := (nw)) (bt := (32)) (v := (v)) (N := (20)) (f := (wt)) K2 K3 (by first | assumption | omega) (by first | assumption | omega)) mk_X6_add dX11_tell_29 wd_500 wd_501 wd_502 rfl K2 rfl rfl rfl (Nat.le_of_ble_eq_true rfl) (Nat.le_of_ble_eq_true rfl) (Nat.le_of_ble_eq_true rfl) (by omega) (by omega) (fun q zh2 zm4 zp5 => ?_)
    obtain ⟨rfl, ze3, zn6⟩ := zp5
    subst zm4
    refine z_st (st' := []) rfl ?_
    have zK7 : zh2 o = some (.inr (11, [.ref (o + 1), .ref (o + 14), .ref (o + 27), .ref (o + 33), .ref (o + 42), .ref (o + 55), .ref (o + 57), .ref (o + 59), .ref (o + 61), .int im])) := by rw [ze3]; rw [va_up_ne _ _ (show o ≠ o + 11 by omega)]; rw [va_up_ne _ _ (show o ≠ o + 10 by omega)]; exact K0
    have zK8 : zh2 (o + 1) = some (.inr (3, [.ref (o + 1 + 1), .ref (o + 1 + 7), .ref (o + 1 + 9), .ref (o + 1 + 11), .int (d 13)])) := by rw [ze3]; rw [va_up_ne _ _ (show o + 1 ≠ o + 11 by omega)]; rw [va_up_ne _ _ (show o + 1 ≠ o + 10 by omega)]; exact K1
    have zK9 : zh2 (o + 10) = some (.inr (6, [.ref ((o + 1 + 9) + 1), .int (nI (nw + 1)), .int 32])) := by rw [ze3]; rw [va_up_ne _ _ (show o + 10 ≠ o + 11 by omega)]; exact va_up_self _ _ _
    have zK10 : zh2 (o + 11) = arI κ 20 (upd wt nw v) := by rw [ze3]; exact va_up_self _ _ _
    have zK11 : zh2 (o + 61) = arI κ 6 fo := by rw [ze3]; rw [va_up_ne _ _ (show o + 61 ≠ o + 11 by omega)]; rw [va_up_ne _ _ (show o + 61 ≠ o + 10 by omega)]; exact K4
    have zl12 : ∀ zq : Nat, zq < (o + 76) → zq ≠ (o + 10) → zq ≠ (o + 11) → zh2 zq = h zq := by intro zq hzq zn0 zn1; rw [ze3, va_up_ne _ _ (show zq ≠ o + 11 by omega), va_up_ne _ _ (show zq ≠ o + 10 by omega)]; try rfl
    have zr13 : Zr κ (o + 76) h zh2 := (Zr.refl).trans (Zr.same (fun zq h1 => by rw [ze3, va_up_ne _ _ (show zq ≠ o + 11 by omega), va_up_ne _ _ (show zq ≠ o + 10 by omega)]))
    refine z_aload_n X 0 dX11_tell_32 rfl ?_
    refine z_get X fl_X11_10_11 dX11_tell_33 zK7 rfl ?_
    refine z_get X fl_X11_303_3 dX11_tell_36 zK8 rfl ?_
    refine z_get X fl_X11_95_6 dX11_tell_39 zK9 rfl ?_
    refine z_iret X E dX11_tell_42 (by omega) (by omega) ⟨upd wt nw v, ?_, ?_, ?_, ?_, ?_, ?_, ?_, ?_⟩
    · generalize hzz : opTell nw = zz1; unfold opTell at hzz; (try simp only [ i_eq, i_lt, i_le, show (-1 : Int32).toInt = -1 by decide, show (0 : Int32).toInt = 0 by decide, show (1 : Int32).toInt = 1 by decide, show (2 : Int32).toInt = 2 by decide, show (3 : Int32).toInt = 3 by decide, show (4 : Int32).toInt = 4 by decide, show (5 : Int32).toInt = 5 by decide, show (6 : Int32).toInt = 6 by decide, show (7 : Int32).toInt = 7 by decide, show (8 : Int32).toInt = 8 by decide, show (9 : Int32).toInt = 9 by decide, show (10 : Int32).toInt = 10 by decide, show (11 : Int32).toInt = 11 by decide, show (12 : Int32).toInt = 12 by decide, show (13 : Int32).toInt = 13 by decide, show (14 : Int32).toInt = 14 by decide, show (15 : Int32).toInt = 15 by decide, show (16 : Int32).toInt = 16 by decide, show (20 : Int32).toInt = 20 by decide, show (39 : Int32).toInt = 39 by decide, show (40 : Int32).toInt = 40 by decide, show (50 : Int32).toInt = 50 by decide, show (60 : Int32).toInt = 60 by decide, show (99 : Int32).toInt = 99 by decide, show (100 : Int32).toInt = 100 by decide, show (999 : Int32).toInt = 999 by decide, show (9999 : Int32).toInt = 9999 by decide, show (99999 : Int32).toInt = 99999 by decide, show (999999 : Int32).toInt = 999999 by decide, show (9999999 : Int32).toInt = 9999999 by decide, show (-50 : Int32).toInt = -50 by decide, show (32 : Int32).toInt = 32 by decide] at *); (repeat first | rw [if_pos (by omega)] at hzz | rw [if_neg (by omega)] at hzz); subst hzz; first | rfl | exact congrArg (fun z => some (Value.int z)) (ansOf_0 _).symm
    · rfl
    · exact fun zq hzq zn0 zn1 zn2 => zl12 zq hzq zn0 zn1
    · exact zr13
    · (have hd1 : dTell d nw v 15 = nI (nw + 1) := by (unfold dTell; rw [if_neg (by omega)]; exact pk_us)); rw [hd1]; exact zK9
    · exact zK10
    · generalize hzz : opTell nw = zz1; unfold opTell at hzz; (try simp only [ i_eq, i_lt, i_le, show (-1 : Int32).toInt = -1 by decide, show (0 : Int32).toInt = 0 by decide, show (1 : Int32).toInt = 1 by decide, show (2 : Int32).toInt = 2 by decide, show (3 : Int32).toInt = 3 by decide, show (4 : Int32).toInt = 4 by decide, show (5 : Int32).toInt = 5 by decide, show (6 : Int32).toInt = 6 by decide, show (7 : Int32).toInt = 7 by decide, show (8 : Int32).toInt = 8 by decide, show (9 : Int32).toInt = 9 by decide, show (10 : Int32).toInt = 10 by decide, show (11 : Int32).toInt = 11 by decide, show (12 : Int32).toInt = 12 by decide, show (13 : Int32).toInt = 13 by decide, show (14 : Int32).toInt = 14 by decide, show (15 : Int32).toInt = 15 by decide, show (16 : Int32).toInt = 16 by decide, show (20 : Int32).toInt = 20 by decide, show (39 : Int32).toInt = 39 by decide, show (40 : Int32).toInt = 40 by decide, show (50 : Int32).toInt = 50 by decide, show (60 : Int32).toInt = 60 by decide, show (99 : Int32).toInt = 99 by decide, show (100 : Int32).toInt = 100 by decide, show (999 : Int32).toInt = 999 by decide, show (9999 : Int32).toInt = 9999 by decide, show (99999 : Int32).toInt = 99999 by decide, show (999999 : Int32).toInt = 999999 by decide, show (9999999 : Int32).toInt = 9999999 by decide, show (-50 : Int32).toInt = -50 by decide, show (32 : Int32).toInt = 32 by decide] at *); (repeat first | rw [if_pos (by omega)] at hzz | rw [if_neg (by omega)] at hzz); subst hzz; exact zK11
    · intro z hz; unfold dTell at *; rw [if_neg (by omega)] at *; (by_cases e : z = nw); (rw [e, pk_us]; exact ((pk_un (by omega)).trans pk_us).symm); rw [pk_un e]; exact (p3 z (by omega)).trans ((pk_un (by omega)).trans (pk_un (by omega))).symm
  · try replace zc1 := mt (nI_ltI (a := nw) (b := 20) (by omega) (by omega)).mpr zc1
    refine z_aload_n X 0 dX11_tell_15 rfl ?_
    refine z_iconst (v := 4) X dX11_tell_16 (by decide) ?_
    refine z_callV X (c_fail (κ := κ) (n := n) (o := (o)) (im := (im)) (fo := (fo)) (k := (4)) K0 K4 (by first | assumption | omega) (by first | assumption | omega)) mk_X11_fail dX11_tell_17 wd_260 wd_262 wd_0 rfl K0 rfl rfl rfl (Nat.le_of_ble_eq_true rfl) (Nat.le_of_ble_eq_true rfl) (Nat.le_of_ble_eq_true rfl) (by omega) (by omega) (fun q zh14 zm16 zp17 => ?_)
    obtain ⟨rfl, ze15, zn18⟩ := zp17
    subst zm16
    refine z_st (st' := [.int (lowE 4)]) rfl ?_
    have zK19 : zh14 o = some (.inr (11, [.ref (o + 1), .ref (o + 14), .ref (o + 27), .ref (o + 33), .ref (o + 42), .ref (o + 55), .ref (o + 57), .ref (o + 59), .ref (o + 61), .int im])) := by rw [ze15]; rw [va_up_ne _ _ (show o ≠ o + 61 by omega)]; exact K0
    have zK20 : zh14 (o + 1) = some (.inr (3, [.ref (o + 1 + 1), .ref (o + 1 + 7), .ref (o + 1 + 9), .ref (o + 1 + 11), .int (d 13)])) := by rw [ze15]; rw [va_up_ne _ _ (show o + 1 ≠ o + 61 by omega)]; exact K1
    have zK21 : zh14 (o + 10) = some (.inr (6, [.ref (o + 10 + 1), .int (nI nw), .int 32])) := by rw [ze15]; rw [va_up_ne _ _ (show o + 10 ≠ o + 61 by omega)]; exact K2
    have zK22 : zh14 (o + 11) = arI κ 20 wt := by rw [ze15]; rw [va_up_ne _ _ (show o + 11 ≠ o + 61 by omega)]; exact K3
    have zK23 : zh14 (o + 61) = arI κ 6 (bmp fo 4) := by rw [ze15]; exact va_up_self _ _ _
    have zl24 : ∀ zq : Nat, zq < (o + 76) → zq ≠ (o + 61) → zh14 zq = h zq := by intro zq hzq zn0; rw [ze15, va_up_ne _ _ (show zq ≠ o + 61 by omega)]; try rfl
    have zr25 : Zr κ (o + 76) h zh14 := (Zr.refl).trans (Zr.same (fun zq h1 => by rw [ze15, va_up_ne _ _ (show zq ≠ o + 61 by omega)]))
    refine z_iret X E dX11_tell_20 (by omega) (by omega) ⟨wt, ?_, ?_, ?_, ?_, ?_, ?_, ?_, ?_⟩
    · generalize hzz : opTell nw = zz1; unfold opTell at hzz; (try simp only [ i_eq, i_lt, i_le, show (-1 : Int32).toInt = -1 by decide, show (0 : Int32).toInt = 0 by decide, show (1 : Int32).toInt = 1 by decide, show (2 : Int32).toInt = 2 by decide, show (3 : Int32).toInt = 3 by decide, show (4 : Int32).toInt = 4 by decide, show (5 : Int32).toInt = 5 by decide, show (6 : Int32).toInt = 6 by decide, show (7 : Int32).toInt = 7 by decide, show (8 : Int32).toInt = 8 by decide, show (9 : Int32).toInt = 9 by decide, show (10 : Int32).toInt = 10 by decide, show (11 : Int32).toInt = 11 by decide, show (12 : Int32).toInt = 12 by decide, show (13 : Int32).toInt = 13 by decide, show (14 : Int32).toInt = 14 by decide, show (15 : Int32).toInt = 15 by decide, show (16 : Int32).toInt = 16 by decide, show (20 : Int32).toInt = 20 by decide, show (39 : Int32).toInt = 39 by decide, show (40 : Int32).toInt = 40 by decide, show (50 : Int32).toInt = 50 by decide, show (60 : Int32).toInt = 60 by decide, show (99 : Int32).toInt = 99 by decide, show (100 : Int32).toInt = 100 by decide, show (999 : Int32).toInt = 999 by decide, show (9999 : Int32).toInt = 9999 by decide, show (99999 : Int32).toInt = 99999 by decide, show (999999 : Int32).toInt = 999999 by decide, show (9999999 : Int32).toInt = 9999999 by decide, show (-50 : Int32).toInt = -50 by decide, show (32 : Int32).toInt = 32 by decide] at *); (repeat first | rw [if_pos (by omega)] at hzz | rw [if_neg (by omega)] at hzz); subst hzz; first | rfl | exact congrArg (fun z => some (Value.int z)) (ansOf_0 _).symm
    · rfl
    · exact fun zq hzq zn0 zn1 zn2 => zl24 zq hzq zn2
    · exact zr25
    · (have hd1 : dTell d nw v = d := by (unfold dTell; rw [if_pos (by omega)])); rw [hd1, p1]; exact zK21
    · exact zK22
    · generalize hzz : opTell nw = zz1; unfold opTell at hzz; (try simp only [ i_eq, i_lt, i_le, show (-1 : Int32).toInt = -1 by decide, show (0 : Int32).toInt = 0 by decide, show (1 : Int32).toInt = 1 by decide, show (2 : Int32).toInt = 2 by decide, show (3 : Int32).toInt = 3 by decide, show (4 : Int32).toInt = 4 by decide, show (5 : Int32).toInt = 5 by decide, show (6 : Int32).toInt = 6 by decide, show (7 : Int32).toInt = 7 by decide, show (8 : Int32).toInt = 8 by decide, show (9 : Int32).toInt = 9 by decide, show (10 : Int32).toInt = 10 by decide, show (11 : Int32).toInt = 11 by decide, show (12 : Int32).toInt = 12 by decide, show (13 : Int32).toInt = 13 by decide, show (14 : Int32).toInt = 14 by decide, show (15 : Int32).toInt = 15 by decide, show (16 : Int32).toInt = 16 by decide, show (20 : Int32).toInt = 20 by decide, show (39 : Int32).toInt = 39 by decide, show (40 : Int32).toInt = 40 by decide, show (50 : Int32).toInt = 50 by decide, show (60 : Int32).toInt = 60 by decide, show (99 : Int32).toInt = 99 by decide, show (100 : Int32).toInt = 100 by decide, show (999 : Int32).toInt = 999 by decide, show (9999 : Int32).toInt = 9999 by decide, show (99999 : Int32).toInt = 99999 by decide, show (999999 : Int32).toInt = 999999 by decide, show (9999999 : Int32).toInt = 9999999 by decide, show (-50 : Int32).toInt = -50 by decide, show (32 : Int32).toInt = 32 by decide] at *); (repeat first | rw [if_pos (by omega)] at hzz | rw [if_neg (by omega)] at hzz); subst hzz; exact zK23
    · (have hd1 : dTell d nw v = d := by (unfold dTell; rw [if_pos (by omega)])); rw [hd1]; intro z hz; rw [if_pos (by omega)] at hz; exact p3 z hz
