set_option maxHeartbeats 4000000 in
set_option maxRecDepth 100000 in
theorem p_feed {κ : Wc} {l : Launch} {h : Mm} {n : Nat} {o : Nat} {im : Int32} {d : Nat → Int32} {nt : Nat} {tp : Nat → Int32} {fo : Nat → Int32} {w : Int64} {v : Int32} (K0 : h o = some (.inr (11, [.ref (o + 1), .ref (o + 14), .ref (o + 27), .ref (o + 33), .ref (o + 42), .ref (o + 55), .ref (o + 57), .ref (o + 59), .ref (o + 61), .int im]))) (K1 : h (o + 1) = some (.inr (3, [.ref (o + 1 + 1), .ref (o + 1 + 7), .ref (o + 1 + 9), .ref (o + 1 + 11), .int (d 13)]))) (K2 : h (o + 8) = some (.inr (6, [.ref (o + 8 + 1), .int (nI nt), .int 32]))) (K3 : h (o + 9) = arI κ 50 tp) (K4 : h (o + 61) = arI κ 6 fo) (p1 : d 14 = nI nt) (p2 : nt ≤ 50) (p3 : ∀ j, j < nt → tp j = d (280 + j)) : Con κ l yX11_feed cX11_feed 6 (some .int) 3 0 0 [.ref o, .long w, .int v] h n (fun q h' n' => ∃ nt2' : Nat, ∃ tp' : Nat → Int32, q = some (.int (ansOf (opFeed nt v))) ∧ n' = n ∧ (∀ zq : Nat, zq < (o + 76) → zq ≠ (o + 8) → zq ≠ (o + 9) → zq ≠ (o + 61) → h' zq = h zq) ∧ Zr κ (o + 76) h h' ∧ h' (o + 8) = some (.inr (6, [.ref (o + 8 + 1), .int (nI nt2'), .int 32])) ∧ h' (o + 9) = arI κ 50 tp' ∧ h' (o + 61) = arI κ 6 (bump (opFeed nt v) fo) ∧ ((dFeed d nt w v) 14 = nI nt2' ∧ nt2' ≤ 50 ∧ ∀ j, j < nt2' → tp' j = (dFeed d nt w v) (280 + j))) := by
  refine Con.of mk_X11_feed (Nat.le_of_ble_eq_true rfl) (fun G hG X E => ?_)
  subst hG
  refine z_ls (ls' := [(0, .ref o), (1, .long w), (3, .int v)]) rfl ?_
  refine z_iload_n X 2 dX11_feed_0 rfl ?_
  refine z_iconst (v := 1) X dX11_feed_1 (by decide) ?_
  refine z_bipush (v := 8) X dX11_feed_2 (by decide) ?_
  refine z_callS X (c_within (κ := κ) (n := n) (v := (v)) (lo := (1)) (hi := (8))  ) mk_X11_within dX11_feed_4 wd_259 wd_257 rfl rfl (Nat.le_of_ble_eq_true rfl) (Nat.le_of_ble_eq_true rfl) (Nat.le_of_ble_eq_true rfl) (by omega) (by omega) (fun q zh1 zm3 zp4 => ?_)
  obtain ⟨rfl, ze2, zn5⟩ := zp4
  subst zm3
  subst zh1
  refine z_st (st' := [.int (b2i ((1 : Int32).toInt ≤ (v : Int32).toInt ∧ (v : Int32).toInt ≤ (8 : Int32).toInt))]) rfl ?_
  refine z_toe (y := b2i (1 ≤ v.toInt ∧ v.toInt ≤ 8)) (by simp only [show (1 : Int32).toInt = 1 by decide, show (8 : Int32).toInt = 8 by decide]) ?_
  refine z_if_ne X 16 dX11_feed_7 (by decide) (fun zc6 => ?_) (fun zc6 => ?_)
  · replace zc6 := b2i_t zc6
    have hvp : 1 ≤ v.toInt ∧ v.toInt ≤ 8 := by assumption
    obtain ⟨vk, hvk, rfl⟩ := ix_of (c := v) (len := 9) (by omega) (by omega)
    have hv1 : 1 ≤ vk := by (rw [i_nI (by omega)] at hvp; omega)
    have hv2 : vk ≤ 8 := by omega
    refine z_aload_n X 0 dX11_feed_16 rfl ?_
    refine z_get X fl_X11_10_11 dX11_feed_17 K0 rfl ?_
    refine z_get X fl_X11_158_3 dX11_feed_20 K1 rfl ?_
    refine z_astore (ls' := [(4, .ref (o + 1 + 7)), (0, .ref o), (1, .long w), (3, .int (nI vk))]) X dX11_feed_23 (by decide) rfl ?_
    refine z_aload X 0 dX11_feed_25 rfl ?_
    refine z_get X fl_X11_95_6 dX11_feed_27 K2 rfl ?_
    refine z_iload_n X 3 dX11_feed_30 rfl ?_
    refine z_iadd X dX11_feed_31 ?_
    refine z_toe (y := nI (nt + vk)) (nI_add (nt) (vk)) ?_
    refine z_bipush (v := 50) X dX11_feed_32 (by decide) ?_
    refine z_icmp_le X 43 dX11_feed_34 (by decide) (fun zc7 => ?_) (fun zc7 => ?_)
    · try replace zc7 := (nI_leI (a := nt + vk) (b := 50) (by omega) (by omega)).mp zc7
      refine z_iconst (v := 0) X dX11_feed_43 (by decide) ?_
      refine z_istore (ls' := [(5, .int 0), (4, .ref (o + 1 + 7)), (0, .ref o), (1, .long w), (3, .int (nI vk))]) X dX11_feed_44 (by decide) rfl ?_
      have L46 : ∀ (jj : Nat) (hh46 : Mm) (i : Nat) (tp2 : Nat → Int32), (vk - i < jj) → (∀ zq : Nat, zq < (o + 76) → zq ≠ (o + 8) → zq ≠ (o + 9) → hh46 zq = h zq) → Zr κ (o + 76) h hh46 → hh46 (o + 8) = some (.inr (6, [.ref (o + 8 + 1), .int (nI (nt + i)), .int 32])) → hh46 (o + 9) = arI κ 50 tp2 → (hi : i ≤ vk) → (ht : ∀ j, j < nt + i → tp2 j = dFd d nt w i (280 + j)) → Z κ G 6 46 [(0, .ref o), (1, .long w), (3, .int (nI vk)), (4, .ref (o + 8)), (5, .int (nI i))] [] hh46 n 0 (0) := by
        intro jj
        induction jj with
        | zero => intro hh46 i tp2 hmu; exact absurd hmu (Nat.not_lt_zero _)
        | succ jj ih46 =>
          intro hh46 i tp2 hmu zl_46 zr_46 zK8 zK9 hi ht
          have zK10 : hh46 o = some (.inr (11, [.ref (o + 1), .ref (o + 14), .ref (o + 27), .ref (o + 33), .ref (o + 42), .ref (o + 55), .ref (o + 57), .ref (o + 59), .ref (o + 61), .int im])) := (zl_46 o (by omega) (by omega) (by omega)).trans K0
          have zK11 : hh46 (o + 1) = some (.inr (3, [.ref (o + 1 + 1), .ref (o + 1 + 7), .ref (o + 1 + 9), .ref (o + 1 + 11), .int (d 13)])) := (zl_46 (o + 1) (by omega) (by omega) (by omega)).trans K1
          have zK12 : hh46 (o + 61) = arI κ 6 fo := (zl_46 (o + 61) (by omega) (by omega) (by omega)).trans K4
          refine z_iload X 4 dX11_feed_46 rfl ?_
          refine z_iload_n X 2 dX11_feed_48 rfl ?_
          refine z_icmp_ge X 75 dX11_feed_49 (by decide) (fun zc13 => ?_) (fun zc13 => ?_)
          · try replace zc13 := (nI_leI (a := vk) (b := i) (by omega) (by omega)).mp zc13
            refine z_aload X 3 dX11_feed_75 rfl ?_
            refine z_get X fl_X11_95_6 dX11_feed_77 zK8 rfl ?_
            have hiv : i = vk := by omega
            subst hiv
            refine z_iret X E dX11_feed_80 (by omega) (by omega) ⟨(nt + i), tp2, ?_, ?_, ?_, ?_, ?_, ?_, ?_, ?_⟩
            · rw [opFeed_0 hv1 hv2 (by omega)]; first | exact congrArg (fun z => some (Value.int z)) (ansOf_0 _).symm | rfl
            · rfl
            · exact fun zq hzq zn0 zn1 zn2 => zl_46 zq hzq zn0 zn1
            · exact zr_46
            · exact zK8
            · exact zK9
            · rw [opFeed_0 hv1 hv2 (by omega)]; first | (rw [bump_0]; exact zK12) | exact zK12
            · rw [dFeed_0 hv1 hv2 (by omega)]; exact ⟨dFd_14 p1 i, by omega, ht⟩
          · try replace zc13 := mt (nI_leI (a := vk) (b := i) (by omega) (by omega)).mpr zc13
            refine z_aload X 3 dX11_feed_52 rfl ?_
            refine z_lload_n X 1 dX11_feed_54 rfl ?_
            refine z_bipush (v := 8) X dX11_feed_55 (by decide) ?_
            refine z_iload X 4 dX11_feed_57 rfl ?_
            refine z_imul X dX11_feed_59 ?_
            refine z_toe (y := nI (8 * i)) (pk_mul (8) (i)) ?_
            refine z_lushr X dX11_feed_60 rfl ?_
            refine z_l2i X dX11_feed_61 rfl ?_
            refine z_sipush (v := 255) X dX11_feed_62 (by decide) ?_
            refine z_iand X dX11_feed_65 ?_
            refine z_toe (y := fdB w i) (byte_eq w (by omega)) ?_
            refine z_callV X (c_Row_add (κ := κ) (n := n) (r := (o + 8)) (k := (nt + i)) (bt := (32)) (v := (fdB w i)) (N := (50)) (f := (tp2)) zK8 zK9 (by omega) (by first | assumption | omega)) mk_X6_add dX11_feed_66 wd_500 wd_501 wd_502 rfl zK8 rfl rfl rfl (Nat.le_of_ble_eq_true rfl) (Nat.le_of_ble_eq_true rfl) (Nat.le_of_ble_eq_true rfl) (by omega) (by omega) (fun q zh14 zm16 zp17 => ?_)
            obtain ⟨rfl, ze15, zn18⟩ := zp17
            subst zm16
            refine z_st (st' := []) rfl ?_
            have zK19 : zh14 (o + 8) = some (.inr (6, [.ref ((o + 8) + 1), .int (nI ((nt + i) + 1)), .int 32])) := by rw [ze15]; rw [va_up_ne _ _ (show o + 8 ≠ o + 9 by omega)]; exact va_up_self _ _ _
            have zK20 : zh14 (o + 9) = arI κ 50 (upd tp2 (nt + i) (fdB w i)) := by rw [ze15]; exact va_up_self _ _ _
            have zK21 : zh14 o = some (.inr (11, [.ref (o + 1), .ref (o + 14), .ref (o + 27), .ref (o + 33), .ref (o + 42), .ref (o + 55), .ref (o + 57), .ref (o + 59), .ref (o + 61), .int im])) := by rw [ze15]; rw [va_up_ne _ _ (show o ≠ o + 9 by omega)]; rw [va_up_ne _ _ (show o ≠ o + 8 by omega)]; exact zK10
            have zK22 : zh14 (o + 1) = some (.inr (3, [.ref (o + 1 + 1), .ref (o + 1 + 7), .ref (o + 1 + 9), .ref (o + 1 + 11), .int (d 13)])) := by rw [ze15]; rw [va_up_ne _ _ (show o + 1 ≠ o + 9 by omega)]; rw [va_up_ne _ _ (show o + 1 ≠ o + 8 by omega)]; exact zK11
            have zK23 : zh14 (o + 61) = arI κ 6 fo := by rw [ze15]; rw [va_up_ne _ _ (show o + 61 ≠ o + 9 by omega)]; rw [va_up_ne _ _ (show o + 61 ≠ o + 8 by omega)]; exact zK12
            have zl24 : ∀ zq : Nat, zq < (o + 76) → zq ≠ (o + 8) → zq ≠ (o + 9) → zh14 zq = h zq := by intro zq hzq zn0 zn1; rw [ze15, va_up_ne _ _ (show zq ≠ o + 9 by omega), va_up_ne _ _ (show zq ≠ o + 8 by omega)]; exact zl_46 zq hzq zn0 zn1
            have zr25 : Zr κ (o + 76) h zh14 := (zr_46).trans (Zr.same (fun zq h1 => by rw [ze15, va_up_ne _ _ (show zq ≠ o + 9 by omega), va_up_ne _ _ (show zq ≠ o + 8 by omega)]))
            refine z_iinc (v := nI (i + 1)) (ls' := [(5, .int (nI (i + 1))), (0, .ref o), (1, .long w), (3, .int (nI vk)), (4, .ref (o + 8))]) X 4 dX11_feed_69 rfl (nI_1 (i)) (by decide) rfl ?_
            refine z_goto X 46 dX11_feed_72 (by decide) ?_
            refine z_sub (ls' := [(0, .ref o), (1, .long w), (3, .int (nI vk)), (4, .ref (o + 8)), (5, .int (nI (i + 1)))]) [1, 2, 3, 4, 0] rfl ?_
            exact ih46 zh14 (i + 1) (upd tp2 (nt + i) (fdB w i)) (by omega) (by exact fun zq hzq zn0 zn1 => zl24 zq hzq zn0 zn1) (zr25) (by exact zK19) (by exact zK20) (by first | assumption | rfl | omega) (by intro z hz; (by_cases e : z = nt + i); (rw [e, pk_us]; exact ((pk_un (by omega)).trans pk_us).symm); rw [pk_un e]; exact (ht z (by omega)).trans ((pk_un (by omega)).trans (pk_un (by omega))).symm)
      refine z_sub (ls' := [(0, .ref o), (1, .long w), (3, .int (nI vk)), (4, .ref (o + 1 + 7)), (5, .int 0)]) [2, 3, 4, 1, 0] rfl ?_
      exact L46 _ h 0 tp (Nat.lt_succ_self _) (by exact fun zq hzq zn0 zn1 => rfl) (Zr.refl) (by exact K2) (by exact K3) (by first | assumption | rfl | omega) (by exact p3)
    · try replace zc7 := mt (nI_leI (a := nt + vk) (b := 50) (by omega) (by omega)).mpr zc7
      refine z_aload_n X 1 dX11_feed_37 rfl ?_
      refine z_iconst (v := 4) X dX11_feed_38 (by decide) ?_
      refine z_callV X (c_fail (κ := κ) (n := n) (o := (o)) (im := (im)) (fo := (fo)) (k := (4)) K0 K4 (by first | assumption | omega) (by first | assumption | omega)) mk_X11_fail dX11_feed_39 wd_260 wd_262 wd_0 rfl K0 rfl rfl rfl (Nat.le_of_ble_eq_true rfl) (Nat.le_of_ble_eq_true rfl) (Nat.le_of_ble_eq_true rfl) (by omega) (by omega) (fun q zh26 zm28 zp29 => ?_)
      obtain ⟨rfl, ze27, zn30⟩ := zp29
      subst zm28
      refine z_st (st' := [.int (lowE 4)]) rfl ?_
      have zK31 : zh26 o = some (.inr (11, [.ref (o + 1), .ref (o + 14), .ref (o + 27), .ref (o + 33), .ref (o + 42), .ref (o + 55), .ref (o + 57), .ref (o + 59), .ref (o + 61), .int im])) := by rw [ze27]; rw [va_up_ne _ _ (show o ≠ o + 61 by omega)]; exact K0
      have zK32 : zh26 (o + 1) = some (.inr (3, [.ref (o + 1 + 1), .ref (o + 1 + 7), .ref (o + 1 + 9), .ref (o + 1 + 11), .int (d 13)])) := by rw [ze27]; rw [va_up_ne _ _ (show o + 1 ≠ o + 61 by omega)]; exact K1
      have zK33 : zh26 (o + 8) = some (.inr (6, [.ref (o + 8 + 1), .int (nI nt), .int 32])) := by rw [ze27]; rw [va_up_ne _ _ (show o + 8 ≠ o + 61 by omega)]; exact K2
      have zK34 : zh26 (o + 9) = arI κ 50 tp := by rw [ze27]; rw [va_up_ne _ _ (show o + 9 ≠ o + 61 by omega)]; exact K3
      have zK35 : zh26 (o + 61) = arI κ 6 (bmp fo 4) := by rw [ze27]; exact va_up_self _ _ _
      have zl36 : ∀ zq : Nat, zq < (o + 76) → zq ≠ (o + 61) → zh26 zq = h zq := by intro zq hzq zn0; rw [ze27, va_up_ne _ _ (show zq ≠ o + 61 by omega)]; try rfl
      have zr37 : Zr κ (o + 76) h zh26 := (Zr.refl).trans (Zr.same (fun zq h1 => by rw [ze27, va_up_ne _ _ (show zq ≠ o + 61 by omega)]))
      refine z_iret X E dX11_feed_42 (by omega) (by omega) ⟨nt, tp, ?_, ?_, ?_, ?_, ?_, ?_, ?_, ?_⟩
      · rw [opFeed_4 hv1 hv2 (by omega)]; first | exact congrArg (fun z => some (Value.int z)) (ansOf_0 _).symm | rfl
      · rfl
      · exact fun zq hzq zn0 zn1 zn2 => zl36 zq hzq zn2
      · exact zr37
      · exact zK33
      · exact zK34
      · rw [opFeed_4 hv1 hv2 (by omega)]; first | (rw [bump_0]; exact zK35) | exact zK35
      · rw [dFeed_4 hv1 hv2 (by omega)]; exact ⟨p1, p2, p3⟩
  · replace zc6 := b2i_f zc6
    refine z_aload_n X 0 dX11_feed_10 rfl ?_
    refine z_iconst (v := 1) X dX11_feed_11 (by decide) ?_
    refine z_callV X (c_fail (κ := κ) (n := n) (o := (o)) (im := (im)) (fo := (fo)) (k := (1)) K0 K4 (by first | assumption | omega) (by first | assumption | omega)) mk_X11_fail dX11_feed_12 wd_260 wd_262 wd_0 rfl K0 rfl rfl rfl (Nat.le_of_ble_eq_true rfl) (Nat.le_of_ble_eq_true rfl) (Nat.le_of_ble_eq_true rfl) (by omega) (by omega) (fun q zh38 zm40 zp41 => ?_)
    obtain ⟨rfl, ze39, zn42⟩ := zp41
    subst zm40
    refine z_st (st' := [.int (lowE 1)]) rfl ?_
    have zK43 : zh38 o = some (.inr (11, [.ref (o + 1), .ref (o + 14), .ref (o + 27), .ref (o + 33), .ref (o + 42), .ref (o + 55), .ref (o + 57), .ref (o + 59), .ref (o + 61), .int im])) := by rw [ze39]; rw [va_up_ne _ _ (show o ≠ o + 61 by omega)]; exact K0
    have zK44 : zh38 (o + 1) = some (.inr (3, [.ref (o + 1 + 1), .ref (o + 1 + 7), .ref (o + 1 + 9), .ref (o + 1 + 11), .int (d 13)])) := by rw [ze39]; rw [va_up_ne _ _ (show o + 1 ≠ o + 61 by omega)]; exact K1
    have zK45 : zh38 (o + 8) = some (.inr (6, [.ref (o + 8 + 1), .int (nI nt), .int 32])) := by rw [ze39]; rw [va_up_ne _ _ (show o + 8 ≠ o + 61 by omega)]; exact K2
    have zK46 : zh38 (o + 9) = arI κ 50 tp := by rw [ze39]; rw [va_up_ne _ _ (show o + 9 ≠ o + 61 by omega)]; exact K3
    have zK47 : zh38 (o + 61) = arI κ 6 (bmp fo 1) := by rw [ze39]; exact va_up_self _ _ _
    have zl48 : ∀ zq : Nat, zq < (o + 76) → zq ≠ (o + 61) → zh38 zq = h zq := by intro zq hzq zn0; rw [ze39, va_up_ne _ _ (show zq ≠ o + 61 by omega)]; try rfl
    have zr49 : Zr κ (o + 76) h zh38 := (Zr.refl).trans (Zr.same (fun zq h1 => by rw [ze39, va_up_ne _ _ (show zq ≠ o + 61 by omega)]))
    refine z_iret X E dX11_feed_15 (by omega) (by omega) ⟨nt, tp, ?_, ?_, ?_, ?_, ?_, ?_, ?_, ?_⟩
    · rw [(show opFeed nt v = (1, 0) from if_pos (by assumption))]; first | exact congrArg (fun z => some (Value.int z)) (ansOf_0 _).symm | rfl
    · rfl
    · exact fun zq hzq zn0 zn1 zn2 => zl48 zq hzq zn2
    · exact zr49
    · exact zK45
    · exact zK46
    · rw [(show opFeed nt v = (1, 0) from if_pos (by assumption))]; first | (rw [bump_0]; exact zK47) | exact zK47
    · (have hd1 : dFeed d nt w v = d := if_pos (by assumption)); rw [hd1]; exact ⟨p1, p2, p3⟩
theorem opLaw_0 {T : Nat → Nat → Int32} {tx : Nat → Nat} {d : Nat → Int32} {a b c : Int32} : opLaw T tx d (nI 0) a b c = (0, gvn T tx 0 a b c (d 4)) := rfl
theorem opLaw_1 {T : Nat → Nat → Int32} {tx : Nat → Nat} {d : Nat → Int32} {a b c : Int32} : opLaw T tx d (nI 1) a b c = (0, gvn T tx 1 a b c (d 6)) := rfl
theorem lt2 {k : Nat} (h : k < 2) : k = 0 ∨ k = 1 := by omega
set_option maxHeartbeats 4000000 in
set_option maxRecDepth 100000 in
theorem p_law {κ : Wc} {l : Launch} {h : Mm} {n : Nat} {o : Nat} {im : Int32} {d : Nat → Int32} {len : Nat} {nc : Nat} {cold : Int32} {wind : Int32} {ts : Nat → Option Nat} {fo : Nat → Int32} {u : Int32} {a : Int32} {b : Int32} {c : Int32} {tx : Nat → Nat} (K0 : h o = some (.inr (11, [.ref (o + 1), .ref (o + 14), .ref (o + 27), .ref (o + 33), .ref (o + 42), .ref (o + 55), .ref (o + 57), .ref (o + 59), .ref (o + 61), .int im]))) (K1 : h (o + 1) = some (.inr (3, [.ref (o + 1 + 1), .ref (o + 1 + 7), .ref (o + 1 + 9), .ref (o + 1 + 11), .int (d 13)]))) (K2 : h (o + 2) = some (.inr (2, [.ref (o + 3), .ref (o + 4), .ref (o + 5), .ref (o + 6), .ref (o + 7), .int (nI len), .int (d 0), .int (d 2), .int (d 3), .int (nI nc), .int (d 10), .int cold, .int wind]))) (K3 : h (o + 5) = arI κ 6 (win 4 6 d)) (K4 : h (o + 7) = arR κ 2 2 ts) (K5 : h (o + 61) = arI κ 6 fo) (hTs : TsO κ (o + 76) h ts (Tx d) tx) (hS : wfS d) : Con κ l yX11_law cX11_law 5 (some .int) 6 0 0 [.ref o, .int u, .int a, .int b, .int c] h n (fun q h' n' => q = some (.int (ansOf (opLaw (Tx d) tx d u a b c))) ∧ n' = n ∧ (∀ zq : Nat, zq < (o + 76) → zq ≠ (o + 61) → h' zq = h zq) ∧ Zr κ (o + 76) h h' ∧ h' (o + 61) = arI κ 6 (bump (opLaw (Tx d) tx d u a b c) fo)) := by
  refine Con.of mk_X11_law (Nat.le_of_ble_eq_true rfl) (fun G hG X E => ?_)
  subst hG
  refine z_ls (ls' := [(0, .ref o), (1, .int u), (2, .int a), (3, .int b), (4, .int c)]) rfl ?_
  refine z_iload_n X 1 dX11_law_0 rfl ?_
  refine z_iconst (v := 0) X dX11_law_1 (by decide) ?_
  refine z_iconst (v := 1) X dX11_law_2 (by decide) ?_
  refine z_callS X (c_within (κ := κ) (n := n) (v := (u)) (lo := (0)) (hi := (1))  ) mk_X11_within dX11_law_3 wd_259 wd_257 rfl rfl (Nat.le_of_ble_eq_true rfl) (Nat.le_of_ble_eq_true rfl) (Nat.le_of_ble_eq_true rfl) (by omega) (by omega) (fun q zh1 zm3 zp4 => ?_)
  obtain ⟨rfl, ze2, zn5⟩ := zp4
  subst zm3
  subst zh1
  refine z_st (st' := [.int (b2i ((0 : Int32).toInt ≤ (u : Int32).toInt ∧ (u : Int32).toInt ≤ (1 : Int32).toInt))]) rfl ?_
  refine z_toe (y := b2i (0 ≤ u.toInt ∧ u.toInt ≤ 1)) (by simp only [show (0 : Int32).toInt = 0 by decide, show (1 : Int32).toInt = 1 by decide]) ?_
  refine z_if_eq X 27 dX11_law_6 (by decide) (fun zc6 => ?_) (fun zc6 => ?_)
  · replace zc6 := b2i_f zc6
    refine z_aload_n X 0 dX11_law_27 rfl ?_
    refine z_iconst (v := 1) X dX11_law_28 (by decide) ?_
    refine z_callV X (c_fail (κ := κ) (n := n) (o := (o)) (im := (im)) (fo := (fo)) (k := (1)) K0 K5 (by first | assumption | omega) (by first | assumption | omega)) mk_X11_fail dX11_law_29 wd_260 wd_262 wd_0 rfl K0 rfl rfl rfl (Nat.le_of_ble_eq_true rfl) (Nat.le_of_ble_eq_true rfl) (Nat.le_of_ble_eq_true rfl) (by omega) (by omega) (fun q zh7 zm9 zp10 => ?_)
    obtain ⟨rfl, ze8, zn11⟩ := zp10
    subst zm9
    refine z_st (st' := [.int (lowE 1)]) rfl ?_
    have zK12 : zh7 o = some (.inr (11, [.ref (o + 1), .ref (o + 14), .ref (o + 27), .ref (o + 33), .ref (o + 42), .ref (o + 55), .ref (o + 57), .ref (o + 59), .ref (o + 61), .int im])) := by rw [ze8]; rw [va_up_ne _ _ (show o ≠ o + 61 by omega)]; exact K0
    have zK13 : zh7 (o + 1) = some (.inr (3, [.ref (o + 1 + 1), .ref (o + 1 + 7), .ref (o + 1 + 9), .ref (o + 1 + 11), .int (d 13)])) := by rw [ze8]; rw [va_up_ne _ _ (show o + 1 ≠ o + 61 by omega)]; exact K1
    have zK14 : zh7 (o + 2) = some (.inr (2, [.ref (o + 3), .ref (o + 4), .ref (o + 5), .ref (o + 6), .ref (o + 7), .int (nI len), .int (d 0), .int (d 2), .int (d 3), .int (nI nc), .int (d 10), .int cold, .int wind])) := by rw [ze8]; rw [va_up_ne _ _ (show o + 2 ≠ o + 61 by omega)]; exact K2
    have zK15 : zh7 (o + 5) = arI κ 6 (win 4 6 d) := by rw [ze8]; rw [va_up_ne _ _ (show o + 5 ≠ o + 61 by omega)]; exact K3
    have zK16 : zh7 (o + 7) = arR κ 2 2 ts := by rw [ze8]; rw [va_up_ne _ _ (show o + 7 ≠ o + 61 by omega)]; exact K4
    have zK17 : zh7 (o + 61) = arI κ 6 (bmp fo 1) := by rw [ze8]; exact va_up_self _ _ _
    have zl18 : ∀ zq : Nat, zq < (o + 76) → zq ≠ (o + 61) → zh7 zq = h zq := by intro zq hzq zn0; rw [ze8, va_up_ne _ _ (show zq ≠ o + 61 by omega)]; try rfl
    have zr19 : Zr κ (o + 76) h zh7 := (Zr.refl).trans (Zr.same (fun zq h1 => by rw [ze8, va_up_ne _ _ (show zq ≠ o + 61 by omega)]))
    refine z_iret X E dX11_law_32 (by omega) (by omega) ⟨?_, ?_, ?_, ?_, ?_⟩
    · rw [(show opLaw (Tx d) tx d u a b c = (1, 0) from if_pos (by assumption))]; first | exact congrArg (fun z => some (Value.int z)) (ansOf_0 _).symm | rfl
    · rfl
    · exact fun zq hzq zn0 => zl18 zq hzq zn0
    · exact zr19
    · rw [(show opLaw (Tx d) tx d u a b c = (1, 0) from if_pos (by assumption))]; first | (rw [bump_0]; exact zK17) | exact zK17
  · replace zc6 := b2i_t zc6
    obtain ⟨uk, huk, rfl⟩ := ix_of (c := u) (len := 2) (by omega) (by omega)
    rcases lt2 huk with rfl | rfl
    · skip
      refine z_aload_n X 0 dX11_law_9 rfl ?_
      refine z_get X fl_X11_10_11 dX11_law_10 K0 rfl ?_
      refine z_get X fl_X11_56_3 dX11_law_13 K1 rfl ?_
      refine z_iload_n X 1 dX11_law_16 rfl ?_
      refine z_iload_n X 2 dX11_law_17 rfl ?_
      refine z_iload_n X 3 dX11_law_18 rfl ?_
      refine z_iload X 4 dX11_law_19 rfl ?_
      refine z_callV X (c_given_0 (κ := κ) (n := n) (i := (o + 1 + 1)) (m := (d)) (ts := (ts)) (T := (Tx d)) (tx := (tx)) (len := (nI len)) (now := (d 0)) (dd := (d 2)) (dr := (d 3)) (cc := (nI nc)) (on := (d 10)) (cold := (cold)) (wind := (wind)) (t := (a)) (w := (b)) (c := (c)) K2 K3 K4 (by first | assumption | omega) (hTs) (hS.1) (hS.2.1)) mk_X2_given dX11_law_21 wd_591 wd_441 wd_442 rfl K2 rfl rfl rfl (Nat.le_of_ble_eq_true rfl) (Nat.le_of_ble_eq_true rfl) (Nat.le_of_ble_eq_true rfl) (by omega) (by omega) (fun q zh20 zm22 zp23 => ?_)
      obtain ⟨rfl, zn24, zf25, zr26⟩ := zp23
      subst zm22
      refine z_st (st' := [.int (gvn (Tx d) tx 0 a b c (d 4))]) rfl ?_
      have zK27 : zh20 o = some (.inr (11, [.ref (o + 1), .ref (o + 14), .ref (o + 27), .ref (o + 33), .ref (o + 42), .ref (o + 55), .ref (o + 57), .ref (o + 59), .ref (o + 61), .int im])) := (zf25 o (by omega)).trans K0
      have zK28 : zh20 (o + 1) = some (.inr (3, [.ref (o + 1 + 1), .ref (o + 1 + 7), .ref (o + 1 + 9), .ref (o + 1 + 11), .int (d 13)])) := (zf25 (o + 1) (by omega)).trans K1
      have zK29 : zh20 (o + 2) = some (.inr (2, [.ref (o + 3), .ref (o + 4), .ref (o + 5), .ref (o + 6), .ref (o + 7), .int (nI len), .int (d 0), .int (d 2), .int (d 3), .int (nI nc), .int (d 10), .int cold, .int wind])) := (zf25 (o + 2) (by omega)).trans K2
      have zK30 : zh20 (o + 5) = arI κ 6 (win 4 6 d) := (zf25 (o + 5) (by omega)).trans K3
      have zK31 : zh20 (o + 7) = arR κ 2 2 ts := (zf25 (o + 7) (by omega)).trans K4
      have zK32 : zh20 (o + 61) = arI κ 6 fo := (zf25 (o + 61) (by omega)).trans K5
      have zl33 : ∀ zq : Nat, zq < (o + 76) → zh20 zq = h zq := by intro zq hzq ; rw [zf25 zq (by omega)]; try rfl
      have zr34 : Zr κ (o + 76) h zh20 := (Zr.refl).trans zr26
      refine z_goto X 32 dX11_law_24 (by decide) ?_
      refine z_iret X E dX11_law_32 (by omega) (by omega) ⟨?_, ?_, ?_, ?_, ?_⟩
      · rw [opLaw_0 (T := Tx d) (tx := tx) (d := d)]; first | exact congrArg (fun z => some (Value.int z)) (ansOf_0 _).symm | rfl
      · rfl
      · exact fun zq hzq zn0 => zl33 zq hzq 
      · exact zr34
      · rw [opLaw_0 (T := Tx d) (tx := tx) (d := d)]; first | (rw [bump_0]; exact zK32) | exact zK32
    · skip
      refine z_aload_n X 0 dX11_law_9 rfl ?_
      refine z_get X fl_X11_10_11 dX11_law_10 K0 rfl ?_
      refine z_get X fl_X11_56_3 dX11_law_13 K1 rfl ?_
      refine z_iload_n X 1 dX11_law_16 rfl ?_
      refine z_iload_n X 2 dX11_law_17 rfl ?_
      refine z_iload_n X 3 dX11_law_18 rfl ?_
      refine z_iload X 4 dX11_law_19 rfl ?_
      refine z_callV X (c_given_1 (κ := κ) (n := n) (i := (o + 1 + 1)) (m := (d)) (ts := (ts)) (T := (Tx d)) (tx := (tx)) (len := (nI len)) (now := (d 0)) (dd := (d 2)) (dr := (d 3)) (cc := (nI nc)) (on := (d 10)) (cold := (cold)) (wind := (wind)) (t := (a)) (w := (b)) (c := (c)) K2 K3 K4 (by first | assumption | omega) (hTs) (hS.2.2.2.2.1) (hS.2.2.2.2.2)) mk_X2_given dX11_law_21 wd_591 wd_441 wd_442 rfl K2 rfl rfl rfl (Nat.le_of_ble_eq_true rfl) (Nat.le_of_ble_eq_true rfl) (Nat.le_of_ble_eq_true rfl) (by omega) (by omega) (fun q zh35 zm37 zp38 => ?_)
      obtain ⟨rfl, zn39, zf40, zr41⟩ := zp38
      subst zm37
      refine z_st (st' := [.int (gvn (Tx d) tx 1 a b c (d 6))]) rfl ?_
      have zK42 : zh35 o = some (.inr (11, [.ref (o + 1), .ref (o + 14), .ref (o + 27), .ref (o + 33), .ref (o + 42), .ref (o + 55), .ref (o + 57), .ref (o + 59), .ref (o + 61), .int im])) := (zf40 o (by omega)).trans K0
      have zK43 : zh35 (o + 1) = some (.inr (3, [.ref (o + 1 + 1), .ref (o + 1 + 7), .ref (o + 1 + 9), .ref (o + 1 + 11), .int (d 13)])) := (zf40 (o + 1) (by omega)).trans K1
      have zK44 : zh35 (o + 2) = some (.inr (2, [.ref (o + 3), .ref (o + 4), .ref (o + 5), .ref (o + 6), .ref (o + 7), .int (nI len), .int (d 0), .int (d 2), .int (d 3), .int (nI nc), .int (d 10), .int cold, .int wind])) := (zf40 (o + 2) (by omega)).trans K2
      have zK45 : zh35 (o + 5) = arI κ 6 (win 4 6 d) := (zf40 (o + 5) (by omega)).trans K3
      have zK46 : zh35 (o + 7) = arR κ 2 2 ts := (zf40 (o + 7) (by omega)).trans K4
      have zK47 : zh35 (o + 61) = arI κ 6 fo := (zf40 (o + 61) (by omega)).trans K5
      have zl48 : ∀ zq : Nat, zq < (o + 76) → zh35 zq = h zq := by intro zq hzq ; rw [zf40 zq (by omega)]; try rfl
      have zr49 : Zr κ (o + 76) h zh35 := (Zr.refl).trans zr41
      refine z_goto X 32 dX11_law_24 (by decide) ?_
      refine z_iret X E dX11_law_32 (by omega) (by omega) ⟨?_, ?_, ?_, ?_, ?_⟩
      · rw [opLaw_1 (T := Tx d) (tx := tx) (d := d)]; first | exact congrArg (fun z => some (Value.int z)) (ansOf_0 _).symm | rfl
      · rfl
      · exact fun zq hzq zn0 => zl48 zq hzq 
      · exact zr49
      · rw [opLaw_1 (T := Tx d) (tx := tx) (d := d)]; first | (rw [bump_0]; exact zK47) | exact zK47
theorem opFreezes_0 {T : Nat → Nat → Int32} {tx : Nat → Nat} {d : Nat → Int32} {len nc ck bk : Nat} {w s : Int32} (h1 : ck < nc) (h2 : nc ≤ 6) (h3 : bk < len) (h4 : len ≤ 40) (hw : 0 ≤ w.toInt ∧ w.toInt ≤ 999999) (hs : 0 ≤ s.toInt ∧ s.toInt ≤ 999999) : opFreezes T tx d len nc (nI ck) (nI bk) w s = (0, frz d len ck bk w s (cldR T tx d)) := by
  have e1 := i_nI (n := ck) (by omega)
  have e2 := i_nI (n := bk) (by omega)
  unfold opFreezes
  rw [if_neg (by omega), nI_clamp (by omega), nI_clamp (by omega)]
theorem opFreezes_e {T : Nat → Nat → Int32} {tx : Nat → Nat} {d : Nat → Int32} {len nc : Nat} {c b w s : Int32} (h : ¬ (0 ≤ c.toInt ∧ c.toInt ≤ ((nc : Nat) : Int) - 1 ∧ 0 ≤ b.toInt ∧ b.toInt ≤ ((len : Nat) : Int) - 1 ∧ 0 ≤ w.toInt ∧ w.toInt ≤ 999999 ∧ 0 ≤ s.toInt ∧ s.toInt ≤ 999999)) : opFreezes T tx d len nc c b w s = (1, 0) := if_pos h
set_option maxHeartbeats 4000000 in
set_option maxRecDepth 100000 in
theorem p_freezes {κ : Wc} {l : Launch} {h : Mm} {n : Nat} {o : Nat} {im : Int32} {d : Nat → Int32} {len : Nat} {nc : Nat} {cold : Int32} {wind : Int32} {cs : Nat → Option Nat} {ts : Nat → Option Nat} {fo : Nat → Int32} {c : Int32} {b : Int32} {w : Int32} {s : Int32} {tx : Nat → Nat} (K0 : h o = some (.inr (11, [.ref (o + 1), .ref (o + 14), .ref (o + 27), .ref (o + 33), .ref (o + 42), .ref (o + 55), .ref (o + 57), .ref (o + 59), .ref (o + 61), .int im]))) (K1 : h (o + 1) = some (.inr (3, [.ref (o + 1 + 1), .ref (o + 1 + 7), .ref (o + 1 + 9), .ref (o + 1 + 11), .int (d 13)]))) (K2 : h (o + 2) = some (.inr (2, [.ref (o + 3), .ref (o + 4), .ref (o + 5), .ref (o + 6), .ref (o + 7), .int (nI len), .int (d 0), .int (d 2), .int (d 3), .int (nI nc), .int (d 10), .int cold, .int wind]))) (K3 : h (o + 3) = arI κ 40 (win 100 40 d)) (K4 : h (o + 5) = arI κ 6 (win 4 6 d)) (K5 : h (o + 6) = arR κ 1 6 cs) (K6 : h (o + 7) = arR κ 2 2 ts) (K7 : h (o + 61) = arI κ 6 fo) (q1 : d 1 = nI len) (q2 : 1 ≤ len) (q3 : len ≤ 40) (q4 : d 11 = nI nc) (q5 : nc ≤ 6) (hTs : TsO κ (o + 76) h ts (Tx d) tx) (hCs : CsO (o + 76) h cs d nc) (hS : wfS d) : Con κ l yX11_freezes cX11_freezes 7 (some .int) 8 0 0 [.ref o, .int c, .int b, .int w, .int s] h n (fun q h' n' => ∃ cold' : Int32, ∃ wind' : Int32, q = some (.int (ansOf (opFreezes (Tx d) tx d len nc c b w s))) ∧ n' = n ∧ (∀ zq : Nat, zq < (o + 76) → zq ≠ (o + 2) → zq ≠ (o + 61) → h' zq = h zq) ∧ Zr κ (o + 76) h h' ∧ h' (o + 2) = some (.inr (2, [.ref (o + 3), .ref (o + 4), .ref (o + 5), .ref (o + 6), .ref (o + 7), .int (nI len), .int (d 0), .int (d 2), .int (d 3), .int (nI nc), .int (d 10), .int cold', .int wind'])) ∧ h' (o + 61) = arI κ 6 (bump (opFreezes (Tx d) tx d len nc c b w s) fo)) := by
  refine Con.of mk_X11_freezes (Nat.le_of_ble_eq_true rfl) (fun G hG X E => ?_)
  subst hG
  refine z_ls (ls' := [(0, .ref o), (1, .int c), (2, .int b), (3, .int w), (4, .int s)]) rfl ?_
  refine z_aload_n X 0 dX11_freezes_0 rfl ?_
  refine z_iload_n X 1 dX11_freezes_1 rfl ?_
  by_cases hin : 0 ≤ c.toInt ∧ c.toInt ≤ ((nc : Nat) : Int) - 1
  · skip
    obtain ⟨ck, hck, rfl⟩ := ix_of (c := c) (len := nc) (by omega) (by omega)
    obtain ⟨a, kd, ha1, ha2, ha3, ha4, ha5⟩ := hCs ck (by omega)
    refine z_callV X (c_causeAt_s (κ := κ) (n := n) (o := (o)) (im := (im)) (len := (len)) (nc := (nc)) (cold := (cold)) (wind := (wind)) (cs := (cs)) (ck := (ck)) (a := (a)) K0 K1 K2 K5 (by first | assumption | omega) (by first | assumption | omega) (ha2)) mk_X11_causeAt dX11_freezes_2 wd_413 wd_415 wd_1 rfl K0 rfl rfl rfl (Nat.le_of_ble_eq_true rfl) (Nat.le_of_ble_eq_true rfl) (Nat.le_of_ble_eq_true rfl) (by omega) (by omega) (fun q zh1 zm3 zp4 => ?_)
    obtain ⟨rfl, ze2, zn5⟩ := zp4
    subst zm3
    subst zh1
    refine z_st (st' := [.ref a]) rfl ?_
    refine z_astore (ls' := [(5, .ref a), (0, .ref o), (1, .int (nI ck)), (2, .int b), (3, .int w), (4, .int s)]) X dX11_freezes_5 (by decide) rfl ?_
    refine z_aload_n X 1 dX11_freezes_7 rfl ?_
    refine z_get X fl_X11_10_11 dX11_freezes_8 K0 rfl ?_
    refine z_get X fl_X11_56_3 dX11_freezes_11 K1 rfl ?_
    refine z_astore (ls' := [(6, .ref (o + 1 + 1)), (5, .ref a), (0, .ref o), (1, .int (nI ck)), (2, .int b), (3, .int w), (4, .int s)]) X dX11_freezes_14 (by decide) rfl ?_
    refine z_aload X 1 dX11_freezes_16 rfl ?_
    refine z_ifnull X dX11_freezes_18 ?_
    refine z_aload X 0 dX11_freezes_21 rfl ?_
    refine z_iload_n X 4 dX11_freezes_23 rfl ?_
    refine z_callV X (c_has (κ := κ) (n := n) (i := (o + 1 + 1)) (len := (len)) (now := (d 0)) (dd := (d 2)) (dr := (d 3)) (cc := (nI nc)) (on := (d 10)) (cold := (cold)) (wind := (wind)) (c := (b)) K2 (by first | assumption | omega)) mk_X2_has dX11_freezes_24 wd_252 wd_253 wd_254 rfl K2 rfl rfl rfl (Nat.le_of_ble_eq_true rfl) (Nat.le_of_ble_eq_true rfl) (Nat.le_of_ble_eq_true rfl) (by omega) (by omega) (fun q zh6 zm8 zp9 => ?_)
    obtain ⟨rfl, ze7, zn10⟩ := zp9
    subst zm8
    subst zh6
    refine z_st (st' := [.int (b2i (0 ≤ (b : Int32).toInt ∧ (b : Int32).toInt ≤ ((len : Nat) : Int) - 1))]) rfl ?_
    refine z_if_eq X 51 dX11_freezes_27 (by decide) (fun zc11 => ?_) (fun zc11 => ?_)
    · replace zc11 := b2i_f zc11
      refine z_aload_n X 2 dX11_freezes_51 rfl ?_
      refine z_iconst (v := 1) X dX11_freezes_52 (by decide) ?_
      refine z_callV X (c_fail (κ := κ) (n := n) (o := (o)) (im := (im)) (fo := (fo)) (k := (1)) K0 K7 (by first | assumption | omega) (by first | assumption | omega)) mk_X11_fail dX11_freezes_53 wd_260 wd_262 wd_0 rfl K0 rfl rfl rfl (Nat.le_of_ble_eq_true rfl) (Nat.le_of_ble_eq_true rfl) (Nat.le_of_ble_eq_true rfl) (by omega) (by omega) (fun q zh12 zm14 zp15 => ?_)
      obtain ⟨rfl, ze13, zn16⟩ := zp15
      subst zm14
      refine z_st (st' := [.int (lowE 1)]) rfl ?_
      have zK17 : zh12 o = some (.inr (11, [.ref (o + 1), .ref (o + 14), .ref (o + 27), .ref (o + 33), .ref (o + 42), .ref (o + 55), .ref (o + 57), .ref (o + 59), .ref (o + 61), .int im])) := by rw [ze13]; rw [va_up_ne _ _ (show o ≠ o + 61 by omega)]; exact K0
      have zK18 : zh12 (o + 1) = some (.inr (3, [.ref (o + 1 + 1), .ref (o + 1 + 7), .ref (o + 1 + 9), .ref (o + 1 + 11), .int (d 13)])) := by rw [ze13]; rw [va_up_ne _ _ (show o + 1 ≠ o + 61 by omega)]; exact K1
      have zK19 : zh12 (o + 2) = some (.inr (2, [.ref (o + 3), .ref (o + 4), .ref (o + 5), .ref (o + 6), .ref (o + 7), .int (nI len), .int (d 0), .int (d 2), .int (d 3), .int (nI nc), .int (d 10), .int cold, .int wind])) := by rw [ze13]; rw [va_up_ne _ _ (show o + 2 ≠ o + 61 by omega)]; exact K2
      have zK20 : zh12 (o + 3) = arI κ 40 (win 100 40 d) := by rw [ze13]; rw [va_up_ne _ _ (show o + 3 ≠ o + 61 by omega)]; exact K3
      have zK21 : zh12 (o + 5) = arI κ 6 (win 4 6 d) := by rw [ze13]; rw [va_up_ne _ _ (show o + 5 ≠ o + 61 by omega)]; exact K4
      have zK22 : zh12 (o + 6) = arR κ 1 6 cs := by rw [ze13]; rw [va_up_ne _ _ (show o + 6 ≠ o + 61 by omega)]; exact K5
      have zK23 : zh12 (o + 7) = arR κ 2 2 ts := by rw [ze13]; rw [va_up_ne _ _ (show o + 7 ≠ o + 61 by omega)]; exact K6
      have zK24 : zh12 (o + 61) = arI κ 6 (bmp fo 1) := by rw [ze13]; exact va_up_self _ _ _
      have zl25 : ∀ zq : Nat, zq < (o + 76) → zq ≠ (o + 61) → zh12 zq = h zq := by intro zq hzq zn0; rw [ze13, va_up_ne _ _ (show zq ≠ o + 61 by omega)]; try rfl
      have zr26 : Zr κ (o + 76) h zh12 := (Zr.refl).trans (Zr.same (fun zq h1 => by rw [ze13, va_up_ne _ _ (show zq ≠ o + 61 by omega)]))
      refine z_iret X E dX11_freezes_56 (by omega) (by omega) ⟨cold, wind, ?_, ?_, ?_, ?_, ?_, ?_⟩
      · rw [opFreezes_e (T := Tx d) (tx := tx) (d := d) (by omega)]; first | exact congrArg (fun z => some (Value.int z)) (ansOf_0 _).symm | rfl
      · rfl
      · exact fun zq hzq zn0 zn1 => zl25 zq hzq zn1
      · exact zr26
      · exact zK19
      · rw [opFreezes_e (T := Tx d) (tx := tx) (d := d) (by omega)]; first | (rw [bump_0]; exact zK24) | exact zK24
    · replace zc11 := b2i_t zc11
      refine z_iload_n X 5 dX11_freezes_30 rfl ?_
      refine z_iconst (v := 0) X dX11_freezes_31 (by decide) ?_
      refine z_ldc X dX11_freezes_32 wd_283 ?_
      refine z_callS X (c_within (κ := κ) (n := n) (v := (w)) (lo := (0)) (hi := (999999))  ) mk_X11_within dX11_freezes_34 wd_259 wd_257 rfl rfl (Nat.le_of_ble_eq_true rfl) (Nat.le_of_ble_eq_true rfl) (Nat.le_of_ble_eq_true rfl) (by omega) (by omega) (fun q zh27 zm29 zp30 => ?_)
      obtain ⟨rfl, ze28, zn31⟩ := zp30
      subst zm29
      subst zh27
      refine z_st (st' := [.int (b2i ((0 : Int32).toInt ≤ (w : Int32).toInt ∧ (w : Int32).toInt ≤ (999999 : Int32).toInt))]) rfl ?_
      refine z_toe (y := b2i (0 ≤ w.toInt ∧ w.toInt ≤ 999999)) (by simp only [show (0 : Int32).toInt = 0 by decide, show (999999 : Int32).toInt = 999999 by decide]) ?_
      refine z_if_eq X 51 dX11_freezes_37 (by decide) (fun zc32 => ?_) (fun zc32 => ?_)
      · replace zc32 := b2i_f zc32
        refine z_aload_n X 2 dX11_freezes_51 rfl ?_
        refine z_iconst (v := 1) X dX11_freezes_52 (by decide) ?_
        refine z_callV X (c_fail (κ := κ) (n := n) (o := (o)) (im := (im)) (fo := (fo)) (k := (1)) K0 K7 (by first | assumption | omega) (by first | assumption | omega)) mk_X11_fail dX11_freezes_53 wd_260 wd_262 wd_0 rfl K0 rfl rfl rfl (Nat.le_of_ble_eq_true rfl) (Nat.le_of_ble_eq_true rfl) (Nat.le_of_ble_eq_true rfl) (by omega) (by omega) (fun q zh33 zm35 zp36 => ?_)
        obtain ⟨rfl, ze34, zn37⟩ := zp36
        subst zm35
        refine z_st (st' := [.int (lowE 1)]) rfl ?_
        have zK38 : zh33 o = some (.inr (11, [.ref (o + 1), .ref (o + 14), .ref (o + 27), .ref (o + 33), .ref (o + 42), .ref (o + 55), .ref (o + 57), .ref (o + 59), .ref (o + 61), .int im])) := by rw [ze34]; rw [va_up_ne _ _ (show o ≠ o + 61 by omega)]; exact K0
        have zK39 : zh33 (o + 1) = some (.inr (3, [.ref (o + 1 + 1), .ref (o + 1 + 7), .ref (o + 1 + 9), .ref (o + 1 + 11), .int (d 13)])) := by rw [ze34]; rw [va_up_ne _ _ (show o + 1 ≠ o + 61 by omega)]; exact K1
        have zK40 : zh33 (o + 2) = some (.inr (2, [.ref (o + 3), .ref (o + 4), .ref (o + 5), .ref (o + 6), .ref (o + 7), .int (nI len), .int (d 0), .int (d 2), .int (d 3), .int (nI nc), .int (d 10), .int cold, .int wind])) := by rw [ze34]; rw [va_up_ne _ _ (show o + 2 ≠ o + 61 by omega)]; exact K2
        have zK41 : zh33 (o + 3) = arI κ 40 (win 100 40 d) := by rw [ze34]; rw [va_up_ne _ _ (show o + 3 ≠ o + 61 by omega)]; exact K3
        have zK42 : zh33 (o + 5) = arI κ 6 (win 4 6 d) := by rw [ze34]; rw [va_up_ne _ _ (show o + 5 ≠ o + 61 by omega)]; exact K4
        have zK43 : zh33 (o + 6) = arR κ 1 6 cs := by rw [ze34]; rw [va_up_ne _ _ (show o + 6 ≠ o + 61 by omega)]; exact K5
        have zK44 : zh33 (o + 7) = arR κ 2 2 ts := by rw [ze34]; rw [va_up_ne _ _ (show o + 7 ≠ o + 61 by omega)]; exact K6
        have zK45 : zh33 (o + 61) = arI κ 6 (bmp fo 1) := by rw [ze34]; exact va_up_self _ _ _
        have zl46 : ∀ zq : Nat, zq < (o + 76) → zq ≠ (o + 61) → zh33 zq = h zq := by intro zq hzq zn0; rw [ze34, va_up_ne _ _ (show zq ≠ o + 61 by omega)]; try rfl
        have zr47 : Zr κ (o + 76) h zh33 := (Zr.refl).trans (Zr.same (fun zq h1 => by rw [ze34, va_up_ne _ _ (show zq ≠ o + 61 by omega)]))
        refine z_iret X E dX11_freezes_56 (by omega) (by omega) ⟨cold, wind, ?_, ?_, ?_, ?_, ?_, ?_⟩
        · rw [opFreezes_e (T := Tx d) (tx := tx) (d := d) (by omega)]; first | exact congrArg (fun z => some (Value.int z)) (ansOf_0 _).symm | rfl
        · rfl
        · exact fun zq hzq zn0 zn1 => zl46 zq hzq zn1
        · exact zr47
        · exact zK40
        · rw [opFreezes_e (T := Tx d) (tx := tx) (d := d) (by omega)]; first | (rw [bump_0]; exact zK45) | exact zK45
      · replace zc32 := b2i_t zc32
        refine z_iload X 6 dX11_freezes_40 rfl ?_
        refine z_iconst (v := 0) X dX11_freezes_42 (by decide) ?_
        refine z_ldc X dX11_freezes_43 wd_283 ?_
        refine z_callS X (c_within (κ := κ) (n := n) (v := (s)) (lo := (0)) (hi := (999999))  ) mk_X11_within dX11_freezes_45 wd_259 wd_257 rfl rfl (Nat.le_of_ble_eq_true rfl) (Nat.le_of_ble_eq_true rfl) (Nat.le_of_ble_eq_true rfl) (by omega) (by omega) (fun q zh48 zm50 zp51 => ?_)
        obtain ⟨rfl, ze49, zn52⟩ := zp51
        subst zm50
        subst zh48
        refine z_st (st' := [.int (b2i ((0 : Int32).toInt ≤ (s : Int32).toInt ∧ (s : Int32).toInt ≤ (999999 : Int32).toInt))]) rfl ?_
        refine z_toe (y := b2i (0 ≤ s.toInt ∧ s.toInt ≤ 999999)) (by simp only [show (0 : Int32).toInt = 0 by decide, show (999999 : Int32).toInt = 999999 by decide]) ?_
        refine z_if_ne X 57 dX11_freezes_48 (by decide) (fun zc53 => ?_) (fun zc53 => ?_)
        · replace zc53 := b2i_t zc53
          obtain ⟨bk, hbk, rfl⟩ := ix_of (c := b) (len := len) (by omega) (by omega)
          refine z_aload X 0 dX11_freezes_57 rfl ?_
          refine z_aload X 0 dX11_freezes_59 rfl ?_
          refine z_get X fl_X11_114_2 dX11_freezes_61 K2 rfl ?_
          refine z_iconst (v := 3) X dX11_freezes_64 (by decide) ?_
          refine z_iald2 (v := d 7) X dX11_freezes_65 K4 (vp_in_nI (n := 3) (by omega) (by omega)) ((congrArg (win 4 6 d) (nI_clamp (n := 3) (by omega))).trans (win_at (k := 3) (by omega))) ?_
          refine z_callV X (c_feel (κ := κ) (n := n) (i := (o + 1 + 1)) (m := (d)) (ts := (ts)) (T := (Tx d)) (tx := (tx)) (s7 := (d 7)) (w := (d 7)) (len := (nI len)) (now := (d 0)) (dd := (d 2)) (dr := (d 3)) (cc := (nI nc)) (on := (d 10)) (cold := (cold)) (wind := (wind)) K2 ((K4).trans (congrArg (arI κ 6) (win_self (m := d) (show 3 < 6 by omega)).symm)) K6 (by first | assumption | omega) (hTs) (hS) (rfl)) mk_X2_feel dX11_freezes_66 wd_436 wd_437 wd_438 rfl K2 rfl rfl rfl (Nat.le_of_ble_eq_true rfl) (Nat.le_of_ble_eq_true rfl) (Nat.le_of_ble_eq_true rfl) (by omega) (by omega) (fun q zh54 zm56 zp57 => ?_)
          obtain ⟨rfl, zn58, zf59, zr60, zK61⟩ := zp57
          subst zm56
          refine z_st (st' := []) rfl ?_
          have zK62 : zh54 o = some (.inr (11, [.ref (o + 1), .ref (o + 14), .ref (o + 27), .ref (o + 33), .ref (o + 42), .ref (o + 55), .ref (o + 57), .ref (o + 59), .ref (o + 61), .int im])) := (zf59 o (by omega) (by omega)).trans K0
          have zK63 : zh54 (o + 1) = some (.inr (3, [.ref (o + 1 + 1), .ref (o + 1 + 7), .ref (o + 1 + 9), .ref (o + 1 + 11), .int (d 13)])) := (zf59 (o + 1) (by omega) (by omega)).trans K1
          have zK64 : zh54 (o + 3) = arI κ 40 (win 100 40 d) := (zf59 (o + 3) (by omega) (by omega)).trans K3
          have zK65 : zh54 (o + 5) = arI κ 6 (win 4 6 d) := (zf59 (o + 5) (by omega) (by omega)).trans K4
          have zK66 : zh54 (o + 6) = arR κ 1 6 cs := (zf59 (o + 6) (by omega) (by omega)).trans K5
          have zK67 : zh54 (o + 7) = arR κ 2 2 ts := (zf59 (o + 7) (by omega) (by omega)).trans K6
          have zK68 : zh54 (o + 61) = arI κ 6 fo := (zf59 (o + 61) (by omega) (by omega)).trans K7
          have zl69 : ∀ zq : Nat, zq < (o + 76) → zq ≠ (o + 2) → zh54 zq = h zq := by intro zq hzq zn0; rw [zf59 zq (by omega) (by omega)]; try rfl
          have zr70 : Zr κ (o + 76) h zh54 := (Zr.refl).trans zr60
          rcases lt7 ha3 with rfl | rfl | rfl | rfl | rfl | rfl | rfl
          · skip
            have zK71 : zh54 a = some (.inr (0, [.int (nI 0), .int (nI ck), .int (d (20 + 2 * ck + 1))])) := zr70.1 a _ ha1 ha5 (show (0 : Nat) ≠ 9 by decide)
            refine z_aload X 1 dX11_freezes_69 rfl ?_
            refine z_aload X 0 dX11_freezes_71 rfl ?_
            refine z_iload_n X 4 dX11_freezes_73 rfl ?_
            refine z_iload_n X 5 dX11_freezes_74 rfl ?_
            refine z_iload X 6 dX11_freezes_75 rfl ?_
            refine z_callV X (k_freeze_0_0 (κ := κ) (n := n) (i := (o + 1 + 1)) (len := (len)) (m := (d)) (now := (d 0)) (dd := (d 2)) (dr := (d 3)) (cc := (nI nc)) (on := (d 10)) (cold := (cldR (Tx d) tx d)) (wind := (d 7)) (a := (a)) (kd := (nI 0)) (nb := (nI ck)) (em := (d (20 + 2 * ck + 1))) (c := (bk)) (w := (w)) (s := (s)) zK71 zK61 zK64 (by first | assumption | omega) (by first | assumption | omega)) mk_X0_freeze dX11_freezes_77 wd_466 wd_467 wd_468 rfl zK71 rfl rfl rfl (Nat.le_of_ble_eq_true rfl) (Nat.le_of_ble_eq_true rfl) (Nat.le_of_ble_eq_true rfl) (by omega) (by omega) (fun q zh72 zm74 zp75 => ?_)
            obtain ⟨rfl, ze73, zn76⟩ := zp75
            subst zm74
            subst zh72
            refine z_st (st' := [.int (frK 0 (d (20 + 2 * ck + 1)) (cldR (Tx d) tx d) (d 7) (d 0) d len bk w s)]) rfl ?_
            refine z_iret X E dX11_freezes_80 (by omega) (by omega) ⟨(cldR (Tx d) tx d), ((d 7)), ?_, ?_, ?_, ?_, ?_, ?_⟩
            · rw [(opFreezes_0 (T := Tx d) (tx := tx) (d := d) (s := s) hck q5 hbk q3 (by assumption) (by assumption)).trans (congrArg (fun z => (0, z)) (frz_K ha4 (by decide)))]; first | exact congrArg (fun z => some (Value.int z)) (ansOf_0 _).symm | rfl
            · rfl
            · exact fun zq hzq zn0 zn1 => zl69 zq hzq zn0
            · exact zr70
            · exact zK61
            · rw [(opFreezes_0 (T := Tx d) (tx := tx) (d := d) (s := s) hck q5 hbk q3 (by assumption) (by assumption)).trans (congrArg (fun z => (0, z)) (frz_K ha4 (by decide)))]; first | (rw [bump_0]; exact zK68) | exact zK68
          · skip
            have zK77 : zh54 a = some (.inr (10, [.int (nI 1), .int (nI ck), .int (d (20 + 2 * ck + 1))])) := zr70.1 a _ ha1 ha5 (show (10 : Nat) ≠ 9 by decide)
            refine z_aload X 1 dX11_freezes_69 rfl ?_
            refine z_aload X 0 dX11_freezes_71 rfl ?_
            refine z_iload_n X 4 dX11_freezes_73 rfl ?_
            refine z_iload_n X 5 dX11_freezes_74 rfl ?_
            refine z_iload X 6 dX11_freezes_75 rfl ?_
            refine z_callU X (k_freeze_1_1 (κ := κ) (n := n) (i := (o + 1 + 1)) (len := (len)) (m := (d)) (now := (d 0)) (dd := (d 2)) (dr := (d 3)) (cc := (nI nc)) (on := (d 10)) (cold := (cldR (Tx d) tx d)) (wind := (d 7)) (a := (a)) (kd := (nI 1)) (nb := (nI ck)) (em := (d (20 + 2 * ck + 1))) (c := (bk)) (w := (w)) (s := (s)) zK77 zK61 zK64 (by first | assumption | omega) (by first | assumption | omega)) mk_X10_freeze dX11_freezes_77 wd_466 wd_469 wd_467 wd_495 wd_474 wd_494 (by decide) rfl zK77 rfl rfl rfl (Nat.le_of_ble_eq_true rfl) (Nat.le_of_ble_eq_true rfl) (Nat.le_of_ble_eq_true rfl) (by omega) (by omega) (fun q zh78 zm80 zp81 => ?_)
            obtain ⟨rfl, ze79, zn82⟩ := zp81
            subst zm80
            subst zh78
            refine z_st (st' := [.int (frK 1 (d (20 + 2 * ck + 1)) (cldR (Tx d) tx d) (d 7) (d 0) d len bk w s)]) rfl ?_
            refine z_iret X E dX11_freezes_80 (by omega) (by omega) ⟨(cldR (Tx d) tx d), ((d 7)), ?_, ?_, ?_, ?_, ?_, ?_⟩
            · rw [(opFreezes_0 (T := Tx d) (tx := tx) (d := d) (s := s) hck q5 hbk q3 (by assumption) (by assumption)).trans (congrArg (fun z => (0, z)) (frz_K ha4 (by decide)))]; first | exact congrArg (fun z => some (Value.int z)) (ansOf_0 _).symm | rfl
            · rfl
            · exact fun zq hzq zn0 zn1 => zl69 zq hzq zn0
            · exact zr70
            · exact zK61
            · rw [(opFreezes_0 (T := Tx d) (tx := tx) (d := d) (s := s) hck q5 hbk q3 (by assumption) (by assumption)).trans (congrArg (fun z => (0, z)) (frz_K ha4 (by decide)))]; first | (rw [bump_0]; exact zK68) | exact zK68
          · skip
            have zK83 : zh54 a = some (.inr (8, [.int (nI 2), .int (nI ck), .int (d (20 + 2 * ck + 1))])) := zr70.1 a _ ha1 ha5 (show (8 : Nat) ≠ 9 by decide)
            refine z_aload X 1 dX11_freezes_69 rfl ?_
            refine z_aload X 0 dX11_freezes_71 rfl ?_
            refine z_iload_n X 4 dX11_freezes_73 rfl ?_
            refine z_iload_n X 5 dX11_freezes_74 rfl ?_
            refine z_iload X 6 dX11_freezes_75 rfl ?_
            refine z_callU X (k_freeze_2_2 (κ := κ) (n := n) (i := (o + 1 + 1)) (len := (len)) (m := (d)) (now := (d 0)) (dd := (d 2)) (dr := (d 3)) (cc := (nI nc)) (on := (d 10)) (cold := (cldR (Tx d) tx d)) (wind := (d 7)) (a := (a)) (kd := (nI 2)) (nb := (nI ck)) (em := (d (20 + 2 * ck + 1))) (c := (bk)) (w := (w)) (s := (s)) zK83 zK61 zK64 (by first | assumption | omega) (by first | assumption | omega)) mk_X8_freeze dX11_freezes_77 wd_466 wd_469 wd_467 wd_495 wd_485 wd_493 (by decide) rfl zK83 rfl rfl rfl (Nat.le_of_ble_eq_true rfl) (Nat.le_of_ble_eq_true rfl) (Nat.le_of_ble_eq_true rfl) (by omega) (by omega) (fun q zh84 zm86 zp87 => ?_)
            obtain ⟨rfl, ze85, zn88⟩ := zp87
            subst zm86
            subst zh84
            refine z_st (st' := [.int (frK 2 (d (20 + 2 * ck + 1)) (cldR (Tx d) tx d) (d 7) (d 0) d len bk w s)]) rfl ?_
            refine z_iret X E dX11_freezes_80 (by omega) (by omega) ⟨(cldR (Tx d) tx d), ((d 7)), ?_, ?_, ?_, ?_, ?_, ?_⟩
            · rw [(opFreezes_0 (T := Tx d) (tx := tx) (d := d) (s := s) hck q5 hbk q3 (by assumption) (by assumption)).trans (congrArg (fun z => (0, z)) (frz_K ha4 (by decide)))]; first | exact congrArg (fun z => some (Value.int z)) (ansOf_0 _).symm | rfl
            · rfl
            · exact fun zq hzq zn0 zn1 => zl69 zq hzq zn0
            · exact zr70
            · exact zK61
            · rw [(opFreezes_0 (T := Tx d) (tx := tx) (d := d) (s := s) hck q5 hbk q3 (by assumption) (by assumption)).trans (congrArg (fun z => (0, z)) (frz_K ha4 (by decide)))]; first | (rw [bump_0]; exact zK68) | exact zK68
          · skip
            have zK89 : zh54 a = some (.inr (5, [.int (nI 3), .int (nI ck), .int (d (20 + 2 * ck + 1))])) := zr70.1 a _ ha1 ha5 (show (5 : Nat) ≠ 9 by decide)
            refine z_aload X 1 dX11_freezes_69 rfl ?_
            refine z_aload X 0 dX11_freezes_71 rfl ?_
            refine z_iload_n X 4 dX11_freezes_73 rfl ?_
            refine z_iload_n X 5 dX11_freezes_74 rfl ?_
            refine z_iload X 6 dX11_freezes_75 rfl ?_
            refine z_callU X (k_freeze_3_3 (κ := κ) (n := n) (i := (o + 1 + 1)) (len := (len)) (m := (d)) (now := (d 0)) (dd := (d 2)) (dr := (d 3)) (cc := (nI nc)) (on := (d 10)) (cold := (cldR (Tx d) tx d)) (wind := (d 7)) (a := (a)) (kd := (nI 3)) (nb := (nI ck)) (em := (d (20 + 2 * ck + 1))) (c := (bk)) (w := (w)) (s := (s)) zK89 zK61 zK64 (by first | assumption | omega) (by first | assumption | omega)) mk_X5_freeze dX11_freezes_77 wd_466 wd_469 wd_467 wd_495 wd_482 wd_481 (by decide) rfl zK89 rfl rfl rfl (Nat.le_of_ble_eq_true rfl) (Nat.le_of_ble_eq_true rfl) (Nat.le_of_ble_eq_true rfl) (by omega) (by omega) (fun q zh90 zm92 zp93 => ?_)
            obtain ⟨rfl, ze91, zn94⟩ := zp93
            subst zm92
            subst zh90
            refine z_st (st' := [.int (frK 3 (d (20 + 2 * ck + 1)) (cldR (Tx d) tx d) (d 7) (d 0) d len bk w s)]) rfl ?_
            refine z_iret X E dX11_freezes_80 (by omega) (by omega) ⟨(cldR (Tx d) tx d), ((d 7)), ?_, ?_, ?_, ?_, ?_, ?_⟩
            · rw [(opFreezes_0 (T := Tx d) (tx := tx) (d := d) (s := s) hck q5 hbk q3 (by assumption) (by assumption)).trans (congrArg (fun z => (0, z)) (frz_K ha4 (by decide)))]; first | exact congrArg (fun z => some (Value.int z)) (ansOf_0 _).symm | rfl
            · rfl
            · exact fun zq hzq zn0 zn1 => zl69 zq hzq zn0
            · exact zr70
            · exact zK61
            · rw [(opFreezes_0 (T := Tx d) (tx := tx) (d := d) (s := s) hck q5 hbk q3 (by assumption) (by assumption)).trans (congrArg (fun z => (0, z)) (frz_K ha4 (by decide)))]; first | (rw [bump_0]; exact zK68) | exact zK68
          · skip
            have zK95 : zh54 a = some (.inr (7, [.int (nI 4), .int (nI ck), .int (d (20 + 2 * ck + 1))])) := zr70.1 a _ ha1 ha5 (show (7 : Nat) ≠ 9 by decide)
            refine z_aload X 1 dX11_freezes_69 rfl ?_
            refine z_aload X 0 dX11_freezes_71 rfl ?_
            refine z_iload_n X 4 dX11_freezes_73 rfl ?_
            refine z_iload_n X 5 dX11_freezes_74 rfl ?_
            refine z_iload X 6 dX11_freezes_75 rfl ?_
            refine z_callU X (k_freeze_4_4 (κ := κ) (n := n) (i := (o + 1 + 1)) (len := (len)) (m := (d)) (now := (d 0)) (dd := (d 2)) (dr := (d 3)) (cc := (nI nc)) (on := (d 10)) (cold := (cldR (Tx d) tx d)) (wind := (d 7)) (a := (a)) (kd := (nI 4)) (nb := (nI ck)) (em := (d (20 + 2 * ck + 1))) (c := (bk)) (w := (w)) (s := (s)) zK95 zK61 zK64 (by first | assumption | omega) (by first | assumption | omega)) mk_X7_freeze dX11_freezes_77 wd_466 wd_469 wd_467 wd_495 wd_489 wd_488 (by decide) rfl zK95 rfl rfl rfl (Nat.le_of_ble_eq_true rfl) (Nat.le_of_ble_eq_true rfl) (Nat.le_of_ble_eq_true rfl) (by omega) (by omega) (fun q zh96 zm98 zp99 => ?_)
            obtain ⟨rfl, ze97, zn100⟩ := zp99
            subst zm98
            subst zh96
            refine z_st (st' := [.int (frK 4 (d (20 + 2 * ck + 1)) (cldR (Tx d) tx d) (d 7) (d 0) d len bk w s)]) rfl ?_
            refine z_iret X E dX11_freezes_80 (by omega) (by omega) ⟨(cldR (Tx d) tx d), ((d 7)), ?_, ?_, ?_, ?_, ?_, ?_⟩
            · rw [(opFreezes_0 (T := Tx d) (tx := tx) (d := d) (s := s) hck q5 hbk q3 (by assumption) (by assumption)).trans (congrArg (fun z => (0, z)) (frz_K ha4 (by decide)))]; first | exact congrArg (fun z => some (Value.int z)) (ansOf_0 _).symm | rfl
            · rfl
            · exact fun zq hzq zn0 zn1 => zl69 zq hzq zn0
            · exact zr70
            · exact zK61
            · rw [(opFreezes_0 (T := Tx d) (tx := tx) (d := d) (s := s) hck q5 hbk q3 (by assumption) (by assumption)).trans (congrArg (fun z => (0, z)) (frz_K ha4 (by decide)))]; first | (rw [bump_0]; exact zK68) | exact zK68
          · skip
            have zK101 : zh54 a = some (.inr (4, [.int (nI 5), .int (nI ck), .int (d (20 + 2 * ck + 1))])) := zr70.1 a _ ha1 ha5 (show (4 : Nat) ≠ 9 by decide)
            refine z_aload X 1 dX11_freezes_69 rfl ?_
            refine z_aload X 0 dX11_freezes_71 rfl ?_
            refine z_iload_n X 4 dX11_freezes_73 rfl ?_
            refine z_iload_n X 5 dX11_freezes_74 rfl ?_
            refine z_iload X 6 dX11_freezes_75 rfl ?_
            refine z_callU X (k_freeze_5_5 (κ := κ) (n := n) (i := (o + 1 + 1)) (len := (len)) (m := (d)) (now := (d 0)) (dd := (d 2)) (dr := (d 3)) (cc := (nI nc)) (on := (d 10)) (cold := (cldR (Tx d) tx d)) (wind := (d 7)) (a := (a)) (kd := (nI 5)) (nb := (nI ck)) (em := (d (20 + 2 * ck + 1))) (c := (bk)) (w := (w)) (s := (s)) zK101 zK61 zK64 (by first | assumption | omega) (by first | assumption | omega)) mk_X4_freeze dX11_freezes_77 wd_466 wd_469 wd_467 wd_495 wd_478 wd_477 (by decide) rfl zK101 rfl rfl rfl (Nat.le_of_ble_eq_true rfl) (Nat.le_of_ble_eq_true rfl) (Nat.le_of_ble_eq_true rfl) (by omega) (by omega) (fun q zh102 zm104 zp105 => ?_)
            obtain ⟨rfl, ze103, zn106⟩ := zp105
            subst zm104
            subst zh102
            refine z_st (st' := [.int (frK 5 (d (20 + 2 * ck + 1)) (cldR (Tx d) tx d) (d 7) (d 0) d len bk w s)]) rfl ?_
            refine z_iret X E dX11_freezes_80 (by omega) (by omega) ⟨(cldR (Tx d) tx d), ((d 7)), ?_, ?_, ?_, ?_, ?_, ?_⟩
            · rw [(opFreezes_0 (T := Tx d) (tx := tx) (d := d) (s := s) hck q5 hbk q3 (by assumption) (by assumption)).trans (congrArg (fun z => (0, z)) (frz_K ha4 (by decide)))]; first | exact congrArg (fun z => some (Value.int z)) (ansOf_0 _).symm | rfl
            · rfl
            · exact fun zq hzq zn0 zn1 => zl69 zq hzq zn0
            · exact zr70
            · exact zK61
            · rw [(opFreezes_0 (T := Tx d) (tx := tx) (d := d) (s := s) hck q5 hbk q3 (by assumption) (by assumption)).trans (congrArg (fun z => (0, z)) (frz_K ha4 (by decide)))]; first | (rw [bump_0]; exact zK68) | exact zK68
          · skip
            have zK107 : zh54 a = some (.inr (1, [.int (nI 6), .int (nI ck), .int (d (20 + 2 * ck + 1))])) := zr70.1 a _ ha1 ha5 (show (1 : Nat) ≠ 9 by decide)
            refine z_aload X 1 dX11_freezes_69 rfl ?_
            refine z_aload X 0 dX11_freezes_71 rfl ?_
            refine z_iload_n X 4 dX11_freezes_73 rfl ?_
            refine z_iload_n X 5 dX11_freezes_74 rfl ?_
            refine z_iload X 6 dX11_freezes_75 rfl ?_
            refine z_callU X (k_freeze_6_6 (κ := κ) (n := n) (i := (o + 1 + 1)) (len := (len)) (m := (d)) (now := (d 0)) (dd := (d 2)) (dr := (d 3)) (cc := (nI nc)) (on := (d 10)) (cold := (cldR (Tx d) tx d)) (wind := (d 7)) (a := (a)) (kd := (nI 6)) (nb := (nI ck)) (em := (d (20 + 2 * ck + 1))) (c := (bk)) (w := (w)) (s := (s)) zK107 zK61 zK64 (by first | assumption | omega) (by first | assumption | omega)) mk_X1_freeze dX11_freezes_77 wd_466 wd_469 wd_467 wd_495 wd_471 wd_470 (by decide) rfl zK107 rfl rfl rfl (Nat.le_of_ble_eq_true rfl) (Nat.le_of_ble_eq_true rfl) (Nat.le_of_ble_eq_true rfl) (by omega) (by omega) (fun q zh108 zm110 zp111 => ?_)
            obtain ⟨rfl, ze109, zn112⟩ := zp111
            subst zm110
            subst zh108
            refine z_st (st' := [.int (frK 6 (d (20 + 2 * ck + 1)) (cldR (Tx d) tx d) (d 7) (d 0) d len bk w s)]) rfl ?_
            refine z_iret X E dX11_freezes_80 (by omega) (by omega) ⟨(cldR (Tx d) tx d), ((d 7)), ?_, ?_, ?_, ?_, ?_, ?_⟩
            · rw [(opFreezes_0 (T := Tx d) (tx := tx) (d := d) (s := s) hck q5 hbk q3 (by assumption) (by assumption)).trans (congrArg (fun z => (0, z)) (frz_K ha4 (by decide)))]; first | exact congrArg (fun z => some (Value.int z)) (ansOf_0 _).symm | rfl
            · rfl
            · exact fun zq hzq zn0 zn1 => zl69 zq hzq zn0
            · exact zr70
            · exact zK61
            · rw [(opFreezes_0 (T := Tx d) (tx := tx) (d := d) (s := s) hck q5 hbk q3 (by assumption) (by assumption)).trans (congrArg (fun z => (0, z)) (frz_K ha4 (by decide)))]; first | (rw [bump_0]; exact zK68) | exact zK68
        · replace zc53 := b2i_f zc53
          refine z_aload_n X 2 dX11_freezes_51 rfl ?_
          refine z_iconst (v := 1) X dX11_freezes_52 (by decide) ?_
          refine z_callV X (c_fail (κ := κ) (n := n) (o := (o)) (im := (im)) (fo := (fo)) (k := (1)) K0 K7 (by first | assumption | omega) (by first | assumption | omega)) mk_X11_fail dX11_freezes_53 wd_260 wd_262 wd_0 rfl K0 rfl rfl rfl (Nat.le_of_ble_eq_true rfl) (Nat.le_of_ble_eq_true rfl) (Nat.le_of_ble_eq_true rfl) (by omega) (by omega) (fun q zh113 zm115 zp116 => ?_)
          obtain ⟨rfl, ze114, zn117⟩ := zp116
          subst zm115
          refine z_st (st' := [.int (lowE 1)]) rfl ?_
          have zK118 : zh113 o = some (.inr (11, [.ref (o + 1), .ref (o + 14), .ref (o + 27), .ref (o + 33), .ref (o + 42), .ref (o + 55), .ref (o + 57), .ref (o + 59), .ref (o + 61), .int im])) := by rw [ze114]; rw [va_up_ne _ _ (show o ≠ o + 61 by omega)]; exact K0
          have zK119 : zh113 (o + 1) = some (.inr (3, [.ref (o + 1 + 1), .ref (o + 1 + 7), .ref (o + 1 + 9), .ref (o + 1 + 11), .int (d 13)])) := by rw [ze114]; rw [va_up_ne _ _ (show o + 1 ≠ o + 61 by omega)]; exact K1
          have zK120 : zh113 (o + 2) = some (.inr (2, [.ref (o + 3), .ref (o + 4), .ref (o + 5), .ref (o + 6), .ref (o + 7), .int (nI len), .int (d 0), .int (d 2), .int (d 3), .int (nI nc), .int (d 10), .int cold, .int wind])) := by rw [ze114]; rw [va_up_ne _ _ (show o + 2 ≠ o + 61 by omega)]; exact K2
          have zK121 : zh113 (o + 3) = arI κ 40 (win 100 40 d) := by rw [ze114]; rw [va_up_ne _ _ (show o + 3 ≠ o + 61 by omega)]; exact K3
          have zK122 : zh113 (o + 5) = arI κ 6 (win 4 6 d) := by rw [ze114]; rw [va_up_ne _ _ (show o + 5 ≠ o + 61 by omega)]; exact K4
          have zK123 : zh113 (o + 6) = arR κ 1 6 cs := by rw [ze114]; rw [va_up_ne _ _ (show o + 6 ≠ o + 61 by omega)]; exact K5
          have zK124 : zh113 (o + 7) = arR κ 2 2 ts := by rw [ze114]; rw [va_up_ne _ _ (show o + 7 ≠ o + 61 by omega)]; exact K6
          have zK125 : zh113 (o + 61) = arI κ 6 (bmp fo 1) := by rw [ze114]; exact va_up_self _ _ _
          have zl126 : ∀ zq : Nat, zq < (o + 76) → zq ≠ (o + 61) → zh113 zq = h zq := by intro zq hzq zn0; rw [ze114, va_up_ne _ _ (show zq ≠ o + 61 by omega)]; try rfl
          have zr127 : Zr κ (o + 76) h zh113 := (Zr.refl).trans (Zr.same (fun zq h1 => by rw [ze114, va_up_ne _ _ (show zq ≠ o + 61 by omega)]))
          refine z_iret X E dX11_freezes_56 (by omega) (by omega) ⟨cold, wind, ?_, ?_, ?_, ?_, ?_, ?_⟩
          · rw [opFreezes_e (T := Tx d) (tx := tx) (d := d) (by omega)]; first | exact congrArg (fun z => some (Value.int z)) (ansOf_0 _).symm | rfl
          · rfl
          · exact fun zq hzq zn0 zn1 => zl126 zq hzq zn1
          · exact zr127
          · exact zK120
          · rw [opFreezes_e (T := Tx d) (tx := tx) (d := d) (by omega)]; first | (rw [bump_0]; exact zK125) | exact zK125
  · skip
    refine z_callV X (c_causeAt_n (κ := κ) (n := n) (o := (o)) (im := (im)) (len := (len)) (nc := (nc)) (cold := (cold)) (wind := (wind)) (cs := (cs)) (c := (c)) K0 K1 K2 K5 (by first | assumption | omega) (hin)) mk_X11_causeAt dX11_freezes_2 wd_413 wd_415 wd_1 rfl K0 rfl rfl rfl (Nat.le_of_ble_eq_true rfl) (Nat.le_of_ble_eq_true rfl) (Nat.le_of_ble_eq_true rfl) (by omega) (by omega) (fun q zh128 zm130 zp131 => ?_)
    obtain ⟨rfl, ze129, zn132⟩ := zp131
    subst zm130
    subst zh128
    refine z_st (st' := [.null]) rfl ?_
    refine z_astoreN (ls' := [(5, .null), (0, .ref o), (1, .int c), (2, .int b), (3, .int w), (4, .int s)]) X dX11_freezes_5 (by decide) rfl ?_
    refine z_aload_n X 1 dX11_freezes_7 rfl ?_
    refine z_get X fl_X11_10_11 dX11_freezes_8 K0 rfl ?_
    refine z_get X fl_X11_56_3 dX11_freezes_11 K1 rfl ?_
    refine z_astore (ls' := [(6, .ref (o + 1 + 1)), (5, .null), (0, .ref o), (1, .int c), (2, .int b), (3, .int w), (4, .int s)]) X dX11_freezes_14 (by decide) rfl ?_
    refine z_aloadN X 1 dX11_freezes_16 rfl ?_
    refine z_ifnullN X 51 dX11_freezes_18 (by decide) ?_
    refine z_aload_n X 2 dX11_freezes_51 rfl ?_
    refine z_iconst (v := 1) X dX11_freezes_52 (by decide) ?_
    refine z_callV X (c_fail (κ := κ) (n := n) (o := (o)) (im := (im)) (fo := (fo)) (k := (1)) K0 K7 (by first | assumption | omega) (by first | assumption | omega)) mk_X11_fail dX11_freezes_53 wd_260 wd_262 wd_0 rfl K0 rfl rfl rfl (Nat.le_of_ble_eq_true rfl) (Nat.le_of_ble_eq_true rfl) (Nat.le_of_ble_eq_true rfl) (by omega) (by omega) (fun q zh133 zm135 zp136 => ?_)
    obtain ⟨rfl, ze134, zn137⟩ := zp136
    subst zm135
    refine z_st (st' := [.int (lowE 1)]) rfl ?_
    have zK138 : zh133 o = some (.inr (11, [.ref (o + 1), .ref (o + 14), .ref (o + 27), .ref (o + 33), .ref (o + 42), .ref (o + 55), .ref (o + 57), .ref (o + 59), .ref (o + 61), .int im])) := by rw [ze134]; rw [va_up_ne _ _ (show o ≠ o + 61 by omega)]; exact K0
    have zK139 : zh133 (o + 1) = some (.inr (3, [.ref (o + 1 + 1), .ref (o + 1 + 7), .ref (o + 1 + 9), .ref (o + 1 + 11), .int (d 13)])) := by rw [ze134]; rw [va_up_ne _ _ (show o + 1 ≠ o + 61 by omega)]; exact K1
    have zK140 : zh133 (o + 2) = some (.inr (2, [.ref (o + 3), .ref (o + 4), .ref (o + 5), .ref (o + 6), .ref (o + 7), .int (nI len), .int (d 0), .int (d 2), .int (d 3), .int (nI nc), .int (d 10), .int cold, .int wind])) := by rw [ze134]; rw [va_up_ne _ _ (show o + 2 ≠ o + 61 by omega)]; exact K2
    have zK141 : zh133 (o + 3) = arI κ 40 (win 100 40 d) := by rw [ze134]; rw [va_up_ne _ _ (show o + 3 ≠ o + 61 by omega)]; exact K3
    have zK142 : zh133 (o + 5) = arI κ 6 (win 4 6 d) := by rw [ze134]; rw [va_up_ne _ _ (show o + 5 ≠ o + 61 by omega)]; exact K4
    have zK143 : zh133 (o + 6) = arR κ 1 6 cs := by rw [ze134]; rw [va_up_ne _ _ (show o + 6 ≠ o + 61 by omega)]; exact K5
    have zK144 : zh133 (o + 7) = arR κ 2 2 ts := by rw [ze134]; rw [va_up_ne _ _ (show o + 7 ≠ o + 61 by omega)]; exact K6
    have zK145 : zh133 (o + 61) = arI κ 6 (bmp fo 1) := by rw [ze134]; exact va_up_self _ _ _
    have zl146 : ∀ zq : Nat, zq < (o + 76) → zq ≠ (o + 61) → zh133 zq = h zq := by intro zq hzq zn0; rw [ze134, va_up_ne _ _ (show zq ≠ o + 61 by omega)]; try rfl
    have zr147 : Zr κ (o + 76) h zh133 := (Zr.refl).trans (Zr.same (fun zq h1 => by rw [ze134, va_up_ne _ _ (show zq ≠ o + 61 by omega)]))
    refine z_iret X E dX11_freezes_56 (by omega) (by omega) ⟨cold, wind, ?_, ?_, ?_, ?_, ?_, ?_⟩
    · rw [opFreezes_e (T := Tx d) (tx := tx) (d := d) (by omega)]; first | exact congrArg (fun z => some (Value.int z)) (ansOf_0 _).symm | rfl
    · rfl
    · exact fun zq hzq zn0 zn1 => zl146 zq hzq zn1
    · exact zr147
    · exact zK140
    · rw [opFreezes_e (T := Tx d) (tx := tx) (d := d) (by omega)]; first | (rw [bump_0]; exact zK145) | exact zK145
section TK
variable {T : Nat → Nat → Int32} {tx : Nat → Nat} {d : Nat → Int32} {v : Int32} {vk : Nat}
theorem dTicks_1 (h : ¬ goesP v) : opTicks T tx d v = (1, 0) ∧ dTicks T tx d v = d := ⟨if_pos h, if_pos h⟩
theorem dTicks_3 (h : goesP v) (h2 : 9999 < d 0 + v) : opTicks T tx d v = (3, 0) ∧ dTicks T tx d v = d := ⟨(if_neg (fun q => q h)).trans (if_pos h2), (if_neg (fun q => q h)).trans (if_pos h2)⟩
theorem dTicks_0 (h : goesP (nI vk)) (h2 : ¬ 9999 < d 0 + nI vk) (h3 : vk ≤ 100) : opTicks T tx d (nI vk) = (0, gbyN T tx vk d 0) ∧ dTicks T tx d (nI vk) = gbyN T tx vk d := by
  unfold opTicks dTicks
  rw [if_neg (fun q => q h), if_neg h2, if_neg (fun q => q h), if_neg h2, nI_clamp (by omega)]
  exact ⟨rfl, rfl⟩
theorem dGusts_1 (h : ¬ goesP v) : opGusts T tx d v = (1, 0) ∧ dGusts T tx d v = d := ⟨if_pos h, if_pos h⟩
theorem dGusts_3 (h : goesP v) (h2 : 9999 < d 0 + v) : opGusts T tx d v = (3, 0) ∧ dGusts T tx d v = d := ⟨(if_neg (fun q => q h)).trans (if_pos h2), (if_neg (fun q => q h)).trans (if_pos h2)⟩
theorem dGusts_0 (h : goesP (nI vk)) (h2 : ¬ 9999 < d 0 + nI vk) (h3 : vk ≤ 100) : opGusts T tx d (nI vk) = (0, gsN T tx vk d 0) ∧ dGusts T tx d (nI vk) = upd (gsN T tx vk d) 7 (d 7) := by
  unfold opGusts dGusts
  rw [if_neg (fun q => q h), if_neg h2, if_neg (fun q => q h), if_neg h2, nI_clamp (by omega)]
  exact ⟨rfl, rfl⟩
theorem wf_gsM {m : Nat → Int32} (h : wfS m ∧ wfC m) : wfS (gsM m) ∧ wfC (gsM m) := by
  refine ⟨?_, fun c hc => ?_⟩
  · unfold wfS
    rw [gsM_off (by omega), gsM_off (by omega), gsM_off (by omega)]
    exact h.1
  · rw [gsM_off (by omega), gsM_off (by omega)]
    exact h.2 c hc
theorem wf_gsN (hOk : lnOk d) (hs : wfS d) (hc : wfC d) : ∀ k, wfS (gsN T tx k d) ∧ wfC (gsN T tx k d) := by
  intro k
  induction k with
  | zero => exact ⟨hs, hc⟩
  | succ k ih => exact ⟨wfS_gby (lnOk_gsM (gsN_ok hOk k)) (wf_gsM ih).1, wfC_gby (lnOk_gsM (gsN_ok hOk k)) (wf_gsM ih).1 (wf_gsM ih).2⟩
end TK
set_option maxHeartbeats 4000000 in
set_option maxRecDepth 100000 in
theorem p_ticks {κ : Wc} {l : Launch} {h : Mm} {n : Nat} {o : Nat} {im : Int32} {d : Nat → Int32} {len : Nat} {nc : Nat} {cold : Int32} {wind : Int32} {cs : Nat → Option Nat} {ts : Nat → Option Nat} {fo : Nat → Int32} {v : Int32} {tx : Nat → Nat} (K0 : h o = some (.inr (11, [.ref (o + 1), .ref (o + 14), .ref (o + 27), .ref (o + 33), .ref (o + 42), .ref (o + 55), .ref (o + 57), .ref (o + 59), .ref (o + 61), .int im]))) (K1 : h (o + 1) = some (.inr (3, [.ref (o + 1 + 1), .ref (o + 1 + 7), .ref (o + 1 + 9), .ref (o + 1 + 11), .int (d 13)]))) (K2 : h (o + 2) = some (.inr (2, [.ref (o + 3), .ref (o + 4), .ref (o + 5), .ref (o + 6), .ref (o + 7), .int (nI len), .int (d 0), .int (d 2), .int (d 3), .int (nI nc), .int (d 10), .int cold, .int wind]))) (K3 : h (o + 3) = arI κ 40 (win 100 40 d)) (K4 : h (o + 4) = arI κ 40 (win 140 40 d)) (K5 : h (o + 5) = arI κ 6 (win 4 6 d)) (K6 : h (o + 6) = arR κ 1 6 cs) (K7 : h (o + 7) = arR κ 2 2 ts) (K8 : h (o + 61) = arI κ 6 fo) (q1 : d 1 = nI len) (q2 : 1 ≤ len) (q3 : len ≤ 40) (q4 : d 11 = nI nc) (q5 : nc ≤ 6) (hTs : TsO κ (o + 76) h ts (Tx d) tx) (hCs : CsO (o + 76) h cs d nc) (hS : wfS d) (hC : wfC d) : Con κ l yX11_ticks cX11_ticks 2 (some .int) 13 0 0 [.ref o, .int v] h n (fun q h' n' => ∃ cold' : Int32, ∃ wind' : Int32, q = some (.int (ansOf (opTicks (Tx d) tx d v))) ∧ n' = n ∧ (∀ zq : Nat, zq < (o + 76) → zq ≠ (o + 2) → zq ≠ (o + 3) → zq ≠ (o + 4) → zq ≠ (o + 61) → h' zq = h zq) ∧ Zr κ (o + 76) h h' ∧ h' (o + 2) = some (.inr (2, [.ref (o + 3), .ref (o + 4), .ref (o + 5), .ref (o + 6), .ref (o + 7), .int ((dTicks (Tx d) tx d v) 1), .int ((dTicks (Tx d) tx d v) 0), .int ((dTicks (Tx d) tx d v) 2), .int ((dTicks (Tx d) tx d v) 3), .int (nI nc), .int (d 10), .int cold', .int wind'])) ∧ h' (o + 3) = arI κ 40 (win 100 40 (dTicks (Tx d) tx d v)) ∧ h' (o + 4) = arI κ 40 (win 140 40 (dTicks (Tx d) tx d v)) ∧ h' (o + 61) = arI κ 6 (bump (opTicks (Tx d) tx d v) fo)) := by
  refine Con.of mk_X11_ticks (Nat.le_of_ble_eq_true rfl) (fun G hG X E => ?_)
  subst hG
  refine z_ls (ls' := [(0, .ref o), (1, .int v)]) rfl ?_
  have hOk : lnOk d := lnOk_of q1 q2 q3
  refine z_iload_n X 1 dX11_ticks_0 rfl ?_
  refine z_iconst (v := 1) X dX11_ticks_1 (by decide) ?_
  refine z_bipush (v := 100) X dX11_ticks_2 (by decide) ?_
  refine z_callS X (c_within (κ := κ) (n := n) (v := (v)) (lo := (1)) (hi := (100))  ) mk_X11_within dX11_ticks_4 wd_259 wd_257 rfl rfl (Nat.le_of_ble_eq_true rfl) (Nat.le_of_ble_eq_true rfl) (Nat.le_of_ble_eq_true rfl) (by omega) (by omega) (fun q zh1 zm3 zp4 => ?_)
  obtain ⟨rfl, ze2, zn5⟩ := zp4
  subst zm3
  subst zh1
  refine z_st (st' := [.int (b2i ((1 : Int32).toInt ≤ (v : Int32).toInt ∧ (v : Int32).toInt ≤ (100 : Int32).toInt))]) rfl ?_
  refine z_toe (y := b2i (1 ≤ v.toInt ∧ v.toInt ≤ 100)) (by simp only [show (1 : Int32).toInt = 1 by decide, show (100 : Int32).toInt = 100 by decide]) ?_
  refine z_if_ne X 16 dX11_ticks_7 (by decide) (fun zc6 => ?_) (fun zc6 => ?_)
  · replace zc6 := b2i_t zc6
    refine z_aload_n X 0 dX11_ticks_16 rfl ?_
    refine z_get X fl_X11_10_11 dX11_ticks_17 K0 rfl ?_
    refine z_get X fl_X11_56_3 dX11_ticks_20 K1 rfl ?_
    refine z_get X fl_X11_182_2 dX11_ticks_23 K2 rfl ?_
    refine z_iload_n X 1 dX11_ticks_26 rfl ?_
    refine z_iadd X dX11_ticks_27 ?_
    refine z_sipush (v := 9999) X dX11_ticks_28 (by decide) ?_
    refine z_icmp_le X 40 dX11_ticks_31 (by decide) (fun zc7 => ?_) (fun zc7 => ?_)
    · have hgp : goesP v := by assumption
      obtain ⟨vk, hvk, rfl⟩ := ix_of (c := v) (len := 101) (by omega) (by omega)
      refine z_aload_n X 0 dX11_ticks_40 rfl ?_
      refine z_get X fl_X11_10_11 dX11_ticks_41 K0 rfl ?_
      refine z_get X fl_X11_56_3 dX11_ticks_44 K1 rfl ?_
      refine z_iload_n X 1 dX11_ticks_47 rfl ?_
      refine z_callV X (c_go (κ := κ) (n := n) (i := (o + 1 + 1)) (len := (len)) (nc := (nc)) (v := (vk)) (m := (d)) (ts := (ts)) (cs := (cs)) (T := (Tx d)) (tx := (tx)) (cold := (cold)) (wind := (wind)) K2 K3 K4 K5 K6 K7 (by first | assumption | omega) (hTs) (hCs) (by first | assumption | omega) (by first | assumption | omega) (by first | assumption | omega) (by first | assumption | omega) (by first | assumption | omega) (hS) (hC) (by first | assumption | omega)) mk_X2_go dX11_ticks_48 wd_596 wd_597 wd_598 rfl K2 rfl rfl rfl (Nat.le_of_ble_eq_true rfl) (Nat.le_of_ble_eq_true rfl) (Nat.le_of_ble_eq_true rfl) (by omega) (by omega) (fun q zh10 zm12 zp13 => ?_)
      obtain ⟨cold'8, wind'9, rfl, zn14, zf15, zr16, zK17, zK18, zK19⟩ := zp13
      subst zm12
      refine z_st (st' := []) rfl ?_
      have zK20 : zh10 o = some (.inr (11, [.ref (o + 1), .ref (o + 14), .ref (o + 27), .ref (o + 33), .ref (o + 42), .ref (o + 55), .ref (o + 57), .ref (o + 59), .ref (o + 61), .int im])) := (zf15 o (by omega) (by omega) (by omega) (by omega)).trans K0
      have zK21 : zh10 (o + 1) = some (.inr (3, [.ref (o + 1 + 1), .ref (o + 1 + 7), .ref (o + 1 + 9), .ref (o + 1 + 11), .int (d 13)])) := (zf15 (o + 1) (by omega) (by omega) (by omega) (by omega)).trans K1
      have zK22 : zh10 (o + 5) = arI κ 6 (win 4 6 d) := (zf15 (o + 5) (by omega) (by omega) (by omega) (by omega)).trans K5
      have zK23 : zh10 (o + 6) = arR κ 1 6 cs := (zf15 (o + 6) (by omega) (by omega) (by omega) (by omega)).trans K6
      have zK24 : zh10 (o + 7) = arR κ 2 2 ts := (zf15 (o + 7) (by omega) (by omega) (by omega) (by omega)).trans K7
      have zK25 : zh10 (o + 61) = arI κ 6 fo := (zf15 (o + 61) (by omega) (by omega) (by omega) (by omega)).trans K8
      have zl26 : ∀ zq : Nat, zq < (o + 76) → zq ≠ (o + 2) → zq ≠ (o + 3) → zq ≠ (o + 4) → zh10 zq = h zq := by intro zq hzq zn0 zn1 zn2; rw [zf15 zq (by omega) (by omega) (by omega) (by omega)]; try rfl
      have zr27 : Zr κ (o + 76) h zh10 := (Zr.refl).trans zr16
      refine z_aload_n X 0 dX11_ticks_51 rfl ?_
      refine z_get X fl_X11_10_11 dX11_ticks_52 zK20 rfl ?_
      refine z_get X fl_X11_56_3 dX11_ticks_55 zK21 rfl ?_
      refine z_get X fl_X11_182_2 dX11_ticks_58 zK17 rfl ?_
      refine z_iret X E dX11_ticks_61 (by omega) (by omega) ⟨cold'8, wind'9, ?_, ?_, ?_, ?_, ?_, ?_, ?_, ?_⟩
      · rw [(dTicks_0 (T := Tx d) (tx := tx) (d := d) hgp (Int32.not_lt.mpr (by assumption)) (by omega)).1]; first | exact congrArg (fun z => some (Value.int z)) (ansOf_0 _).symm | rfl
      · rfl
      · exact fun zq hzq zn0 zn1 zn2 zn3 => zl26 zq hzq zn0 zn1 zn2
      · exact zr27
      · rw [(dTicks_0 (T := Tx d) (tx := tx) (d := d) hgp (Int32.not_lt.mpr (by assumption)) (by omega)).2]; rw [(gbyN_ok (T := Tx d) (tx := tx) hOk vk).1]; exact zK17
      · rw [(dTicks_0 (T := Tx d) (tx := tx) (d := d) hgp (Int32.not_lt.mpr (by assumption)) (by omega)).2]; exact zK18
      · rw [(dTicks_0 (T := Tx d) (tx := tx) (d := d) hgp (Int32.not_lt.mpr (by assumption)) (by omega)).2]; exact zK19
      · rw [(dTicks_0 (T := Tx d) (tx := tx) (d := d) hgp (Int32.not_lt.mpr (by assumption)) (by omega)).1]; first | (rw [bump_0]; exact zK25) | exact zK25
    · refine z_aload_n X 0 dX11_ticks_34 rfl ?_
      refine z_iconst (v := 3) X dX11_ticks_35 (by decide) ?_
      refine z_callV X (c_fail (κ := κ) (n := n) (o := (o)) (im := (im)) (fo := (fo)) (k := (3)) K0 K8 (by first | assumption | omega) (by first | assumption | omega)) mk_X11_fail dX11_ticks_36 wd_260 wd_262 wd_0 rfl K0 rfl rfl rfl (Nat.le_of_ble_eq_true rfl) (Nat.le_of_ble_eq_true rfl) (Nat.le_of_ble_eq_true rfl) (by omega) (by omega) (fun q zh28 zm30 zp31 => ?_)
      obtain ⟨rfl, ze29, zn32⟩ := zp31
      subst zm30
      refine z_st (st' := [.int (lowE 3)]) rfl ?_
      have zK33 : zh28 o = some (.inr (11, [.ref (o + 1), .ref (o + 14), .ref (o + 27), .ref (o + 33), .ref (o + 42), .ref (o + 55), .ref (o + 57), .ref (o + 59), .ref (o + 61), .int im])) := by rw [ze29]; rw [va_up_ne _ _ (show o ≠ o + 61 by omega)]; exact K0
      have zK34 : zh28 (o + 1) = some (.inr (3, [.ref (o + 1 + 1), .ref (o + 1 + 7), .ref (o + 1 + 9), .ref (o + 1 + 11), .int (d 13)])) := by rw [ze29]; rw [va_up_ne _ _ (show o + 1 ≠ o + 61 by omega)]; exact K1
      have zK35 : zh28 (o + 2) = some (.inr (2, [.ref (o + 3), .ref (o + 4), .ref (o + 5), .ref (o + 6), .ref (o + 7), .int (nI len), .int (d 0), .int (d 2), .int (d 3), .int (nI nc), .int (d 10), .int cold, .int wind])) := by rw [ze29]; rw [va_up_ne _ _ (show o + 2 ≠ o + 61 by omega)]; exact K2
      have zK36 : zh28 (o + 3) = arI κ 40 (win 100 40 d) := by rw [ze29]; rw [va_up_ne _ _ (show o + 3 ≠ o + 61 by omega)]; exact K3
      have zK37 : zh28 (o + 4) = arI κ 40 (win 140 40 d) := by rw [ze29]; rw [va_up_ne _ _ (show o + 4 ≠ o + 61 by omega)]; exact K4
      have zK38 : zh28 (o + 5) = arI κ 6 (win 4 6 d) := by rw [ze29]; rw [va_up_ne _ _ (show o + 5 ≠ o + 61 by omega)]; exact K5
      have zK39 : zh28 (o + 6) = arR κ 1 6 cs := by rw [ze29]; rw [va_up_ne _ _ (show o + 6 ≠ o + 61 by omega)]; exact K6
      have zK40 : zh28 (o + 7) = arR κ 2 2 ts := by rw [ze29]; rw [va_up_ne _ _ (show o + 7 ≠ o + 61 by omega)]; exact K7
      have zK41 : zh28 (o + 61) = arI κ 6 (bmp fo 3) := by rw [ze29]; exact va_up_self _ _ _
      have zl42 : ∀ zq : Nat, zq < (o + 76) → zq ≠ (o + 61) → zh28 zq = h zq := by intro zq hzq zn0; rw [ze29, va_up_ne _ _ (show zq ≠ o + 61 by omega)]; try rfl
      have zr43 : Zr κ (o + 76) h zh28 := (Zr.refl).trans (Zr.same (fun zq h1 => by rw [ze29, va_up_ne _ _ (show zq ≠ o + 61 by omega)]))
      refine z_iret X E dX11_ticks_39 (by omega) (by omega) ⟨cold, wind, ?_, ?_, ?_, ?_, ?_, ?_, ?_, ?_⟩
      · rw [(dTicks_3 (T := Tx d) (tx := tx) (d := d) (by assumption) (Int32.not_le.mp (by assumption))).1]; first | exact congrArg (fun z => some (Value.int z)) (ansOf_0 _).symm | rfl
      · rfl
      · exact fun zq hzq zn0 zn1 zn2 zn3 => zl42 zq hzq zn3
      · exact zr43
      · rw [(dTicks_3 (T := Tx d) (tx := tx) (d := d) (by assumption) (Int32.not_le.mp (by assumption))).2]; rw [q1]; exact zK35
      · rw [(dTicks_3 (T := Tx d) (tx := tx) (d := d) (by assumption) (Int32.not_le.mp (by assumption))).2]; exact zK36
      · rw [(dTicks_3 (T := Tx d) (tx := tx) (d := d) (by assumption) (Int32.not_le.mp (by assumption))).2]; exact zK37
      · rw [(dTicks_3 (T := Tx d) (tx := tx) (d := d) (by assumption) (Int32.not_le.mp (by assumption))).1]; first | (rw [bump_0]; exact zK41) | exact zK41
  · replace zc6 := b2i_f zc6
    refine z_aload_n X 0 dX11_ticks_10 rfl ?_
    refine z_iconst (v := 1) X dX11_ticks_11 (by decide) ?_
    refine z_callV X (c_fail (κ := κ) (n := n) (o := (o)) (im := (im)) (fo := (fo)) (k := (1)) K0 K8 (by first | assumption | omega) (by first | assumption | omega)) mk_X11_fail dX11_ticks_12 wd_260 wd_262 wd_0 rfl K0 rfl rfl rfl (Nat.le_of_ble_eq_true rfl) (Nat.le_of_ble_eq_true rfl) (Nat.le_of_ble_eq_true rfl) (by omega) (by omega) (fun q zh44 zm46 zp47 => ?_)
    obtain ⟨rfl, ze45, zn48⟩ := zp47
    subst zm46
    refine z_st (st' := [.int (lowE 1)]) rfl ?_
    have zK49 : zh44 o = some (.inr (11, [.ref (o + 1), .ref (o + 14), .ref (o + 27), .ref (o + 33), .ref (o + 42), .ref (o + 55), .ref (o + 57), .ref (o + 59), .ref (o + 61), .int im])) := by rw [ze45]; rw [va_up_ne _ _ (show o ≠ o + 61 by omega)]; exact K0
    have zK50 : zh44 (o + 1) = some (.inr (3, [.ref (o + 1 + 1), .ref (o + 1 + 7), .ref (o + 1 + 9), .ref (o + 1 + 11), .int (d 13)])) := by rw [ze45]; rw [va_up_ne _ _ (show o + 1 ≠ o + 61 by omega)]; exact K1
    have zK51 : zh44 (o + 2) = some (.inr (2, [.ref (o + 3), .ref (o + 4), .ref (o + 5), .ref (o + 6), .ref (o + 7), .int (nI len), .int (d 0), .int (d 2), .int (d 3), .int (nI nc), .int (d 10), .int cold, .int wind])) := by rw [ze45]; rw [va_up_ne _ _ (show o + 2 ≠ o + 61 by omega)]; exact K2
    have zK52 : zh44 (o + 3) = arI κ 40 (win 100 40 d) := by rw [ze45]; rw [va_up_ne _ _ (show o + 3 ≠ o + 61 by omega)]; exact K3
    have zK53 : zh44 (o + 4) = arI κ 40 (win 140 40 d) := by rw [ze45]; rw [va_up_ne _ _ (show o + 4 ≠ o + 61 by omega)]; exact K4
    have zK54 : zh44 (o + 5) = arI κ 6 (win 4 6 d) := by rw [ze45]; rw [va_up_ne _ _ (show o + 5 ≠ o + 61 by omega)]; exact K5
    have zK55 : zh44 (o + 6) = arR κ 1 6 cs := by rw [ze45]; rw [va_up_ne _ _ (show o + 6 ≠ o + 61 by omega)]; exact K6
    have zK56 : zh44 (o + 7) = arR κ 2 2 ts := by rw [ze45]; rw [va_up_ne _ _ (show o + 7 ≠ o + 61 by omega)]; exact K7
    have zK57 : zh44 (o + 61) = arI κ 6 (bmp fo 1) := by rw [ze45]; exact va_up_self _ _ _
    have zl58 : ∀ zq : Nat, zq < (o + 76) → zq ≠ (o + 61) → zh44 zq = h zq := by intro zq hzq zn0; rw [ze45, va_up_ne _ _ (show zq ≠ o + 61 by omega)]; try rfl
    have zr59 : Zr κ (o + 76) h zh44 := (Zr.refl).trans (Zr.same (fun zq h1 => by rw [ze45, va_up_ne _ _ (show zq ≠ o + 61 by omega)]))
    refine z_iret X E dX11_ticks_15 (by omega) (by omega) ⟨cold, wind, ?_, ?_, ?_, ?_, ?_, ?_, ?_, ?_⟩
    · rw [(dTicks_1 (T := Tx d) (tx := tx) (d := d) (v := v) (by assumption)).1]; first | exact congrArg (fun z => some (Value.int z)) (ansOf_0 _).symm | rfl
    · rfl
    · exact fun zq hzq zn0 zn1 zn2 zn3 => zl58 zq hzq zn3
    · exact zr59
    · rw [(dTicks_1 (T := Tx d) (tx := tx) (d := d) (v := v) (by assumption)).2]; rw [q1]; exact zK51
    · rw [(dTicks_1 (T := Tx d) (tx := tx) (d := d) (v := v) (by assumption)).2]; exact zK52
    · rw [(dTicks_1 (T := Tx d) (tx := tx) (d := d) (v := v) (by assumption)).2]; exact zK53
    · rw [(dTicks_1 (T := Tx d) (tx := tx) (d := d) (v := v) (by assumption)).1]; first | (rw [bump_0]; exact zK57) | exact zK57
theorem gs_set {T : Nat → Nat → Int32} {tx : Nat → Nat} {d : Nat → Int32} {k z : Nat} (h : lnOk d) (hz : z < 6) : d (4 + z) = upd (gsM (gsN T tx k d)) (4 + 3) (d 7) (4 + z) := by
  by_cases e : z = 3
  · subst e
    exact pk_us.symm
  · exact ((pk_un (by omega)).trans ((gsM_off (by omega)).trans (gsN_off h (by omega) k))).symm
theorem gs_7 (m : Nat → Int32) : drV (m 13) - drV (m 13) / 100 * 100 = gsM m 7 := pk_us.symm
theorem gs_13 (m : Nat → Int32) : gsM m 13 = drZ (m 13) := (pk_un (by omega)).trans pk_us
set_option maxHeartbeats 4000000 in
set_option maxRecDepth 100000 in
theorem p_gusts {κ : Wc} {l : Launch} {h : Mm} {n : Nat} {o : Nat} {im : Int32} {d : Nat → Int32} {len : Nat} {nc : Nat} {cold : Int32} {wind : Int32} {cs : Nat → Option Nat} {ts : Nat → Option Nat} {fo : Nat → Int32} {v : Int32} {tx : Nat → Nat} (K0 : h o = some (.inr (11, [.ref (o + 1), .ref (o + 14), .ref (o + 27), .ref (o + 33), .ref (o + 42), .ref (o + 55), .ref (o + 57), .ref (o + 59), .ref (o + 61), .int im]))) (K1 : h (o + 1) = some (.inr (3, [.ref (o + 1 + 1), .ref (o + 1 + 7), .ref (o + 1 + 9), .ref (o + 1 + 11), .int (d 13)]))) (K2 : h (o + 2) = some (.inr (2, [.ref (o + 3), .ref (o + 4), .ref (o + 5), .ref (o + 6), .ref (o + 7), .int (nI len), .int (d 0), .int (d 2), .int (d 3), .int (nI nc), .int (d 10), .int cold, .int wind]))) (K3 : h (o + 3) = arI κ 40 (win 100 40 d)) (K4 : h (o + 4) = arI κ 40 (win 140 40 d)) (K5 : h (o + 5) = arI κ 6 (win 4 6 d)) (K6 : h (o + 6) = arR κ 1 6 cs) (K7 : h (o + 7) = arR κ 2 2 ts) (K8 : h (o + 61) = arI κ 6 fo) (q1 : d 1 = nI len) (q2 : 1 ≤ len) (q3 : len ≤ 40) (q4 : d 11 = nI nc) (q5 : nc ≤ 6) (hTs : TsO κ (o + 76) h ts (Tx d) tx) (hCs : CsO (o + 76) h cs d nc) (hS : wfS d) (hC : wfC d) : Con κ l yX11_gusts cX11_gusts 3 (some .int) 12 0 0 [.ref o, .int v] h n (fun q h' n' => ∃ cold' : Int32, ∃ wind' : Int32, q = some (.int (ansOf (opGusts (Tx d) tx d v))) ∧ n' = n ∧ (∀ zq : Nat, zq < (o + 76) → zq ≠ (o + 1) → zq ≠ (o + 2) → zq ≠ (o + 3) → zq ≠ (o + 4) → zq ≠ (o + 61) → h' zq = h zq) ∧ Zr κ (o + 76) h h' ∧ h' (o + 1) = some (.inr (3, [.ref (o + 1 + 1), .ref (o + 1 + 7), .ref (o + 1 + 9), .ref (o + 1 + 11), .int ((dGusts (Tx d) tx d v) 13)])) ∧ h' (o + 2) = some (.inr (2, [.ref (o + 3), .ref (o + 4), .ref (o + 5), .ref (o + 6), .ref (o + 7), .int ((dGusts (Tx d) tx d v) 1), .int ((dGusts (Tx d) tx d v) 0), .int ((dGusts (Tx d) tx d v) 2), .int ((dGusts (Tx d) tx d v) 3), .int (nI nc), .int (d 10), .int cold', .int wind'])) ∧ h' (o + 3) = arI κ 40 (win 100 40 (dGusts (Tx d) tx d v)) ∧ h' (o + 4) = arI κ 40 (win 140 40 (dGusts (Tx d) tx d v)) ∧ h' (o + 61) = arI κ 6 (bump (opGusts (Tx d) tx d v) fo)) := by
  refine Con.of mk_X11_gusts (Nat.le_of_ble_eq_true rfl) (fun G hG X E => ?_)
  subst hG
  refine z_ls (ls' := [(0, .ref o), (1, .int v)]) rfl ?_
  have hOk : lnOk d := lnOk_of q1 q2 q3
  refine z_iload_n X 1 dX11_gusts_0 rfl ?_
  refine z_iconst (v := 1) X dX11_gusts_1 (by decide) ?_
  refine z_bipush (v := 100) X dX11_gusts_2 (by decide) ?_
  refine z_callS X (c_within (κ := κ) (n := n) (v := (v)) (lo := (1)) (hi := (100))  ) mk_X11_within dX11_gusts_4 wd_259 wd_257 rfl rfl (Nat.le_of_ble_eq_true rfl) (Nat.le_of_ble_eq_true rfl) (Nat.le_of_ble_eq_true rfl) (by omega) (by omega) (fun q zh1 zm3 zp4 => ?_)
  obtain ⟨rfl, ze2, zn5⟩ := zp4
  subst zm3
  subst zh1
  refine z_st (st' := [.int (b2i ((1 : Int32).toInt ≤ (v : Int32).toInt ∧ (v : Int32).toInt ≤ (100 : Int32).toInt))]) rfl ?_
  refine z_toe (y := b2i (1 ≤ v.toInt ∧ v.toInt ≤ 100)) (by simp only [show (1 : Int32).toInt = 1 by decide, show (100 : Int32).toInt = 100 by decide]) ?_
  refine z_if_ne X 16 dX11_gusts_7 (by decide) (fun zc6 => ?_) (fun zc6 => ?_)
  · replace zc6 := b2i_t zc6
    refine z_aload_n X 0 dX11_gusts_16 rfl ?_
    refine z_get X fl_X11_10_11 dX11_gusts_17 K0 rfl ?_
    refine z_get X fl_X11_56_3 dX11_gusts_20 K1 rfl ?_
    refine z_get X fl_X11_182_2 dX11_gusts_23 K2 rfl ?_
    refine z_iload_n X 1 dX11_gusts_26 rfl ?_
    refine z_iadd X dX11_gusts_27 ?_
    refine z_sipush (v := 9999) X dX11_gusts_28 (by decide) ?_
    refine z_icmp_le X 40 dX11_gusts_31 (by decide) (fun zc7 => ?_) (fun zc7 => ?_)
    · have hgp : goesP v := by assumption
      obtain ⟨vk, hvk, rfl⟩ := ix_of (c := v) (len := 101) (by omega) (by omega)
      refine z_iconst (v := 0) X dX11_gusts_40 (by decide) ?_
      refine z_istore_n (ls' := [(2, .int 0), (0, .ref o), (1, .int (nI vk))]) X dX11_gusts_41 (by decide) rfl ?_
      have L42 : ∀ (jj : Nat) (hh42 : Mm) (k : Nat) (cold3 : Int32) (wind3 : Int32), (vk - k < jj) → (∀ zq : Nat, zq < (o + 76) → zq ≠ (o + 1) → zq ≠ (o + 2) → zq ≠ (o + 3) → zq ≠ (o + 4) → hh42 zq = h zq) → Zr κ (o + 76) h hh42 → hh42 (o + 1) = some (.inr (3, [.ref (o + 1 + 1), .ref (o + 1 + 7), .ref (o + 1 + 9), .ref (o + 1 + 11), .int ((gsN (Tx d) tx k d) 13)])) → hh42 (o + 2) = some (.inr (2, [.ref (o + 3), .ref (o + 4), .ref (o + 5), .ref (o + 6), .ref (o + 7), .int (nI (lnO (gsN (Tx d) tx k d))), .int ((gsN (Tx d) tx k d) 0), .int ((gsN (Tx d) tx k d) 2), .int ((gsN (Tx d) tx k d) 3), .int (nI nc), .int (d 10), .int cold3, .int wind3])) → hh42 (o + 3) = arI κ 40 (win 100 40 (gsN (Tx d) tx k d)) → hh42 (o + 4) = arI κ 40 (win 140 40 (gsN (Tx d) tx k d)) → (hk : k ≤ vk) → Z κ G 3 42 [(0, .ref o), (1, .int (nI vk)), (2, .int (nI k))] [] hh42 n 0 (0) := by
        intro jj
        induction jj with
        | zero => intro hh42 k cold3 wind3 hmu; exact absurd hmu (Nat.not_lt_zero _)
        | succ jj ih42 =>
          intro hh42 k cold3 wind3 hmu zl_42 zr_42 zK8 zK9 zK10 zK11 hk
          have zK12 : hh42 o = some (.inr (11, [.ref (o + 1), .ref (o + 14), .ref (o + 27), .ref (o + 33), .ref (o + 42), .ref (o + 55), .ref (o + 57), .ref (o + 59), .ref (o + 61), .int im])) := (zl_42 o (by omega) (by omega) (by omega) (by omega) (by omega)).trans K0
          have zK13 : hh42 (o + 5) = arI κ 6 (win 4 6 d) := (zl_42 (o + 5) (by omega) (by omega) (by omega) (by omega) (by omega)).trans K5
          have zK14 : hh42 (o + 6) = arR κ 1 6 cs := (zl_42 (o + 6) (by omega) (by omega) (by omega) (by omega) (by omega)).trans K6
          have zK15 : hh42 (o + 7) = arR κ 2 2 ts := (zl_42 (o + 7) (by omega) (by omega) (by omega) (by omega) (by omega)).trans K7
          have zK16 : hh42 (o + 61) = arI κ 6 fo := (zl_42 (o + 61) (by omega) (by omega) (by omega) (by omega) (by omega)).trans K8
          refine z_iload_n X 2 dX11_gusts_42 rfl ?_
          refine z_iload_n X 1 dX11_gusts_43 rfl ?_
          refine z_icmp_ge X 73 dX11_gusts_44 (by decide) (fun zc17 => ?_) (fun zc17 => ?_)
          · try replace zc17 := (nI_leI (a := vk) (b := k) (by omega) (by omega)).mp zc17
            refine z_aload_n X 0 dX11_gusts_73 rfl ?_
            refine z_get X fl_X11_10_11 dX11_gusts_74 zK12 rfl ?_
            refine z_get X fl_X11_56_3 dX11_gusts_77 zK8 rfl ?_
            refine z_get X fl_X11_182_2 dX11_gusts_80 zK9 rfl ?_
            have hkv : k = vk := by omega
            subst hkv
            refine z_iret X E dX11_gusts_83 (by omega) (by omega) ⟨cold3, wind3, ?_, ?_, ?_, ?_, ?_, ?_, ?_, ?_, ?_⟩
            · rw [(dGusts_0 (T := Tx d) (tx := tx) (d := d) hgp (Int32.not_lt.mpr (by assumption)) (by omega)).1]; first | exact congrArg (fun z => some (Value.int z)) (ansOf_0 _).symm | rfl
            · rfl
            · exact fun zq hzq zn0 zn1 zn2 zn3 zn4 => zl_42 zq hzq zn0 zn1 zn2 zn3
            · exact zr_42
            · rw [(dGusts_0 (T := Tx d) (tx := tx) (d := d) hgp (Int32.not_lt.mpr (by assumption)) (by omega)).2]; rw [show (upd (gsN (Tx d) tx k d) 7 (d 7)) 13 = gsN (Tx d) tx k d 13 from pk_un (by omega)]; exact zK8
            · rw [(dGusts_0 (T := Tx d) (tx := tx) (d := d) hgp (Int32.not_lt.mpr (by assumption)) (by omega)).2]; rw [show (upd (gsN (Tx d) tx k d) 7 (d 7)) 1 = nI (lnO (gsN (Tx d) tx k d)) from (pk_un (by omega)).trans (gsN_ok hOk k).1, show (upd (gsN (Tx d) tx k d) 7 (d 7)) 0 = gsN (Tx d) tx k d 0 from pk_un (by omega), show (upd (gsN (Tx d) tx k d) 7 (d 7)) 2 = gsN (Tx d) tx k d 2 from pk_un (by omega), show (upd (gsN (Tx d) tx k d) 7 (d 7)) 3 = gsN (Tx d) tx k d 3 from pk_un (by omega)]; exact zK9
            · rw [(dGusts_0 (T := Tx d) (tx := tx) (d := d) hgp (Int32.not_lt.mpr (by assumption)) (by omega)).2]; rw [win_off (by omega)]; exact zK10
            · rw [(dGusts_0 (T := Tx d) (tx := tx) (d := d) hgp (Int32.not_lt.mpr (by assumption)) (by omega)).2]; rw [win_off (by omega)]; exact zK11
            · rw [(dGusts_0 (T := Tx d) (tx := tx) (d := d) hgp (Int32.not_lt.mpr (by assumption)) (by omega)).1]; first | (rw [bump_0]; exact zK16) | exact zK16
          · try replace zc17 := mt (nI_leI (a := vk) (b := k) (by omega) (by omega)).mpr zc17
            refine z_aload_n X 0 dX11_gusts_47 rfl ?_
            refine z_get X fl_X11_10_11 dX11_gusts_48 zK12 rfl ?_
            refine z_get X fl_X11_56_3 dX11_gusts_51 zK8 rfl ?_
            refine z_aload_n X 0 dX11_gusts_54 rfl ?_
            refine z_get X fl_X11_10_11 dX11_gusts_55 zK12 rfl ?_
            refine z_callV X (c_drawn (κ := κ) (n := n) (k := (o + 1)) (zs := ((gsN (Tx d) tx k d) 13)) zK8 ) mk_X3_drawn dX11_gusts_58 wd_621 wd_622 wd_623 rfl zK8 rfl rfl rfl (Nat.le_of_ble_eq_true rfl) (Nat.le_of_ble_eq_true rfl) (Nat.le_of_ble_eq_true rfl) (by omega) (by omega) (fun q zh18 zm20 zp21 => ?_)
            obtain ⟨rfl, ze19, zn22⟩ := zp21
            subst zm20
            refine z_st (st' := [.int (drV ((gsN (Tx d) tx k d) 13)), .ref (o + 1 + 1)]) rfl ?_
            have zK23 : zh18 (o + 1) = some (.inr (3, [.ref ((o + 1) + 1), .ref ((o + 1) + 7), .ref ((o + 1) + 9), .ref ((o + 1) + 11), .int (drZ ((gsN (Tx d) tx k d) 13))])) := by rw [ze19]; exact va_up_self _ _ _
            have zK24 : zh18 (o + 2) = some (.inr (2, [.ref (o + 3), .ref (o + 4), .ref (o + 5), .ref (o + 6), .ref (o + 7), .int (nI (lnO (gsN (Tx d) tx k d))), .int ((gsN (Tx d) tx k d) 0), .int ((gsN (Tx d) tx k d) 2), .int ((gsN (Tx d) tx k d) 3), .int (nI nc), .int (d 10), .int cold3, .int wind3])) := by rw [ze19]; rw [va_up_ne _ _ (show o + 2 ≠ o + 1 by omega)]; exact zK9
            have zK25 : zh18 (o + 3) = arI κ 40 (win 100 40 (gsN (Tx d) tx k d)) := by rw [ze19]; rw [va_up_ne _ _ (show o + 3 ≠ o + 1 by omega)]; exact zK10
            have zK26 : zh18 (o + 4) = arI κ 40 (win 140 40 (gsN (Tx d) tx k d)) := by rw [ze19]; rw [va_up_ne _ _ (show o + 4 ≠ o + 1 by omega)]; exact zK11
            have zK27 : zh18 o = some (.inr (11, [.ref (o + 1), .ref (o + 14), .ref (o + 27), .ref (o + 33), .ref (o + 42), .ref (o + 55), .ref (o + 57), .ref (o + 59), .ref (o + 61), .int im])) := by rw [ze19]; rw [va_up_ne _ _ (show o ≠ o + 1 by omega)]; exact zK12
            have zK28 : zh18 (o + 5) = arI κ 6 (win 4 6 d) := by rw [ze19]; rw [va_up_ne _ _ (show o + 5 ≠ o + 1 by omega)]; exact zK13
            have zK29 : zh18 (o + 6) = arR κ 1 6 cs := by rw [ze19]; rw [va_up_ne _ _ (show o + 6 ≠ o + 1 by omega)]; exact zK14
            have zK30 : zh18 (o + 7) = arR κ 2 2 ts := by rw [ze19]; rw [va_up_ne _ _ (show o + 7 ≠ o + 1 by omega)]; exact zK15
            have zK31 : zh18 (o + 61) = arI κ 6 fo := by rw [ze19]; rw [va_up_ne _ _ (show o + 61 ≠ o + 1 by omega)]; exact zK16
            have zl32 : ∀ zq : Nat, zq < (o + 76) → zq ≠ (o + 1) → zq ≠ (o + 2) → zq ≠ (o + 3) → zq ≠ (o + 4) → zh18 zq = h zq := by intro zq hzq zn0 zn1 zn2 zn3; rw [ze19, va_up_ne _ _ (show zq ≠ o + 1 by omega)]; exact zl_42 zq hzq zn0 zn1 zn2 zn3
            have zr33 : Zr κ (o + 76) h zh18 := (zr_42).trans (Zr.same (fun zq h1 => by rw [ze19, va_up_ne _ _ (show zq ≠ o + 1 by omega)]))
            refine z_bipush (v := 100) X dX11_gusts_61 (by decide) ?_
            refine z_irem X dX11_gusts_63 (by decide) ?_
            refine z_toe (y := (gsM (gsN (Tx d) tx k d)) 7) (gs_7 _) ?_
            refine z_callV X (c_pass (κ := κ) (n := n) (i := (o + 1 + 1)) (len := (lnO (gsN (Tx d) tx k d))) (nc := (nc)) (m := (gsM (gsN (Tx d) tx k d))) (ts := (ts)) (cs := (cs)) (T := (Tx d)) (tx := (tx)) (s7 := (d 7)) (w := ((gsM (gsN (Tx d) tx k d)) 7)) (now := ((gsN (Tx d) tx k d) 0)) (dd := ((gsN (Tx d) tx k d) 2)) (dr := ((gsN (Tx d) tx k d) 3)) (on := (d 10)) (cold := (cold3)) (wind := (wind3)) zK24 ((zK25).trans (congrArg (arI κ 40) (win_ext (fun z hz => (gsM_off (by omega)).symm)))) ((zK26).trans (congrArg (arI κ 40) (win_ext (fun z hz => (gsM_off (by omega)).symm)))) ((zK28).trans (congrArg (arI κ 6) ((win_ext (fun z hz => gs_set hOk hz)).trans (win_us (m := gsM (gsN (Tx d) tx k d)) (x := d 7) (show 3 < 6 by omega))))) zK29 zK30 (by first | assumption | omega) (TsO.mono zr33 hTs) ((CsO.mono zr33 hCs).row (fun z h1 h2 => (gsM_off (by omega)).trans (gsN_off hOk (by omega) k)) q5) ((gsM_off (by omega)).trans (gsN_ok hOk k).1) ((gsN_ok (T := Tx d) (tx := tx) hOk k).2.1) ((gsN_ok (T := Tx d) (tx := tx) hOk k).2.2) (((gsM_off (by omega)).trans (gsN_off hOk (by omega) k)).trans q4) (by first | assumption | omega) (gsM_off (by omega)) ((gsM_off (by omega)).trans (gsN_off hOk (by omega) k)) (gsM_off (by omega)) (gsM_off (by omega)) (rfl) ((wf_gsM (wf_gsN hOk hS hC k)).1) ((wf_gsM (wf_gsN hOk hS hC k)).2)) mk_X2_pass dX11_gusts_64 wd_626 wd_601 wd_602 rfl zK24 rfl rfl rfl (Nat.le_of_ble_eq_true rfl) (Nat.le_of_ble_eq_true rfl) (Nat.le_of_ble_eq_true rfl) (by omega) (by omega) (fun q zh36 zm38 zp39 => ?_)
            obtain ⟨cold'34, wind'35, rfl, zn40, zf41, zr42, zK43, zK44, zK45⟩ := zp39
            subst zm38
            refine z_st (st' := []) rfl ?_
            have zK46 : zh36 (o + 1) = some (.inr (3, [.ref ((o + 1) + 1), .ref ((o + 1) + 7), .ref ((o + 1) + 9), .ref ((o + 1) + 11), .int (drZ ((gsN (Tx d) tx k d) 13))])) := (zf41 (o + 1) (by omega) (by omega) (by omega) (by omega)).trans zK23
            have zK47 : zh36 o = some (.inr (11, [.ref (o + 1), .ref (o + 14), .ref (o + 27), .ref (o + 33), .ref (o + 42), .ref (o + 55), .ref (o + 57), .ref (o + 59), .ref (o + 61), .int im])) := (zf41 o (by omega) (by omega) (by omega) (by omega)).trans zK27
            have zK48 : zh36 (o + 5) = arI κ 6 (win 4 6 d) := (zf41 (o + 5) (by omega) (by omega) (by omega) (by omega)).trans zK28
            have zK49 : zh36 (o + 6) = arR κ 1 6 cs := (zf41 (o + 6) (by omega) (by omega) (by omega) (by omega)).trans zK29
            have zK50 : zh36 (o + 7) = arR κ 2 2 ts := (zf41 (o + 7) (by omega) (by omega) (by omega) (by omega)).trans zK30
            have zK51 : zh36 (o + 61) = arI κ 6 fo := (zf41 (o + 61) (by omega) (by omega) (by omega) (by omega)).trans zK31
            have zl52 : ∀ zq : Nat, zq < (o + 76) → zq ≠ (o + 1) → zq ≠ (o + 2) → zq ≠ (o + 3) → zq ≠ (o + 4) → zh36 zq = h zq := by intro zq hzq zn0 zn1 zn2 zn3; rw [zf41 zq (by omega) (by omega) (by omega) (by omega)]; exact zl32 zq hzq zn0 zn1 zn2 zn3
            have zr53 : Zr κ (o + 76) h zh36 := (zr33).trans zr42
            refine z_iinc (v := nI (k + 1)) (ls' := [(2, .int (nI (k + 1))), (0, .ref o), (1, .int (nI vk))]) X 2 dX11_gusts_67 rfl (nI_1 (k)) (by decide) rfl ?_
            refine z_goto X 42 dX11_gusts_70 (by decide) ?_
            refine z_sub (ls' := [(0, .ref o), (1, .int (nI vk)), (2, .int (nI (k + 1)))]) [1, 2, 0] rfl ?_
            exact ih42 zh36 (k + 1) cold'34 wind'35 (by omega) (by exact fun zq hzq zn0 zn1 zn2 zn3 => zl52 zq hzq zn0 zn1 zn2 zn3) (zr53) (by rw [gsN_s, gby_off (lnOk_gsM (gsN_ok hOk k)).1 (lnOk_gsM (gsN_ok hOk k)).2.2 (by omega)]; exact zK46) (by rw [← (gsN_ok (T := Tx d) (tx := tx) hOk (k + 1)).1]; exact zK43) (by exact zK44) (by exact zK45) (by first | assumption | rfl | omega)
      refine z_sub (ls' := [(0, .ref o), (1, .int (nI vk)), (2, .int 0)]) [1, 2, 0] rfl ?_
      exact L42 _ h 0 cold wind (Nat.lt_succ_self _) (by exact fun zq hzq zn0 zn1 zn2 zn3 => rfl) (Zr.refl) (by exact K1) (by rw [show lnO (gsN (Tx d) tx 0 d) = len from lnO_of q1 q3]; exact K2) (by exact K3) (by exact K4) (by first | assumption | rfl | omega)
    · refine z_aload_n X 0 dX11_gusts_34 rfl ?_
      refine z_iconst (v := 3) X dX11_gusts_35 (by decide) ?_
      refine z_callV X (c_fail (κ := κ) (n := n) (o := (o)) (im := (im)) (fo := (fo)) (k := (3)) K0 K8 (by first | assumption | omega) (by first | assumption | omega)) mk_X11_fail dX11_gusts_36 wd_260 wd_262 wd_0 rfl K0 rfl rfl rfl (Nat.le_of_ble_eq_true rfl) (Nat.le_of_ble_eq_true rfl) (Nat.le_of_ble_eq_true rfl) (by omega) (by omega) (fun q zh54 zm56 zp57 => ?_)
      obtain ⟨rfl, ze55, zn58⟩ := zp57
      subst zm56
      refine z_st (st' := [.int (lowE 3)]) rfl ?_
      have zK59 : zh54 o = some (.inr (11, [.ref (o + 1), .ref (o + 14), .ref (o + 27), .ref (o + 33), .ref (o + 42), .ref (o + 55), .ref (o + 57), .ref (o + 59), .ref (o + 61), .int im])) := by rw [ze55]; rw [va_up_ne _ _ (show o ≠ o + 61 by omega)]; exact K0
      have zK60 : zh54 (o + 1) = some (.inr (3, [.ref (o + 1 + 1), .ref (o + 1 + 7), .ref (o + 1 + 9), .ref (o + 1 + 11), .int (d 13)])) := by rw [ze55]; rw [va_up_ne _ _ (show o + 1 ≠ o + 61 by omega)]; exact K1
      have zK61 : zh54 (o + 2) = some (.inr (2, [.ref (o + 3), .ref (o + 4), .ref (o + 5), .ref (o + 6), .ref (o + 7), .int (nI len), .int (d 0), .int (d 2), .int (d 3), .int (nI nc), .int (d 10), .int cold, .int wind])) := by rw [ze55]; rw [va_up_ne _ _ (show o + 2 ≠ o + 61 by omega)]; exact K2
      have zK62 : zh54 (o + 3) = arI κ 40 (win 100 40 d) := by rw [ze55]; rw [va_up_ne _ _ (show o + 3 ≠ o + 61 by omega)]; exact K3
      have zK63 : zh54 (o + 4) = arI κ 40 (win 140 40 d) := by rw [ze55]; rw [va_up_ne _ _ (show o + 4 ≠ o + 61 by omega)]; exact K4
      have zK64 : zh54 (o + 5) = arI κ 6 (win 4 6 d) := by rw [ze55]; rw [va_up_ne _ _ (show o + 5 ≠ o + 61 by omega)]; exact K5
      have zK65 : zh54 (o + 6) = arR κ 1 6 cs := by rw [ze55]; rw [va_up_ne _ _ (show o + 6 ≠ o + 61 by omega)]; exact K6
      have zK66 : zh54 (o + 7) = arR κ 2 2 ts := by rw [ze55]; rw [va_up_ne _ _ (show o + 7 ≠ o + 61 by omega)]; exact K7
      have zK67 : zh54 (o + 61) = arI κ 6 (bmp fo 3) := by rw [ze55]; exact va_up_self _ _ _
      have zl68 : ∀ zq : Nat, zq < (o + 76) → zq ≠ (o + 61) → zh54 zq = h zq := by intro zq hzq zn0; rw [ze55, va_up_ne _ _ (show zq ≠ o + 61 by omega)]; try rfl
      have zr69 : Zr κ (o + 76) h zh54 := (Zr.refl).trans (Zr.same (fun zq h1 => by rw [ze55, va_up_ne _ _ (show zq ≠ o + 61 by omega)]))
      refine z_iret X E dX11_gusts_39 (by omega) (by omega) ⟨cold, wind, ?_, ?_, ?_, ?_, ?_, ?_, ?_, ?_, ?_⟩
      · rw [(dGusts_3 (T := Tx d) (tx := tx) (d := d) (by assumption) (Int32.not_le.mp (by assumption))).1]; first | exact congrArg (fun z => some (Value.int z)) (ansOf_0 _).symm | rfl
      · rfl
      · exact fun zq hzq zn0 zn1 zn2 zn3 zn4 => zl68 zq hzq zn4
      · exact zr69
      · rw [(dGusts_3 (T := Tx d) (tx := tx) (d := d) (by assumption) (Int32.not_le.mp (by assumption))).2]; exact zK60
      · rw [(dGusts_3 (T := Tx d) (tx := tx) (d := d) (by assumption) (Int32.not_le.mp (by assumption))).2]; rw [q1]; exact zK61
      · rw [(dGusts_3 (T := Tx d) (tx := tx) (d := d) (by assumption) (Int32.not_le.mp (by assumption))).2]; exact zK62
      · rw [(dGusts_3 (T := Tx d) (tx := tx) (d := d) (by assumption) (Int32.not_le.mp (by assumption))).2]; exact zK63
      · rw [(dGusts_3 (T := Tx d) (tx := tx) (d := d) (by assumption) (Int32.not_le.mp (by assumption))).1]; first | (rw [bump_0]; exact zK67) | exact zK67
  · replace zc6 := b2i_f zc6
    refine z_aload_n X 0 dX11_gusts_10 rfl ?_
    refine z_iconst (v := 1) X dX11_gusts_11 (by decide) ?_
    refine z_callV X (c_fail (κ := κ) (n := n) (o := (o)) (im := (im)) (fo := (fo)) (k := (1)) K0 K8 (by first | assumption | omega) (by first | assumption | omega)) mk_X11_fail dX11_gusts_12 wd_260 wd_262 wd_0 rfl K0 rfl rfl rfl (Nat.le_of_ble_eq_true rfl) (Nat.le_of_ble_eq_true rfl) (Nat.le_of_ble_eq_true rfl) (by omega) (by omega) (fun q zh70 zm72 zp73 => ?_)
    obtain ⟨rfl, ze71, zn74⟩ := zp73
    subst zm72
    refine z_st (st' := [.int (lowE 1)]) rfl ?_
    have zK75 : zh70 o = some (.inr (11, [.ref (o + 1), .ref (o + 14), .ref (o + 27), .ref (o + 33), .ref (o + 42), .ref (o + 55), .ref (o + 57), .ref (o + 59), .ref (o + 61), .int im])) := by rw [ze71]; rw [va_up_ne _ _ (show o ≠ o + 61 by omega)]; exact K0
    have zK76 : zh70 (o + 1) = some (.inr (3, [.ref (o + 1 + 1), .ref (o + 1 + 7), .ref (o + 1 + 9), .ref (o + 1 + 11), .int (d 13)])) := by rw [ze71]; rw [va_up_ne _ _ (show o + 1 ≠ o + 61 by omega)]; exact K1
    have zK77 : zh70 (o + 2) = some (.inr (2, [.ref (o + 3), .ref (o + 4), .ref (o + 5), .ref (o + 6), .ref (o + 7), .int (nI len), .int (d 0), .int (d 2), .int (d 3), .int (nI nc), .int (d 10), .int cold, .int wind])) := by rw [ze71]; rw [va_up_ne _ _ (show o + 2 ≠ o + 61 by omega)]; exact K2
    have zK78 : zh70 (o + 3) = arI κ 40 (win 100 40 d) := by rw [ze71]; rw [va_up_ne _ _ (show o + 3 ≠ o + 61 by omega)]; exact K3
    have zK79 : zh70 (o + 4) = arI κ 40 (win 140 40 d) := by rw [ze71]; rw [va_up_ne _ _ (show o + 4 ≠ o + 61 by omega)]; exact K4
    have zK80 : zh70 (o + 5) = arI κ 6 (win 4 6 d) := by rw [ze71]; rw [va_up_ne _ _ (show o + 5 ≠ o + 61 by omega)]; exact K5
    have zK81 : zh70 (o + 6) = arR κ 1 6 cs := by rw [ze71]; rw [va_up_ne _ _ (show o + 6 ≠ o + 61 by omega)]; exact K6
    have zK82 : zh70 (o + 7) = arR κ 2 2 ts := by rw [ze71]; rw [va_up_ne _ _ (show o + 7 ≠ o + 61 by omega)]; exact K7
    have zK83 : zh70 (o + 61) = arI κ 6 (bmp fo 1) := by rw [ze71]; exact va_up_self _ _ _
    have zl84 : ∀ zq : Nat, zq < (o + 76) → zq ≠ (o + 61) → zh70 zq = h zq := by intro zq hzq zn0; rw [ze71, va_up_ne _ _ (show zq ≠ o + 61 by omega)]; try rfl
    have zr85 : Zr κ (o + 76) h zh70 := (Zr.refl).trans (Zr.same (fun zq h1 => by rw [ze71, va_up_ne _ _ (show zq ≠ o + 61 by omega)]))
    refine z_iret X E dX11_gusts_15 (by omega) (by omega) ⟨cold, wind, ?_, ?_, ?_, ?_, ?_, ?_, ?_, ?_, ?_⟩
    · rw [(dGusts_1 (T := Tx d) (tx := tx) (d := d) (v := v) (by assumption)).1]; first | exact congrArg (fun z => some (Value.int z)) (ansOf_0 _).symm | rfl
    · rfl
    · exact fun zq hzq zn0 zn1 zn2 zn3 zn4 => zl84 zq hzq zn4
    · exact zr85
    · rw [(dGusts_1 (T := Tx d) (tx := tx) (d := d) (v := v) (by assumption)).2]; exact zK76
    · rw [(dGusts_1 (T := Tx d) (tx := tx) (d := d) (v := v) (by assumption)).2]; rw [q1]; exact zK77
    · rw [(dGusts_1 (T := Tx d) (tx := tx) (d := d) (v := v) (by assumption)).2]; exact zK78
    · rw [(dGusts_1 (T := Tx d) (tx := tx) (d := d) (v := v) (by assumption)).2]; exact zK79
    · rw [(dGusts_1 (T := Tx d) (tx := tx) (d := d) (v := v) (by assumption)).1]; first | (rw [bump_0]; exact zK83) | exact zK83
