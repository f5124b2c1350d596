theorem mov_win {nu : Nat → Int32} {sk tk2 ik jk vk : Nat} (h1 : vk + ik ≤ 40) (h2 : vk + jk ≤ 40) : ∀ k, k < 40 → va_cpy (win (40 * sk) 40 nu) (win (40 * tk2) 40 nu) ik jk vk k = win (40 * tk2) 40 (nuMov nu sk ik tk2 jk vk) k := by
  intro k hk
  rw [win_at hk]
  unfold va_cpy nuMov
  by_cases h : jk ≤ k ∧ k < jk + vk
  · rw [if_pos h, if_pos (by omega), win_at (by omega)]
    exact congrArg nu (by omega)
  · rw [if_neg h, if_neg (by omega), win_at hk]
set_option maxHeartbeats 4000000 in
set_option maxRecDepth 100000 in
theorem p_move {κ : Wc} {l : Launch} {h : Mm} {n : Nat} {o : Nat} {im : Int32} {fo : Nat → Int32} {s : Int32} {i : Int32} {t : Int32} {j : Int32} {v : Int32} {bi : Nat → Int32} {ss : Nat → Nat} {nu : Nat → Int32} (K0 : h o = some (.inr (11, [.ref (o + 1), .ref (o + 14), .ref (o + 27), .ref (o + 33), .ref (o + 42), .ref (o + 55), .ref (o + 57), .ref (o + 59), .ref (o + 61), .int im]))) (K1 : h (o + 33) = arR κ 3 4 (shF o)) (K2 : h (o + 61) = arI κ 6 fo) (hSh : ShO κ o h bi ss nu) : Con κ l yX11_move cX11_move 8 (some .int) 4 0 0 [.ref o, .int s, .int i, .int t, .int j, .int v] h n (fun q h' n' => q = some (.int (ansOf (opMove bi ss s i t j v))) ∧ n' = n ∧ (∀ zq : Nat, zq < (o + 76) → zq ≠ (o + 61) → zq ≠ (o + 34) → zq ≠ (o + 35) → zq ≠ (o + 36) → zq ≠ (o + 37) → zq ≠ (o + 38) → zq ≠ (o + 39) → zq ≠ (o + 40) → zq ≠ (o + 41) → h' zq = h zq) ∧ Zr κ (o + 76) h h' ∧ h' (o + 61) = arI κ 6 (bump (opMove bi ss s i t j v) fo) ∧ ShO κ o h' bi ss (nuMove nu bi ss s i t j v)) := by
  refine Con.of mk_X11_move (Nat.le_of_ble_eq_true rfl) (fun G hG X E => ?_)
  subst hG
  refine z_ls (ls' := [(0, .ref o), (1, .int s), (2, .int i), (3, .int t), (4, .int j), (5, .int v)]) rfl ?_
  refine z_iload_n X 1 dX11_move_0 rfl ?_
  refine z_callS X (c_isSheet (κ := κ) (n := n) (v := (s))  ) mk_X11_isSheet dX11_move_1 wd_288 wd_289 rfl rfl (Nat.le_of_ble_eq_true rfl) (Nat.le_of_ble_eq_true rfl) (Nat.le_of_ble_eq_true rfl) (by omega) (by omega) (fun q zh1 zm3 zp4 => ?_)
  obtain ⟨rfl, ze2, zn5⟩ := zp4
  subst zm3
  subst zh1
  refine z_st (st' := [.int (b2i (0 ≤ (s : Int32).toInt ∧ (s : Int32).toInt ≤ 3))]) rfl ?_
  refine z_if_eq X 14 dX11_move_4 (by decide) (fun zc6 => ?_) (fun zc6 => ?_)
  · replace zc6 := b2i_f zc6
    refine z_aload_n X 0 dX11_move_14 rfl ?_
    refine z_iconst (v := 1) X dX11_move_15 (by decide) ?_
    refine z_callV X (c_fail (κ := κ) (n := n) (o := (o)) (im := (im)) (fo := (fo)) (k := (1)) K0 K2 (by first | assumption | omega) (by first | assumption | omega)) mk_X11_fail dX11_move_16 wd_260 wd_262 wd_0 rfl K0 rfl rfl rfl (Nat.le_of_ble_eq_true rfl) (Nat.le_of_ble_eq_true rfl) (Nat.le_of_ble_eq_true rfl) (by omega) (by omega) (fun q zh7 zm9 zp10 => ?_)
    obtain ⟨rfl, ze8, zn11⟩ := zp10
    subst zm9
    refine z_st (st' := [.int (lowE 1)]) rfl ?_
    have zK12 : zh7 o = some (.inr (11, [.ref (o + 1), .ref (o + 14), .ref (o + 27), .ref (o + 33), .ref (o + 42), .ref (o + 55), .ref (o + 57), .ref (o + 59), .ref (o + 61), .int im])) := by rw [ze8]; rw [va_up_ne _ _ (show o ≠ o + 61 by omega)]; exact K0
    have zK13 : zh7 (o + 33) = arR κ 3 4 (shF o) := by rw [ze8]; rw [va_up_ne _ _ (show o + 33 ≠ o + 61 by omega)]; exact K1
    have zK14 : zh7 (o + 61) = arI κ 6 (bmp fo 1) := by rw [ze8]; exact va_up_self _ _ _
    have zl15 : ∀ zq : Nat, zq < (o + 76) → zq ≠ (o + 61) → zh7 zq = h zq := by intro zq hzq zn0; rw [ze8, va_up_ne _ _ (show zq ≠ o + 61 by omega)]; try rfl
    have zr16 : Zr κ (o + 76) h zh7 := (Zr.refl).trans (Zr.same (fun zq h1 => by rw [ze8, va_up_ne _ _ (show zq ≠ o + 61 by omega)]))
    have hop := opMove_1 (bi := bi) (ss := ss) (s := s) (t := t) (i := i) (j := j) (v := v) (by omega)
    refine z_iret X E dX11_move_19 (by omega) (by omega) ⟨?_, ?_, ?_, ?_, ?_, ?_⟩
    · rw [hop]; first | exact congrArg (fun z => some (Value.int z)) (ansOf_0 _).symm | rfl
    · rfl
    · exact fun zq hzq zn0 zn1 zn2 zn3 zn4 zn5 zn6 zn7 zn8 => zl15 zq hzq zn0
    · exact zr16
    · rw [hop]; first | (rw [bump_0]; exact zK14) | exact zK14
    · rw [nuMove_x hop (by decide)]; exact hSh.same (fun zq h1 h2 => zl15 zq (by omega) (by omega))
  · replace zc6 := b2i_t zc6
    refine z_iload_n X 3 dX11_move_7 rfl ?_
    refine z_callS X (c_isSheet (κ := κ) (n := n) (v := (t))  ) mk_X11_isSheet dX11_move_8 wd_288 wd_289 rfl rfl (Nat.le_of_ble_eq_true rfl) (Nat.le_of_ble_eq_true rfl) (Nat.le_of_ble_eq_true rfl) (by omega) (by omega) (fun q zh17 zm19 zp20 => ?_)
    obtain ⟨rfl, ze18, zn21⟩ := zp20
    subst zm19
    subst zh17
    refine z_st (st' := [.int (b2i (0 ≤ (t : Int32).toInt ∧ (t : Int32).toInt ≤ 3))]) rfl ?_
    refine z_if_ne X 20 dX11_move_11 (by decide) (fun zc22 => ?_) (fun zc22 => ?_)
    · replace zc22 := b2i_t zc22
      obtain ⟨sk, hsk, rfl⟩ := ix_of (c := s) (len := 4) (by omega) (by omega)
      obtain ⟨tk2, htk2, rfl⟩ := ix_of (c := t) (len := 4) (by omega) (by omega)
      by_cases hst : sk = tk2
      · skip
        subst hst
        have zS23 := (hSh sk hsk).1
        have zS24 := (hSh sk hsk).2.1
        have hss_sk := (hSh sk hsk).2.2
        refine z_aload_n X 0 dX11_move_20 rfl ?_
        refine z_get X fl_X11_28_11 dX11_move_21 K0 rfl ?_
        refine z_iload_n X 1 dX11_move_24 rfl ?_
        refine z_aald (t := 3) (v := .ref (o + 34 + 2 * sk)) X dX11_move_25 K1 rfl (vp_in_nI (n := sk) (by omega) (by omega)) (by rw [nI_clamp (by omega)]; rfl) ?_
        refine z_astore (ls' := [(6, .ref (o + 34 + 2 * sk)), (0, .ref o), (1, .int (nI sk)), (2, .int i), (3, .int (nI sk)), (4, .int j), (5, .int v)]) X dX11_move_26 (by decide) rfl ?_
        refine z_aload_n X 1 dX11_move_28 rfl ?_
        refine z_get X fl_X11_28_11 dX11_move_29 K0 rfl ?_
        refine z_iload_n X 4 dX11_move_32 rfl ?_
        refine z_aald (t := 3) (v := .ref (o + 34 + 2 * sk)) X dX11_move_33 K1 rfl (vp_in_nI (n := sk) (by omega) (by omega)) (by rw [nI_clamp (by omega)]; rfl) ?_
        refine z_astore (ls' := [(7, .ref (o + 34 + 2 * sk)), (6, .ref (o + 34 + 2 * sk)), (0, .ref o), (1, .int (nI sk)), (2, .int i), (3, .int (nI sk)), (4, .int j), (5, .int v)]) X dX11_move_34 (by decide) rfl ?_
        refine z_aload X 1 dX11_move_36 rfl ?_
        refine z_callV X (c_Row_isMissing (κ := κ) (n := n) (r := (o + 34 + 2 * sk)) (sz := (nI (ss sk))) (bt := (bi sk)) zS23 ) mk_X6_isMissing dX11_move_38 wd_291 wd_292 wd_293 rfl zS23 rfl rfl rfl (Nat.le_of_ble_eq_true rfl) (Nat.le_of_ble_eq_true rfl) (Nat.le_of_ble_eq_true rfl) (by omega) (by omega) (fun q zh25 zm27 zp28 => ?_)
        obtain ⟨rfl, ze26, zn29⟩ := zp28
        subst zm27
        subst zh25
        refine z_st (st' := [.int (b2i ((bi sk) = 0))]) rfl ?_
        refine z_if_ne X 52 dX11_move_41 (by decide) (fun zc30 => ?_) (fun zc30 => ?_)
        · replace zc30 := b2i_t zc30
          refine z_aload_n X 2 dX11_move_52 rfl ?_
          refine z_iconst (v := 2) X dX11_move_53 (by decide) ?_
          refine z_callV X (c_fail (κ := κ) (n := n) (o := (o)) (im := (im)) (fo := (fo)) (k := (2)) K0 K2 (by first | assumption | omega) (by first | assumption | omega)) mk_X11_fail dX11_move_54 wd_260 wd_262 wd_0 rfl K0 rfl rfl rfl (Nat.le_of_ble_eq_true rfl) (Nat.le_of_ble_eq_true rfl) (Nat.le_of_ble_eq_true rfl) (by omega) (by omega) (fun q zh31 zm33 zp34 => ?_)
          obtain ⟨rfl, ze32, zn35⟩ := zp34
          subst zm33
          refine z_st (st' := [.int (lowE 2)]) rfl ?_
          have zK36 : zh31 o = some (.inr (11, [.ref (o + 1), .ref (o + 14), .ref (o + 27), .ref (o + 33), .ref (o + 42), .ref (o + 55), .ref (o + 57), .ref (o + 59), .ref (o + 61), .int im])) := by rw [ze32]; rw [va_up_ne _ _ (show o ≠ o + 61 by omega)]; exact K0
          have zK37 : zh31 (o + 33) = arR κ 3 4 (shF o) := by rw [ze32]; rw [va_up_ne _ _ (show o + 33 ≠ o + 61 by omega)]; exact K1
          have zK38 : zh31 (o + 61) = arI κ 6 (bmp fo 2) := by rw [ze32]; exact va_up_self _ _ _
          have zK39 : zh31 (o + 34 + 2 * sk) = some (.inr (6, [.ref (o + 34 + 2 * sk + 1), .int (nI (ss sk)), .int (bi sk)])) := by rw [ze32]; rw [va_up_ne _ _ (show o + 34 + 2 * sk ≠ o + 61 by omega)]; exact zS23
          have zK40 : zh31 (o + 34 + 2 * sk + 1) = arI κ 40 (win (40 * sk) 40 nu) := by rw [ze32]; rw [va_up_ne _ _ (show o + 34 + 2 * sk + 1 ≠ o + 61 by omega)]; exact zS24
          have zl41 : ∀ zq : Nat, zq < (o + 76) → zq ≠ (o + 61) → zh31 zq = h zq := by intro zq hzq zn0; rw [ze32, va_up_ne _ _ (show zq ≠ o + 61 by omega)]; try rfl
          have zr42 : Zr κ (o + 76) h zh31 := (Zr.refl).trans (Zr.same (fun zq h1 => by rw [ze32, va_up_ne _ _ (show zq ≠ o + 61 by omega)]))
          have hop := (show opMove bi ss (nI sk) i (nI sk) j v = (2, 0) from opMove_2 hsk hsk (by first | exact Or.inl (by assumption) | exact Or.inr (by assumption)))
          refine z_iret X E dX11_move_57 (by omega) (by omega) ⟨?_, ?_, ?_, ?_, ?_, ?_⟩
          · rw [hop]; first | exact congrArg (fun z => some (Value.int z)) (ansOf_0 _).symm | rfl
          · rfl
          · exact fun zq hzq zn0 zn1 zn2 zn3 zn4 zn5 zn6 zn7 zn8 => zl41 zq hzq zn0
          · exact zr42
          · rw [hop]; first | (rw [bump_0]; exact zK38) | exact zK38
          · rw [nuMove_x hop (by decide)]; exact hSh.same (fun zq h1 h2 => zl41 zq (by omega) (by omega))
        · replace zc30 := b2i_f zc30
          refine z_aload X 0 dX11_move_44 rfl ?_
          refine z_callV X (c_Row_isMissing (κ := κ) (n := n) (r := (o + 34 + 2 * sk)) (sz := (nI (ss sk))) (bt := (bi sk)) zS23 ) mk_X6_isMissing dX11_move_46 wd_291 wd_292 wd_293 rfl zS23 rfl rfl rfl (Nat.le_of_ble_eq_true rfl) (Nat.le_of_ble_eq_true rfl) (Nat.le_of_ble_eq_true rfl) (by omega) (by omega) (fun q zh43 zm45 zp46 => ?_)
          obtain ⟨rfl, ze44, zn47⟩ := zp46
          subst zm45
          subst zh43
          refine z_st (st' := [.int (b2i ((bi sk) = 0))]) rfl ?_
          refine z_if_eq X 58 dX11_move_49 (by decide) (fun zc48 => ?_) (fun zc48 => ?_)
          · replace zc48 := b2i_f zc48
            refine z_aload X 1 dX11_move_58 rfl ?_
            refine z_get X fl_X11_285_6 dX11_move_60 zS23 rfl ?_
            refine z_aload X 0 dX11_move_63 rfl ?_
            refine z_get X fl_X11_285_6 dX11_move_65 zS23 rfl ?_
            refine z_icmp_eq X 77 dX11_move_68 (by decide) (fun zc49 => ?_) (fun zc49 => ?_)
            · refine z_aload X 1 dX11_move_77 rfl ?_
              refine z_iload_n X 4 dX11_move_79 rfl ?_
              refine z_iload X 7 dX11_move_80 rfl ?_
              refine z_callV X (c_Row_spans (κ := κ) (n := n) (r := (o + 34 + 2 * sk)) (k := (ss sk)) (bt := (bi sk)) (i := (i)) (j := (v)) zS23 (by omega)) mk_X6_spans dX11_move_82 wd_886 wd_887 wd_888 rfl zS23 rfl rfl rfl (Nat.le_of_ble_eq_true rfl) (Nat.le_of_ble_eq_true rfl) (Nat.le_of_ble_eq_true rfl) (by omega) (by omega) (fun q zh50 zm52 zp53 => ?_)
              obtain ⟨rfl, ze51, zn54⟩ := zp53
              subst zm52
              subst zh50
              refine z_st (st' := [.int (b2i (0 ≤ (i : Int32).toInt ∧ 0 ≤ (v : Int32).toInt ∧ (i : Int32).toInt + (v : Int32).toInt ≤ (ss sk)))]) rfl ?_
              refine z_if_eq X 100 dX11_move_85 (by decide) (fun zc55 => ?_) (fun zc55 => ?_)
              · replace zc55 := b2i_f zc55
                have hsp1 := zc55
                refine z_aload_n X 2 dX11_move_100 rfl ?_
                refine z_iconst (v := 1) X dX11_move_101 (by decide) ?_
                refine z_callV X (c_fail (κ := κ) (n := n) (o := (o)) (im := (im)) (fo := (fo)) (k := (1)) K0 K2 (by first | assumption | omega) (by first | assumption | omega)) mk_X11_fail dX11_move_102 wd_260 wd_262 wd_0 rfl K0 rfl rfl rfl (Nat.le_of_ble_eq_true rfl) (Nat.le_of_ble_eq_true rfl) (Nat.le_of_ble_eq_true rfl) (by omega) (by omega) (fun q zh56 zm58 zp59 => ?_)
                obtain ⟨rfl, ze57, zn60⟩ := zp59
                subst zm58
                refine z_st (st' := [.int (lowE 1)]) rfl ?_
                have zK61 : zh56 o = some (.inr (11, [.ref (o + 1), .ref (o + 14), .ref (o + 27), .ref (o + 33), .ref (o + 42), .ref (o + 55), .ref (o + 57), .ref (o + 59), .ref (o + 61), .int im])) := by rw [ze57]; rw [va_up_ne _ _ (show o ≠ o + 61 by omega)]; exact K0
                have zK62 : zh56 (o + 33) = arR κ 3 4 (shF o) := by rw [ze57]; rw [va_up_ne _ _ (show o + 33 ≠ o + 61 by omega)]; exact K1
                have zK63 : zh56 (o + 61) = arI κ 6 (bmp fo 1) := by rw [ze57]; exact va_up_self _ _ _
                have zK64 : zh56 (o + 34 + 2 * sk) = some (.inr (6, [.ref (o + 34 + 2 * sk + 1), .int (nI (ss sk)), .int (bi sk)])) := by rw [ze57]; rw [va_up_ne _ _ (show o + 34 + 2 * sk ≠ o + 61 by omega)]; exact zS23
                have zK65 : zh56 (o + 34 + 2 * sk + 1) = arI κ 40 (win (40 * sk) 40 nu) := by rw [ze57]; rw [va_up_ne _ _ (show o + 34 + 2 * sk + 1 ≠ o + 61 by omega)]; exact zS24
                have zl66 : ∀ zq : Nat, zq < (o + 76) → zq ≠ (o + 61) → zh56 zq = h zq := by intro zq hzq zn0; rw [ze57, va_up_ne _ _ (show zq ≠ o + 61 by omega)]; try rfl
                have zr67 : Zr κ (o + 76) h zh56 := (Zr.refl).trans (Zr.same (fun zq h1 => by rw [ze57, va_up_ne _ _ (show zq ≠ o + 61 by omega)]))
                have hop := (show opMove bi ss (nI sk) i (nI sk) j v = (1, 0) from opMove_b hsk hsk (by assumption) (by assumption) rfl (fun zq => (by (first | exact hsp1 ⟨zq.2.1, zq.1, (by have := zq.2.2.2.1; omega)⟩ | exact hsp2 ⟨zq.2.2.1, zq.1, (by have := zq.2.2.2.2; omega)⟩))))
                refine z_iret X E dX11_move_105 (by omega) (by omega) ⟨?_, ?_, ?_, ?_, ?_, ?_⟩
                · rw [hop]; first | exact congrArg (fun z => some (Value.int z)) (ansOf_0 _).symm | rfl
                · rfl
                · exact fun zq hzq zn0 zn1 zn2 zn3 zn4 zn5 zn6 zn7 zn8 => zl66 zq hzq zn0
                · exact zr67
                · rw [hop]; first | (rw [bump_0]; exact zK63) | exact zK63
                · rw [nuMove_x hop (by decide)]; exact hSh.same (fun zq h1 h2 => zl66 zq (by omega) (by omega))
              · replace zc55 := b2i_t zc55
                have hsp1 := zc55
                refine z_aload X 0 dX11_move_88 rfl ?_
                refine z_iload X 6 dX11_move_90 rfl ?_
                refine z_iload X 7 dX11_move_92 rfl ?_
                refine z_callV X (c_Row_spans (κ := κ) (n := n) (r := (o + 34 + 2 * sk)) (k := (ss sk)) (bt := (bi sk)) (i := (j)) (j := (v)) zS23 (by omega)) mk_X6_spans dX11_move_94 wd_886 wd_887 wd_888 rfl zS23 rfl rfl rfl (Nat.le_of_ble_eq_true rfl) (Nat.le_of_ble_eq_true rfl) (Nat.le_of_ble_eq_true rfl) (by omega) (by omega) (fun q zh68 zm70 zp71 => ?_)
                obtain ⟨rfl, ze69, zn72⟩ := zp71
                subst zm70
                subst zh68
                refine z_st (st' := [.int (b2i (0 ≤ (j : Int32).toInt ∧ 0 ≤ (v : Int32).toInt ∧ (j : Int32).toInt + (v : Int32).toInt ≤ (ss sk)))]) rfl ?_
                refine z_if_ne X 106 dX11_move_97 (by decide) (fun zc73 => ?_) (fun zc73 => ?_)
                · replace zc73 := b2i_t zc73
                  have hsp2 := zc73
                  have hmv : movP ss sk sk i j v := ⟨hsp1.2.1, hsp1.1, hsp2.1, (by have := hsp1.2.2; omega), (by have := hsp2.2.2; omega)⟩
                  obtain ⟨ik, hik, rfl⟩ := ix_of (c := i) (len := 41) (by omega) (by omega)
                  obtain ⟨jk, hjk, rfl⟩ := ix_of (c := j) (len := 41) (by omega) (by omega)
                  obtain ⟨vk, hvk, rfl⟩ := ix_of (c := v) (len := 41) (by omega) (by omega)
                  have hmv2 := hmv
                  simp only [movP, i_nI (n := ik) (by omega), i_nI (n := jk) (by omega), i_nI (n := vk) (by omega)] at hmv2
                  refine z_aload X 1 dX11_move_106 rfl ?_
                  refine z_get X fl_X11_291_6 dX11_move_108 zS23 rfl ?_
                  refine z_iload_n X 4 dX11_move_111 rfl ?_
                  refine z_aload X 0 dX11_move_112 rfl ?_
                  refine z_get X fl_X11_291_6 dX11_move_114 zS23 rfl ?_
                  refine z_iload X 6 dX11_move_117 rfl ?_
                  refine z_iload X 7 dX11_move_119 rfl ?_
                  refine z_copy X dX11_move_121 wd_890 wd_102 wd_101 wd_61 zS24 zS24 (nI_pos (by omega)) (nI_pos (by omega)) (nI_pos (by omega)) (by rw [nI_clamp (by omega), nI_clamp (by omega)]; omega) (by rw [nI_clamp (by omega), nI_clamp (by omega)]; omega) (Nat.le_of_ble_eq_true rfl) (Nat.le_of_ble_eq_true rfl) (by rw [nI_clamp (by omega), nI_clamp (by omega), nI_clamp (by omega)]) ?_
                  obtain ⟨zh74, ze75⟩ : ∃ z : Mm, z = va_up h (o + 34 + 2 * sk + 1) (arI κ 40 (va_cpy (win (40 * sk) 40 nu) (win (40 * sk) 40 nu) ik jk vk)) := ⟨_, rfl⟩
                  refine z_heap (h' := zh74) ze75.symm ?_
                  have zK76 := up_off ze75 (show o ≠ o + 34 + 2 * sk + 1 by omega) K0
                  have zK77 := up_off ze75 (show o + 33 ≠ o + 34 + 2 * sk + 1 by omega) K1
                  have zK78 := up_off ze75 (show o + 61 ≠ o + 34 + 2 * sk + 1 by omega) K2
                  have zK79 := up_off ze75 (show o + 34 + 2 * sk ≠ o + 34 + 2 * sk + 1 by omega) zS23
                  have zK80 := up_at ze75
                  have zl81 : ∀ zq : Nat, zq < (o + 76) → zq ≠ (o + 34 + 2 * sk + 1) → zh74 zq = h zq := by intro zq hzq zn0; rw [ze75, va_up_ne _ _ (show zq ≠ o + 34 + 2 * sk + 1 by omega)]; try rfl
                  have zr82 : Zr κ (o + 76) h zh74 := (Zr.refl).trans (Zr.same (fun zq h1 => by rw [ze75, va_up_ne _ _ (show zq ≠ o + 34 + 2 * sk + 1 by omega)]))
                  refine z_ext (g := win (40 * sk) 40 (nuMov nu sk ik sk jk vk)) zK80 (mov_win (by omega) (by omega)) ?_
                  obtain ⟨zh83, ze84⟩ : ∃ z : Mm, z = va_up zh74 (o + 34 + 2 * sk + 1) (arI κ 40 (win (40 * sk) 40 (nuMov nu sk ik sk jk vk))) := ⟨_, rfl⟩
                  refine z_heap (h' := zh83) ze84.symm ?_
                  have zK85 := up_off ze84 (show o ≠ o + 34 + 2 * sk + 1 by omega) zK76
                  have zK86 := up_off ze84 (show o + 33 ≠ o + 34 + 2 * sk + 1 by omega) zK77
                  have zK87 := up_off ze84 (show o + 61 ≠ o + 34 + 2 * sk + 1 by omega) zK78
                  have zK88 := up_off ze84 (show o + 34 + 2 * sk ≠ o + 34 + 2 * sk + 1 by omega) zK79
                  have zK89 := up_at ze84
                  have zl90 : ∀ zq : Nat, zq < (o + 76) → zq ≠ (o + 34 + 2 * sk + 1) → zh83 zq = h zq := by intro zq hzq zn0; rw [ze84, va_up_ne _ _ (show zq ≠ o + 34 + 2 * sk + 1 by omega)]; exact zl81 zq hzq zn0
                  have zr91 : Zr κ (o + 76) h zh83 := (zr82).trans (Zr.same (fun zq h1 => by rw [ze84, va_up_ne _ _ (show zq ≠ o + 34 + 2 * sk + 1 by omega)]))
                  refine z_iload X 7 dX11_move_124 rfl ?_
                  have hop := (show opMove bi ss (nI sk) (nI ik) (nI sk) (nI jk) (nI vk) = (0, (nI vk)) from opMove_0 hsk hsk (by assumption) (by assumption) rfl hmv)
                  refine z_iret X E dX11_move_126 (by omega) (by omega) ⟨?_, ?_, ?_, ?_, ?_, ?_⟩
                  · rw [hop]; first | exact congrArg (fun z => some (Value.int z)) (ansOf_0 _).symm | rfl
                  · rfl
                  · exact fun zq hzq zn0 zn1 zn2 zn3 zn4 zn5 zn6 zn7 zn8 => zl90 zq hzq (by omega)
                  · exact zr91
                  · rw [hop]; first | (rw [bump_0]; exact zK87) | exact zK87
                  · rw [nuMove_0 (by omega) (by omega) (by omega) hsk hsk hop]; exact hSh.one hsk (fun zq h1 h2 h3 h4 => zl90 zq (by omega) h4) zK88 zK89 hss_sk rfl (fun s2 h1 h2 => ⟨rfl, rfl, fun j2 h3 => if_neg (by omega)⟩)
                · replace zc73 := b2i_f zc73
                  have hsp2 := zc73
                  refine z_aload_n X 2 dX11_move_100 rfl ?_
                  refine z_iconst (v := 1) X dX11_move_101 (by decide) ?_
                  refine z_callV X (c_fail (κ := κ) (n := n) (o := (o)) (im := (im)) (fo := (fo)) (k := (1)) K0 K2 (by first | assumption | omega) (by first | assumption | omega)) mk_X11_fail dX11_move_102 wd_260 wd_262 wd_0 rfl K0 rfl rfl rfl (Nat.le_of_ble_eq_true rfl) (Nat.le_of_ble_eq_true rfl) (Nat.le_of_ble_eq_true rfl) (by omega) (by omega) (fun q zh92 zm94 zp95 => ?_)
                  obtain ⟨rfl, ze93, zn96⟩ := zp95
                  subst zm94
                  refine z_st (st' := [.int (lowE 1)]) rfl ?_
                  have zK97 : zh92 o = some (.inr (11, [.ref (o + 1), .ref (o + 14), .ref (o + 27), .ref (o + 33), .ref (o + 42), .ref (o + 55), .ref (o + 57), .ref (o + 59), .ref (o + 61), .int im])) := by rw [ze93]; rw [va_up_ne _ _ (show o ≠ o + 61 by omega)]; exact K0
                  have zK98 : zh92 (o + 33) = arR κ 3 4 (shF o) := by rw [ze93]; rw [va_up_ne _ _ (show o + 33 ≠ o + 61 by omega)]; exact K1
                  have zK99 : zh92 (o + 61) = arI κ 6 (bmp fo 1) := by rw [ze93]; exact va_up_self _ _ _
                  have zK100 : zh92 (o + 34 + 2 * sk) = some (.inr (6, [.ref (o + 34 + 2 * sk + 1), .int (nI (ss sk)), .int (bi sk)])) := by rw [ze93]; rw [va_up_ne _ _ (show o + 34 + 2 * sk ≠ o + 61 by omega)]; exact zS23
                  have zK101 : zh92 (o + 34 + 2 * sk + 1) = arI κ 40 (win (40 * sk) 40 nu) := by rw [ze93]; rw [va_up_ne _ _ (show o + 34 + 2 * sk + 1 ≠ o + 61 by omega)]; exact zS24
                  have zl102 : ∀ zq : Nat, zq < (o + 76) → zq ≠ (o + 61) → zh92 zq = h zq := by intro zq hzq zn0; rw [ze93, va_up_ne _ _ (show zq ≠ o + 61 by omega)]; try rfl
                  have zr103 : Zr κ (o + 76) h zh92 := (Zr.refl).trans (Zr.same (fun zq h1 => by rw [ze93, va_up_ne _ _ (show zq ≠ o + 61 by omega)]))
                  have hop := (show opMove bi ss (nI sk) i (nI sk) j v = (1, 0) from opMove_b hsk hsk (by assumption) (by assumption) rfl (fun zq => (by (first | exact hsp1 ⟨zq.2.1, zq.1, (by have := zq.2.2.2.1; omega)⟩ | exact hsp2 ⟨zq.2.2.1, zq.1, (by have := zq.2.2.2.2; omega)⟩))))
                  refine z_iret X E dX11_move_105 (by omega) (by omega) ⟨?_, ?_, ?_, ?_, ?_, ?_⟩
                  · rw [hop]; first | exact congrArg (fun z => some (Value.int z)) (ansOf_0 _).symm | rfl
                  · rfl
                  · exact fun zq hzq zn0 zn1 zn2 zn3 zn4 zn5 zn6 zn7 zn8 => zl102 zq hzq zn0
                  · exact zr103
                  · rw [hop]; first | (rw [bump_0]; exact zK99) | exact zK99
                  · rw [nuMove_x hop (by decide)]; exact hSh.same (fun zq h1 h2 => zl102 zq (by omega) (by omega))
            · refine z_aload_n X 2 dX11_move_71 rfl ?_
              refine z_iconst (v := 5) X dX11_move_72 (by decide) ?_
              refine z_callV X (c_fail (κ := κ) (n := n) (o := (o)) (im := (im)) (fo := (fo)) (k := (5)) K0 K2 (by first | assumption | omega) (by first | assumption | omega)) mk_X11_fail dX11_move_73 wd_260 wd_262 wd_0 rfl K0 rfl rfl rfl (Nat.le_of_ble_eq_true rfl) (Nat.le_of_ble_eq_true rfl) (Nat.le_of_ble_eq_true rfl) (by omega) (by omega) (fun q zh104 zm106 zp107 => ?_)
              obtain ⟨rfl, ze105, zn108⟩ := zp107
              subst zm106
              refine z_st (st' := [.int (lowE 5)]) rfl ?_
              have zK109 : zh104 o = some (.inr (11, [.ref (o + 1), .ref (o + 14), .ref (o + 27), .ref (o + 33), .ref (o + 42), .ref (o + 55), .ref (o + 57), .ref (o + 59), .ref (o + 61), .int im])) := by rw [ze105]; rw [va_up_ne _ _ (show o ≠ o + 61 by omega)]; exact K0
              have zK110 : zh104 (o + 33) = arR κ 3 4 (shF o) := by rw [ze105]; rw [va_up_ne _ _ (show o + 33 ≠ o + 61 by omega)]; exact K1
              have zK111 : zh104 (o + 61) = arI κ 6 (bmp fo 5) := by rw [ze105]; exact va_up_self _ _ _
              have zK112 : zh104 (o + 34 + 2 * sk) = some (.inr (6, [.ref (o + 34 + 2 * sk + 1), .int (nI (ss sk)), .int (bi sk)])) := by rw [ze105]; rw [va_up_ne _ _ (show o + 34 + 2 * sk ≠ o + 61 by omega)]; exact zS23
              have zK113 : zh104 (o + 34 + 2 * sk + 1) = arI κ 40 (win (40 * sk) 40 nu) := by rw [ze105]; rw [va_up_ne _ _ (show o + 34 + 2 * sk + 1 ≠ o + 61 by omega)]; exact zS24
              have zl114 : ∀ zq : Nat, zq < (o + 76) → zq ≠ (o + 61) → zh104 zq = h zq := by intro zq hzq zn0; rw [ze105, va_up_ne _ _ (show zq ≠ o + 61 by omega)]; try rfl
              have zr115 : Zr κ (o + 76) h zh104 := (Zr.refl).trans (Zr.same (fun zq h1 => by rw [ze105, va_up_ne _ _ (show zq ≠ o + 61 by omega)]))
              have hop := (show opMove bi ss (nI sk) i (nI sk) j v = (5, 0) from opMove_5 hsk hsk (by assumption) (by assumption) (by assumption))
              refine z_iret X E dX11_move_76 (by omega) (by omega) ⟨?_, ?_, ?_, ?_, ?_, ?_⟩
              · rw [hop]; first | exact congrArg (fun z => some (Value.int z)) (ansOf_0 _).symm | rfl
              · rfl
              · exact fun zq hzq zn0 zn1 zn2 zn3 zn4 zn5 zn6 zn7 zn8 => zl114 zq hzq zn0
              · exact zr115
              · rw [hop]; first | (rw [bump_0]; exact zK111) | exact zK111
              · rw [nuMove_x hop (by decide)]; exact hSh.same (fun zq h1 h2 => zl114 zq (by omega) (by omega))
          · first | exact absurd zc48 zc30 | exact absurd zc30 zc48 | exact absurd (b2i_t zc48) zc30 | exact absurd zc30 (b2i_f zc48) | (exfalso; omega) | (exfalso; simp only [i_eq, i_lt, i_le] at *; omega)
      · skip
        have zS116 := (hSh sk hsk).1
        have zS117 := (hSh sk hsk).2.1
        have hss_sk := (hSh sk hsk).2.2
        have zS118 := (hSh tk2 htk2).1
        have zS119 := (hSh tk2 htk2).2.1
        have hss_tk2 := (hSh tk2 htk2).2.2
        refine z_aload_n X 0 dX11_move_20 rfl ?_
        refine z_get X fl_X11_28_11 dX11_move_21 K0 rfl ?_
        refine z_iload_n X 1 dX11_move_24 rfl ?_
        refine z_aald (t := 3) (v := .ref (o + 34 + 2 * sk)) X dX11_move_25 K1 rfl (vp_in_nI (n := sk) (by omega) (by omega)) (by rw [nI_clamp (by omega)]; rfl) ?_
        refine z_astore (ls' := [(6, .ref (o + 34 + 2 * sk)), (0, .ref o), (1, .int (nI sk)), (2, .int i), (3, .int (nI tk2)), (4, .int j), (5, .int v)]) X dX11_move_26 (by decide) rfl ?_
        refine z_aload_n X 1 dX11_move_28 rfl ?_
        refine z_get X fl_X11_28_11 dX11_move_29 K0 rfl ?_
        refine z_iload_n X 4 dX11_move_32 rfl ?_
        refine z_aald (t := 3) (v := .ref (o + 34 + 2 * tk2)) X dX11_move_33 K1 rfl (vp_in_nI (n := tk2) (by omega) (by omega)) (by rw [nI_clamp (by omega)]; rfl) ?_
        refine z_astore (ls' := [(7, .ref (o + 34 + 2 * tk2)), (6, .ref (o + 34 + 2 * sk)), (0, .ref o), (1, .int (nI sk)), (2, .int i), (3, .int (nI tk2)), (4, .int j), (5, .int v)]) X dX11_move_34 (by decide) rfl ?_
        refine z_aload X 1 dX11_move_36 rfl ?_
        refine z_callV X (c_Row_isMissing (κ := κ) (n := n) (r := (o + 34 + 2 * sk)) (sz := (nI (ss sk))) (bt := (bi sk)) zS116 ) mk_X6_isMissing dX11_move_38 wd_291 wd_292 wd_293 rfl zS116 rfl rfl rfl (Nat.le_of_ble_eq_true rfl) (Nat.le_of_ble_eq_true rfl) (Nat.le_of_ble_eq_true rfl) (by omega) (by omega) (fun q zh120 zm122 zp123 => ?_)
        obtain ⟨rfl, ze121, zn124⟩ := zp123
        subst zm122
        subst zh120
        refine z_st (st' := [.int (b2i ((bi sk) = 0))]) rfl ?_
        refine z_if_ne X 52 dX11_move_41 (by decide) (fun zc125 => ?_) (fun zc125 => ?_)
        · replace zc125 := b2i_t zc125
          refine z_aload_n X 2 dX11_move_52 rfl ?_
          refine z_iconst (v := 2) X dX11_move_53 (by decide) ?_
          refine z_callV X (c_fail (κ := κ) (n := n) (o := (o)) (im := (im)) (fo := (fo)) (k := (2)) K0 K2 (by first | assumption | omega) (by first | assumption | omega)) mk_X11_fail dX11_move_54 wd_260 wd_262 wd_0 rfl K0 rfl rfl rfl (Nat.le_of_ble_eq_true rfl) (Nat.le_of_ble_eq_true rfl) (Nat.le_of_ble_eq_true rfl) (by omega) (by omega) (fun q zh126 zm128 zp129 => ?_)
          obtain ⟨rfl, ze127, zn130⟩ := zp129
          subst zm128
          refine z_st (st' := [.int (lowE 2)]) rfl ?_
          have zK131 : zh126 o = some (.inr (11, [.ref (o + 1), .ref (o + 14), .ref (o + 27), .ref (o + 33), .ref (o + 42), .ref (o + 55), .ref (o + 57), .ref (o + 59), .ref (o + 61), .int im])) := by rw [ze127]; rw [va_up_ne _ _ (show o ≠ o + 61 by omega)]; exact K0
          have zK132 : zh126 (o + 33) = arR κ 3 4 (shF o) := by rw [ze127]; rw [va_up_ne _ _ (show o + 33 ≠ o + 61 by omega)]; exact K1
          have zK133 : zh126 (o + 61) = arI κ 6 (bmp fo 2) := by rw [ze127]; exact va_up_self _ _ _
          have zK134 : zh126 (o + 34 + 2 * sk) = some (.inr (6, [.ref (o + 34 + 2 * sk + 1), .int (nI (ss sk)), .int (bi sk)])) := by rw [ze127]; rw [va_up_ne _ _ (show o + 34 + 2 * sk ≠ o + 61 by omega)]; exact zS116
          have zK135 : zh126 (o + 34 + 2 * sk + 1) = arI κ 40 (win (40 * sk) 40 nu) := by rw [ze127]; rw [va_up_ne _ _ (show o + 34 + 2 * sk + 1 ≠ o + 61 by omega)]; exact zS117
          have zK136 : zh126 (o + 34 + 2 * tk2) = some (.inr (6, [.ref (o + 34 + 2 * tk2 + 1), .int (nI (ss tk2)), .int (bi tk2)])) := by rw [ze127]; rw [va_up_ne _ _ (show o + 34 + 2 * tk2 ≠ o + 61 by omega)]; exact zS118
          have zK137 : zh126 (o + 34 + 2 * tk2 + 1) = arI κ 40 (win (40 * tk2) 40 nu) := by rw [ze127]; rw [va_up_ne _ _ (show o + 34 + 2 * tk2 + 1 ≠ o + 61 by omega)]; exact zS119
          have zl138 : ∀ zq : Nat, zq < (o + 76) → zq ≠ (o + 61) → zh126 zq = h zq := by intro zq hzq zn0; rw [ze127, va_up_ne _ _ (show zq ≠ o + 61 by omega)]; try rfl
          have zr139 : Zr κ (o + 76) h zh126 := (Zr.refl).trans (Zr.same (fun zq h1 => by rw [ze127, va_up_ne _ _ (show zq ≠ o + 61 by omega)]))
          have hop := (show opMove bi ss (nI sk) i (nI tk2) j v = (2, 0) from opMove_2 hsk htk2 (by first | exact Or.inl (by assumption) | exact Or.inr (by assumption)))
          refine z_iret X E dX11_move_57 (by omega) (by omega) ⟨?_, ?_, ?_, ?_, ?_, ?_⟩
          · rw [hop]; first | exact congrArg (fun z => some (Value.int z)) (ansOf_0 _).symm | rfl
          · rfl
          · exact fun zq hzq zn0 zn1 zn2 zn3 zn4 zn5 zn6 zn7 zn8 => zl138 zq hzq zn0
          · exact zr139
          · rw [hop]; first | (rw [bump_0]; exact zK133) | exact zK133
          · rw [nuMove_x hop (by decide)]; exact hSh.same (fun zq h1 h2 => zl138 zq (by omega) (by omega))
        · replace zc125 := b2i_f zc125
          refine z_aload X 0 dX11_move_44 rfl ?_
          refine z_callV X (c_Row_isMissing (κ := κ) (n := n) (r := (o + 34 + 2 * tk2)) (sz := (nI (ss tk2))) (bt := (bi tk2)) zS118 ) mk_X6_isMissing dX11_move_46 wd_291 wd_292 wd_293 rfl zS118 rfl rfl rfl (Nat.le_of_ble_eq_true rfl) (Nat.le_of_ble_eq_true rfl) (Nat.le_of_ble_eq_true rfl) (by omega) (by omega) (fun q zh140 zm142 zp143 => ?_)
          obtain ⟨rfl, ze141, zn144⟩ := zp143
          subst zm142
          subst zh140
          refine z_st (st' := [.int (b2i ((bi tk2) = 0))]) rfl ?_
          refine z_if_eq X 58 dX11_move_49 (by decide) (fun zc145 => ?_) (fun zc145 => ?_)
          · replace zc145 := b2i_f zc145
            refine z_aload X 1 dX11_move_58 rfl ?_
            refine z_get X fl_X11_285_6 dX11_move_60 zS116 rfl ?_
            refine z_aload X 0 dX11_move_63 rfl ?_
            refine z_get X fl_X11_285_6 dX11_move_65 zS118 rfl ?_
            refine z_icmp_eq X 77 dX11_move_68 (by decide) (fun zc146 => ?_) (fun zc146 => ?_)
            · refine z_aload X 1 dX11_move_77 rfl ?_
              refine z_iload_n X 4 dX11_move_79 rfl ?_
              refine z_iload X 7 dX11_move_80 rfl ?_
              refine z_callV X (c_Row_spans (κ := κ) (n := n) (r := (o + 34 + 2 * sk)) (k := (ss sk)) (bt := (bi sk)) (i := (i)) (j := (v)) zS116 (by omega)) mk_X6_spans dX11_move_82 wd_886 wd_887 wd_888 rfl zS116 rfl rfl rfl (Nat.le_of_ble_eq_true rfl) (Nat.le_of_ble_eq_true rfl) (Nat.le_of_ble_eq_true rfl) (by omega) (by omega) (fun q zh147 zm149 zp150 => ?_)
              obtain ⟨rfl, ze148, zn151⟩ := zp150
              subst zm149
              subst zh147
              refine z_st (st' := [.int (b2i (0 ≤ (i : Int32).toInt ∧ 0 ≤ (v : Int32).toInt ∧ (i : Int32).toInt + (v : Int32).toInt ≤ (ss sk)))]) rfl ?_
              refine z_if_eq X 100 dX11_move_85 (by decide) (fun zc152 => ?_) (fun zc152 => ?_)
              · replace zc152 := b2i_f zc152
                have hsp1 := zc152
                refine z_aload_n X 2 dX11_move_100 rfl ?_
                refine z_iconst (v := 1) X dX11_move_101 (by decide) ?_
                refine z_callV X (c_fail (κ := κ) (n := n) (o := (o)) (im := (im)) (fo := (fo)) (k := (1)) K0 K2 (by first | assumption | omega) (by first | assumption | omega)) mk_X11_fail dX11_move_102 wd_260 wd_262 wd_0 rfl K0 rfl rfl rfl (Nat.le_of_ble_eq_true rfl) (Nat.le_of_ble_eq_true rfl) (Nat.le_of_ble_eq_true rfl) (by omega) (by omega) (fun q zh153 zm155 zp156 => ?_)
                obtain ⟨rfl, ze154, zn157⟩ := zp156
                subst zm155
                refine z_st (st' := [.int (lowE 1)]) rfl ?_
                have zK158 : zh153 o = some (.inr (11, [.ref (o + 1), .ref (o + 14), .ref (o + 27), .ref (o + 33), .ref (o + 42), .ref (o + 55), .ref (o + 57), .ref (o + 59), .ref (o + 61), .int im])) := by rw [ze154]; rw [va_up_ne _ _ (show o ≠ o + 61 by omega)]; exact K0
                have zK159 : zh153 (o + 33) = arR κ 3 4 (shF o) := by rw [ze154]; rw [va_up_ne _ _ (show o + 33 ≠ o + 61 by omega)]; exact K1
                have zK160 : zh153 (o + 61) = arI κ 6 (bmp fo 1) := by rw [ze154]; exact va_up_self _ _ _
                have zK161 : zh153 (o + 34 + 2 * sk) = some (.inr (6, [.ref (o + 34 + 2 * sk + 1), .int (nI (ss sk)), .int (bi sk)])) := by rw [ze154]; rw [va_up_ne _ _ (show o + 34 + 2 * sk ≠ o + 61 by omega)]; exact zS116
                have zK162 : zh153 (o + 34 + 2 * sk + 1) = arI κ 40 (win (40 * sk) 40 nu) := by rw [ze154]; rw [va_up_ne _ _ (show o + 34 + 2 * sk + 1 ≠ o + 61 by omega)]; exact zS117
                have zK163 : zh153 (o + 34 + 2 * tk2) = some (.inr (6, [.ref (o + 34 + 2 * tk2 + 1), .int (nI (ss tk2)), .int (bi tk2)])) := by rw [ze154]; rw [va_up_ne _ _ (show o + 34 + 2 * tk2 ≠ o + 61 by omega)]; exact zS118
                have zK164 : zh153 (o + 34 + 2 * tk2 + 1) = arI κ 40 (win (40 * tk2) 40 nu) := by rw [ze154]; rw [va_up_ne _ _ (show o + 34 + 2 * tk2 + 1 ≠ o + 61 by omega)]; exact zS119
                have zl165 : ∀ zq : Nat, zq < (o + 76) → zq ≠ (o + 61) → zh153 zq = h zq := by intro zq hzq zn0; rw [ze154, va_up_ne _ _ (show zq ≠ o + 61 by omega)]; try rfl
                have zr166 : Zr κ (o + 76) h zh153 := (Zr.refl).trans (Zr.same (fun zq h1 => by rw [ze154, va_up_ne _ _ (show zq ≠ o + 61 by omega)]))
                have hop := (show opMove bi ss (nI sk) i (nI tk2) j v = (1, 0) from opMove_b hsk htk2 (by assumption) (by assumption) (by assumption) (fun zq => (by (first | exact hsp1 ⟨zq.2.1, zq.1, (by have := zq.2.2.2.1; omega)⟩ | exact hsp2 ⟨zq.2.2.1, zq.1, (by have := zq.2.2.2.2; omega)⟩))))
                refine z_iret X E dX11_move_105 (by omega) (by omega) ⟨?_, ?_, ?_, ?_, ?_, ?_⟩
                · rw [hop]; first | exact congrArg (fun z => some (Value.int z)) (ansOf_0 _).symm | rfl
                · rfl
                · exact fun zq hzq zn0 zn1 zn2 zn3 zn4 zn5 zn6 zn7 zn8 => zl165 zq hzq zn0
                · exact zr166
                · rw [hop]; first | (rw [bump_0]; exact zK160) | exact zK160
                · rw [nuMove_x hop (by decide)]; exact hSh.same (fun zq h1 h2 => zl165 zq (by omega) (by omega))
              · replace zc152 := b2i_t zc152
                have hsp1 := zc152
                refine z_aload X 0 dX11_move_88 rfl ?_
                refine z_iload X 6 dX11_move_90 rfl ?_
                refine z_iload X 7 dX11_move_92 rfl ?_
                refine z_callV X (c_Row_spans (κ := κ) (n := n) (r := (o + 34 + 2 * tk2)) (k := (ss tk2)) (bt := (bi tk2)) (i := (j)) (j := (v)) zS118 (by omega)) mk_X6_spans dX11_move_94 wd_886 wd_887 wd_888 rfl zS118 rfl rfl rfl (Nat.le_of_ble_eq_true rfl) (Nat.le_of_ble_eq_true rfl) (Nat.le_of_ble_eq_true rfl) (by omega) (by omega) (fun q zh167 zm169 zp170 => ?_)
                obtain ⟨rfl, ze168, zn171⟩ := zp170
                subst zm169
                subst zh167
                refine z_st (st' := [.int (b2i (0 ≤ (j : Int32).toInt ∧ 0 ≤ (v : Int32).toInt ∧ (j : Int32).toInt + (v : Int32).toInt ≤ (ss tk2)))]) rfl ?_
                refine z_if_ne X 106 dX11_move_97 (by decide) (fun zc172 => ?_) (fun zc172 => ?_)
                · replace zc172 := b2i_t zc172
                  have hsp2 := zc172
                  have hmv : movP ss sk tk2 i j v := ⟨hsp1.2.1, hsp1.1, hsp2.1, (by have := hsp1.2.2; omega), (by have := hsp2.2.2; omega)⟩
                  obtain ⟨ik, hik, rfl⟩ := ix_of (c := i) (len := 41) (by omega) (by omega)
                  obtain ⟨jk, hjk, rfl⟩ := ix_of (c := j) (len := 41) (by omega) (by omega)
                  obtain ⟨vk, hvk, rfl⟩ := ix_of (c := v) (len := 41) (by omega) (by omega)
                  have hmv2 := hmv
                  simp only [movP, i_nI (n := ik) (by omega), i_nI (n := jk) (by omega), i_nI (n := vk) (by omega)] at hmv2
                  refine z_aload X 1 dX11_move_106 rfl ?_
                  refine z_get X fl_X11_291_6 dX11_move_108 zS116 rfl ?_
                  refine z_iload_n X 4 dX11_move_111 rfl ?_
                  refine z_aload X 0 dX11_move_112 rfl ?_
                  refine z_get X fl_X11_291_6 dX11_move_114 zS118 rfl ?_
                  refine z_iload X 6 dX11_move_117 rfl ?_
                  refine z_iload X 7 dX11_move_119 rfl ?_
                  refine z_copy X dX11_move_121 wd_890 wd_102 wd_101 wd_61 zS117 zS119 (nI_pos (by omega)) (nI_pos (by omega)) (nI_pos (by omega)) (by rw [nI_clamp (by omega), nI_clamp (by omega)]; omega) (by rw [nI_clamp (by omega), nI_clamp (by omega)]; omega) (Nat.le_of_ble_eq_true rfl) (Nat.le_of_ble_eq_true rfl) (by rw [nI_clamp (by omega), nI_clamp (by omega), nI_clamp (by omega)]) ?_
                  obtain ⟨zh173, ze174⟩ : ∃ z : Mm, z = va_up h (o + 34 + 2 * tk2 + 1) (arI κ 40 (va_cpy (win (40 * sk) 40 nu) (win (40 * tk2) 40 nu) ik jk vk)) := ⟨_, rfl⟩
                  refine z_heap (h' := zh173) ze174.symm ?_
                  have zK175 := up_off ze174 (show o ≠ o + 34 + 2 * tk2 + 1 by omega) K0
                  have zK176 := up_off ze174 (show o + 33 ≠ o + 34 + 2 * tk2 + 1 by omega) K1
                  have zK177 := up_off ze174 (show o + 61 ≠ o + 34 + 2 * tk2 + 1 by omega) K2
                  have zK178 := up_off ze174 (show o + 34 + 2 * sk ≠ o + 34 + 2 * tk2 + 1 by omega) zS116
                  have zK179 := up_off ze174 (show o + 34 + 2 * sk + 1 ≠ o + 34 + 2 * tk2 + 1 by omega) zS117
                  have zK180 := up_off ze174 (show o + 34 + 2 * tk2 ≠ o + 34 + 2 * tk2 + 1 by omega) zS118
                  have zK181 := up_at ze174
                  have zl182 : ∀ zq : Nat, zq < (o + 76) → zq ≠ (o + 34 + 2 * tk2 + 1) → zh173 zq = h zq := by intro zq hzq zn0; rw [ze174, va_up_ne _ _ (show zq ≠ o + 34 + 2 * tk2 + 1 by omega)]; try rfl
                  have zr183 : Zr κ (o + 76) h zh173 := (Zr.refl).trans (Zr.same (fun zq h1 => by rw [ze174, va_up_ne _ _ (show zq ≠ o + 34 + 2 * tk2 + 1 by omega)]))
                  refine z_ext (g := win (40 * tk2) 40 (nuMov nu sk ik tk2 jk vk)) zK181 (mov_win (by omega) (by omega)) ?_
                  obtain ⟨zh184, ze185⟩ : ∃ z : Mm, z = va_up zh173 (o + 34 + 2 * tk2 + 1) (arI κ 40 (win (40 * tk2) 40 (nuMov nu sk ik tk2 jk vk))) := ⟨_, rfl⟩
                  refine z_heap (h' := zh184) ze185.symm ?_
                  have zK186 := up_off ze185 (show o ≠ o + 34 + 2 * tk2 + 1 by omega) zK175
                  have zK187 := up_off ze185 (show o + 33 ≠ o + 34 + 2 * tk2 + 1 by omega) zK176
                  have zK188 := up_off ze185 (show o + 61 ≠ o + 34 + 2 * tk2 + 1 by omega) zK177
                  have zK189 := up_off ze185 (show o + 34 + 2 * sk ≠ o + 34 + 2 * tk2 + 1 by omega) zK178
                  have zK190 := up_off ze185 (show o + 34 + 2 * sk + 1 ≠ o + 34 + 2 * tk2 + 1 by omega) zK179
                  have zK191 := up_off ze185 (show o + 34 + 2 * tk2 ≠ o + 34 + 2 * tk2 + 1 by omega) zK180
                  have zK192 := up_at ze185
                  have zl193 : ∀ zq : Nat, zq < (o + 76) → zq ≠ (o + 34 + 2 * tk2 + 1) → zh184 zq = h zq := by intro zq hzq zn0; rw [ze185, va_up_ne _ _ (show zq ≠ o + 34 + 2 * tk2 + 1 by omega)]; exact zl182 zq hzq zn0
                  have zr194 : Zr κ (o + 76) h zh184 := (zr183).trans (Zr.same (fun zq h1 => by rw [ze185, va_up_ne _ _ (show zq ≠ o + 34 + 2 * tk2 + 1 by omega)]))
                  refine z_iload X 7 dX11_move_124 rfl ?_
                  have hop := (show opMove bi ss (nI sk) (nI ik) (nI tk2) (nI jk) (nI vk) = (0, (nI vk)) from opMove_0 hsk htk2 (by assumption) (by assumption) (by assumption) hmv)
                  refine z_iret X E dX11_move_126 (by omega) (by omega) ⟨?_, ?_, ?_, ?_, ?_, ?_⟩
                  · rw [hop]; first | exact congrArg (fun z => some (Value.int z)) (ansOf_0 _).symm | rfl
                  · rfl
                  · exact fun zq hzq zn0 zn1 zn2 zn3 zn4 zn5 zn6 zn7 zn8 => zl193 zq hzq (by omega)
                  · exact zr194
                  · rw [hop]; first | (rw [bump_0]; exact zK188) | exact zK188
                  · rw [nuMove_0 (by omega) (by omega) (by omega) hsk htk2 hop]; exact hSh.one htk2 (fun zq h1 h2 h3 h4 => zl193 zq (by omega) h4) zK191 zK192 hss_tk2 rfl (fun s2 h1 h2 => ⟨rfl, rfl, fun j2 h3 => if_neg (by omega)⟩)
                · replace zc172 := b2i_f zc172
                  have hsp2 := zc172
                  refine z_aload_n X 2 dX11_move_100 rfl ?_
                  refine z_iconst (v := 1) X dX11_move_101 (by decide) ?_
                  refine z_callV X (c_fail (κ := κ) (n := n) (o := (o)) (im := (im)) (fo := (fo)) (k := (1)) K0 K2 (by first | assumption | omega) (by first | assumption | omega)) mk_X11_fail dX11_move_102 wd_260 wd_262 wd_0 rfl K0 rfl rfl rfl (Nat.le_of_ble_eq_true rfl) (Nat.le_of_ble_eq_true rfl) (Nat.le_of_ble_eq_true rfl) (by omega) (by omega) (fun q zh195 zm197 zp198 => ?_)
                  obtain ⟨rfl, ze196, zn199⟩ := zp198
                  subst zm197
                  refine z_st (st' := [.int (lowE 1)]) rfl ?_
                  have zK200 : zh195 o = some (.inr (11, [.ref (o + 1), .ref (o + 14), .ref (o + 27), .ref (o + 33), .ref (o + 42), .ref (o + 55), .ref (o + 57), .ref (o + 59), .ref (o + 61), .int im])) := by rw [ze196]; rw [va_up_ne _ _ (show o ≠ o + 61 by omega)]; exact K0
                  have zK201 : zh195 (o + 33) = arR κ 3 4 (shF o) := by rw [ze196]; rw [va_up_ne _ _ (show o + 33 ≠ o + 61 by omega)]; exact K1
                  have zK202 : zh195 (o + 61) = arI κ 6 (bmp fo 1) := by rw [ze196]; exact va_up_self _ _ _
                  have zK203 : zh195 (o + 34 + 2 * sk) = some (.inr (6, [.ref (o + 34 + 2 * sk + 1), .int (nI (ss sk)), .int (bi sk)])) := by rw [ze196]; rw [va_up_ne _ _ (show o + 34 + 2 * sk ≠ o + 61 by omega)]; exact zS116
                  have zK204 : zh195 (o + 34 + 2 * sk + 1) = arI κ 40 (win (40 * sk) 40 nu) := by rw [ze196]; rw [va_up_ne _ _ (show o + 34 + 2 * sk + 1 ≠ o + 61 by omega)]; exact zS117
                  have zK205 : zh195 (o + 34 + 2 * tk2) = some (.inr (6, [.ref (o + 34 + 2 * tk2 + 1), .int (nI (ss tk2)), .int (bi tk2)])) := by rw [ze196]; rw [va_up_ne _ _ (show o + 34 + 2 * tk2 ≠ o + 61 by omega)]; exact zS118
                  have zK206 : zh195 (o + 34 + 2 * tk2 + 1) = arI κ 40 (win (40 * tk2) 40 nu) := by rw [ze196]; rw [va_up_ne _ _ (show o + 34 + 2 * tk2 + 1 ≠ o + 61 by omega)]; exact zS119
                  have zl207 : ∀ zq : Nat, zq < (o + 76) → zq ≠ (o + 61) → zh195 zq = h zq := by intro zq hzq zn0; rw [ze196, va_up_ne _ _ (show zq ≠ o + 61 by omega)]; try rfl
                  have zr208 : Zr κ (o + 76) h zh195 := (Zr.refl).trans (Zr.same (fun zq h1 => by rw [ze196, va_up_ne _ _ (show zq ≠ o + 61 by omega)]))
                  have hop := (show opMove bi ss (nI sk) i (nI tk2) j v = (1, 0) from opMove_b hsk htk2 (by assumption) (by assumption) (by assumption) (fun zq => (by (first | exact hsp1 ⟨zq.2.1, zq.1, (by have := zq.2.2.2.1; omega)⟩ | exact hsp2 ⟨zq.2.2.1, zq.1, (by have := zq.2.2.2.2; omega)⟩))))
                  refine z_iret X E dX11_move_105 (by omega) (by omega) ⟨?_, ?_, ?_, ?_, ?_, ?_⟩
                  · rw [hop]; first | exact congrArg (fun z => some (Value.int z)) (ansOf_0 _).symm | rfl
                  · rfl
                  · exact fun zq hzq zn0 zn1 zn2 zn3 zn4 zn5 zn6 zn7 zn8 => zl207 zq hzq zn0
                  · exact zr208
                  · rw [hop]; first | (rw [bump_0]; exact zK202) | exact zK202
                  · rw [nuMove_x hop (by decide)]; exact hSh.same (fun zq h1 h2 => zl207 zq (by omega) (by omega))
            · refine z_aload_n X 2 dX11_move_71 rfl ?_
              refine z_iconst (v := 5) X dX11_move_72 (by decide) ?_
              refine z_callV X (c_fail (κ := κ) (n := n) (o := (o)) (im := (im)) (fo := (fo)) (k := (5)) K0 K2 (by first | assumption | omega) (by first | assumption | omega)) mk_X11_fail dX11_move_73 wd_260 wd_262 wd_0 rfl K0 rfl rfl rfl (Nat.le_of_ble_eq_true rfl) (Nat.le_of_ble_eq_true rfl) (Nat.le_of_ble_eq_true rfl) (by omega) (by omega) (fun q zh209 zm211 zp212 => ?_)
              obtain ⟨rfl, ze210, zn213⟩ := zp212
              subst zm211
              refine z_st (st' := [.int (lowE 5)]) rfl ?_
              have zK214 : zh209 o = some (.inr (11, [.ref (o + 1), .ref (o + 14), .ref (o + 27), .ref (o + 33), .ref (o + 42), .ref (o + 55), .ref (o + 57), .ref (o + 59), .ref (o + 61), .int im])) := by rw [ze210]; rw [va_up_ne _ _ (show o ≠ o + 61 by omega)]; exact K0
              have zK215 : zh209 (o + 33) = arR κ 3 4 (shF o) := by rw [ze210]; rw [va_up_ne _ _ (show o + 33 ≠ o + 61 by omega)]; exact K1
              have zK216 : zh209 (o + 61) = arI κ 6 (bmp fo 5) := by rw [ze210]; exact va_up_self _ _ _
              have zK217 : zh209 (o + 34 + 2 * sk) = some (.inr (6, [.ref (o + 34 + 2 * sk + 1), .int (nI (ss sk)), .int (bi sk)])) := by rw [ze210]; rw [va_up_ne _ _ (show o + 34 + 2 * sk ≠ o + 61 by omega)]; exact zS116
              have zK218 : zh209 (o + 34 + 2 * sk + 1) = arI κ 40 (win (40 * sk) 40 nu) := by rw [ze210]; rw [va_up_ne _ _ (show o + 34 + 2 * sk + 1 ≠ o + 61 by omega)]; exact zS117
              have zK219 : zh209 (o + 34 + 2 * tk2) = some (.inr (6, [.ref (o + 34 + 2 * tk2 + 1), .int (nI (ss tk2)), .int (bi tk2)])) := by rw [ze210]; rw [va_up_ne _ _ (show o + 34 + 2 * tk2 ≠ o + 61 by omega)]; exact zS118
              have zK220 : zh209 (o + 34 + 2 * tk2 + 1) = arI κ 40 (win (40 * tk2) 40 nu) := by rw [ze210]; rw [va_up_ne _ _ (show o + 34 + 2 * tk2 + 1 ≠ o + 61 by omega)]; exact zS119
              have zl221 : ∀ zq : Nat, zq < (o + 76) → zq ≠ (o + 61) → zh209 zq = h zq := by intro zq hzq zn0; rw [ze210, va_up_ne _ _ (show zq ≠ o + 61 by omega)]; try rfl
              have zr222 : Zr κ (o + 76) h zh209 := (Zr.refl).trans (Zr.same (fun zq h1 => by rw [ze210, va_up_ne _ _ (show zq ≠ o + 61 by omega)]))
              have hop := (show opMove bi ss (nI sk) i (nI tk2) j v = (5, 0) from opMove_5 hsk htk2 (by assumption) (by assumption) (by assumption))
              refine z_iret X E dX11_move_76 (by omega) (by omega) ⟨?_, ?_, ?_, ?_, ?_, ?_⟩
              · rw [hop]; first | exact congrArg (fun z => some (Value.int z)) (ansOf_0 _).symm | rfl
              · rfl
              · exact fun zq hzq zn0 zn1 zn2 zn3 zn4 zn5 zn6 zn7 zn8 => zl221 zq hzq zn0
              · exact zr222
              · rw [hop]; first | (rw [bump_0]; exact zK216) | exact zK216
              · rw [nuMove_x hop (by decide)]; exact hSh.same (fun zq h1 h2 => zl221 zq (by omega) (by omega))
          · replace zc145 := b2i_t zc145
            refine z_aload_n X 2 dX11_move_52 rfl ?_
            refine z_iconst (v := 2) X dX11_move_53 (by decide) ?_
            refine z_callV X (c_fail (κ := κ) (n := n) (o := (o)) (im := (im)) (fo := (fo)) (k := (2)) K0 K2 (by first | assumption | omega) (by first | assumption | omega)) mk_X11_fail dX11_move_54 wd_260 wd_262 wd_0 rfl K0 rfl rfl rfl (Nat.le_of_ble_eq_true rfl) (Nat.le_of_ble_eq_true rfl) (Nat.le_of_ble_eq_true rfl) (by omega) (by omega) (fun q zh223 zm225 zp226 => ?_)
            obtain ⟨rfl, ze224, zn227⟩ := zp226
            subst zm225
            refine z_st (st' := [.int (lowE 2)]) rfl ?_
            have zK228 : zh223 o = some (.inr (11, [.ref (o + 1), .ref (o + 14), .ref (o + 27), .ref (o + 33), .ref (o + 42), .ref (o + 55), .ref (o + 57), .ref (o + 59), .ref (o + 61), .int im])) := by rw [ze224]; rw [va_up_ne _ _ (show o ≠ o + 61 by omega)]; exact K0
            have zK229 : zh223 (o + 33) = arR κ 3 4 (shF o) := by rw [ze224]; rw [va_up_ne _ _ (show o + 33 ≠ o + 61 by omega)]; exact K1
            have zK230 : zh223 (o + 61) = arI κ 6 (bmp fo 2) := by rw [ze224]; exact va_up_self _ _ _
            have zK231 : zh223 (o + 34 + 2 * sk) = some (.inr (6, [.ref (o + 34 + 2 * sk + 1), .int (nI (ss sk)), .int (bi sk)])) := by rw [ze224]; rw [va_up_ne _ _ (show o + 34 + 2 * sk ≠ o + 61 by omega)]; exact zS116
            have zK232 : zh223 (o + 34 + 2 * sk + 1) = arI κ 40 (win (40 * sk) 40 nu) := by rw [ze224]; rw [va_up_ne _ _ (show o + 34 + 2 * sk + 1 ≠ o + 61 by omega)]; exact zS117
            have zK233 : zh223 (o + 34 + 2 * tk2) = some (.inr (6, [.ref (o + 34 + 2 * tk2 + 1), .int (nI (ss tk2)), .int (bi tk2)])) := by rw [ze224]; rw [va_up_ne _ _ (show o + 34 + 2 * tk2 ≠ o + 61 by omega)]; exact zS118
            have zK234 : zh223 (o + 34 + 2 * tk2 + 1) = arI κ 40 (win (40 * tk2) 40 nu) := by rw [ze224]; rw [va_up_ne _ _ (show o + 34 + 2 * tk2 + 1 ≠ o + 61 by omega)]; exact zS119
            have zl235 : ∀ zq : Nat, zq < (o + 76) → zq ≠ (o + 61) → zh223 zq = h zq := by intro zq hzq zn0; rw [ze224, va_up_ne _ _ (show zq ≠ o + 61 by omega)]; try rfl
            have zr236 : Zr κ (o + 76) h zh223 := (Zr.refl).trans (Zr.same (fun zq h1 => by rw [ze224, va_up_ne _ _ (show zq ≠ o + 61 by omega)]))
            have hop := (show opMove bi ss (nI sk) i (nI tk2) j v = (2, 0) from opMove_2 hsk htk2 (by first | exact Or.inl (by assumption) | exact Or.inr (by assumption)))
            refine z_iret X E dX11_move_57 (by omega) (by omega) ⟨?_, ?_, ?_, ?_, ?_, ?_⟩
            · rw [hop]; first | exact congrArg (fun z => some (Value.int z)) (ansOf_0 _).symm | rfl
            · rfl
            · exact fun zq hzq zn0 zn1 zn2 zn3 zn4 zn5 zn6 zn7 zn8 => zl235 zq hzq zn0
            · exact zr236
            · rw [hop]; first | (rw [bump_0]; exact zK230) | exact zK230
            · rw [nuMove_x hop (by decide)]; exact hSh.same (fun zq h1 h2 => zl235 zq (by omega) (by omega))
    · replace zc22 := b2i_f zc22
      refine z_aload_n X 0 dX11_move_14 rfl ?_
      refine z_iconst (v := 1) X dX11_move_15 (by decide) ?_
      refine z_callV X (c_fail (κ := κ) (n := n) (o := (o)) (im := (im)) (fo := (fo)) (k := (1)) K0 K2 (by first | assumption | omega) (by first | assumption | omega)) mk_X11_fail dX11_move_16 wd_260 wd_262 wd_0 rfl K0 rfl rfl rfl (Nat.le_of_ble_eq_true rfl) (Nat.le_of_ble_eq_true rfl) (Nat.le_of_ble_eq_true rfl) (by omega) (by omega) (fun q zh237 zm239 zp240 => ?_)
      obtain ⟨rfl, ze238, zn241⟩ := zp240
      subst zm239
      refine z_st (st' := [.int (lowE 1)]) rfl ?_
      have zK242 : zh237 o = some (.inr (11, [.ref (o + 1), .ref (o + 14), .ref (o + 27), .ref (o + 33), .ref (o + 42), .ref (o + 55), .ref (o + 57), .ref (o + 59), .ref (o + 61), .int im])) := by rw [ze238]; rw [va_up_ne _ _ (show o ≠ o + 61 by omega)]; exact K0
      have zK243 : zh237 (o + 33) = arR κ 3 4 (shF o) := by rw [ze238]; rw [va_up_ne _ _ (show o + 33 ≠ o + 61 by omega)]; exact K1
      have zK244 : zh237 (o + 61) = arI κ 6 (bmp fo 1) := by rw [ze238]; exact va_up_self _ _ _
      have zl245 : ∀ zq : Nat, zq < (o + 76) → zq ≠ (o + 61) → zh237 zq = h zq := by intro zq hzq zn0; rw [ze238, va_up_ne _ _ (show zq ≠ o + 61 by omega)]; try rfl
      have zr246 : Zr κ (o + 76) h zh237 := (Zr.refl).trans (Zr.same (fun zq h1 => by rw [ze238, va_up_ne _ _ (show zq ≠ o + 61 by omega)]))
      have hop := opMove_1 (bi := bi) (ss := ss) (s := s) (t := t) (i := i) (j := j) (v := v) (by omega)
      refine z_iret X E dX11_move_19 (by omega) (by omega) ⟨?_, ?_, ?_, ?_, ?_, ?_⟩
      · rw [hop]; first | exact congrArg (fun z => some (Value.int z)) (ansOf_0 _).symm | rfl
      · rfl
      · exact fun zq hzq zn0 zn1 zn2 zn3 zn4 zn5 zn6 zn7 zn8 => zl245 zq hzq zn0
      · exact zr246
      · rw [hop]; first | (rw [bump_0]; exact zK244) | exact zK244
      · rw [nuMove_x hop (by decide)]; exact hSh.same (fun zq h1 h2 => zl245 zq (by omega) (by omega))
