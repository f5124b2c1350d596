/-- byte k of a word -/
def fdB (w : Int64) (k : Nat) : Int32 := ((w >>> ((nI (8 * k)).toInt64 &&& 63)) &&& (255 : Int64)).toInt32
def dFd (d : Nat → Int32) (nt : Nat) (w : Int64) : Nat → Nat → Int32
  | 0 => d
  | k + 1 => upd (upd (dFd d nt w k) (280 + (nt + k)) (fdB w k)) 14 (nI (nt + k + 1))
theorem dFd_14 {d : Nat → Int32} {nt : Nat} {w : Int64} (h : d 14 = nI nt) : ∀ k, dFd d nt w k 14 = nI (nt + k) := by
  intro k
  cases k with
  | zero => exact h
  | succ k => exact pk_us
theorem dFd_0 (d : Nat → Int32) (nt : Nat) (w : Int64) : dFd d nt w 0 = d := rfl
theorem dFd_s (d : Nat → Int32) (nt : Nat) (w : Int64) (k : Nat) : upd (upd (dFd d nt w k) (280 + (nt + k)) (fdB w k)) 14 (nI (nt + k + 1)) = dFd d nt w (k + 1) := rfl
def opFeed (nt : Nat) (v : Int32) : Nat × Int32 := if ¬ (1 ≤ v.toInt ∧ v.toInt ≤ 8) then (1, 0) else if 50 < nt + v.toNatClampNeg then (4, 0) else (0, nI (nt + v.toNatClampNeg))
def dFeed (d : Nat → Int32) (nt : Nat) (w : Int64) (v : Int32) : Nat → Int32 := if ¬ (1 ≤ v.toInt ∧ v.toInt ≤ 8) then d else if 50 < nt + v.toNatClampNeg then d else dFd d nt w v.toNatClampNeg
section FD
variable {nt vk : Nat} {d : Nat → Int32} {w : Int64}
theorem opFeed_4 (h1 : 1 ≤ vk) (h2 : vk ≤ 8) (h : 50 < nt + vk) : opFeed nt (nI vk) = (4, 0) := by
  unfold opFeed
  rw [i_nI (by omega), nI_clamp (by omega), if_neg (by omega), if_pos h]
theorem opFeed_0 (h1 : 1 ≤ vk) (h2 : vk ≤ 8) (h : ¬ 50 < nt + vk) : opFeed nt (nI vk) = (0, nI (nt + vk)) := by
  unfold opFeed
  rw [i_nI (by omega), nI_clamp (by omega), if_neg (by omega), if_neg h]
theorem dFeed_4 (h1 : 1 ≤ vk) (h2 : vk ≤ 8) (h : 50 < nt + vk) : dFeed d nt w (nI vk) = d := by
  unfold dFeed
  rw [i_nI (by omega), nI_clamp (by omega), if_neg (by omega), if_pos h]
theorem dFeed_0 (h1 : 1 ≤ vk) (h2 : vk ≤ 8) (h : ¬ 50 < nt + vk) : dFeed d nt w (nI vk) = dFd d nt w vk := by
  unfold dFeed
  rw [i_nI (by omega), nI_clamp (by omega), if_neg (by omega), if_neg h]
end FD
set_option maxHeartbeats 4000000 in
set_option maxRecDepth 100000 in
theorem r_feed {κ : Wc} {l : Launch} {h : Mm} {n : Nat} {o : Nat} {w : Int64} {v : Int32} {nt : Nat} {d : Nat → Int32} {fo : Nat → Int32} {im : Int32} {ba : Int32} {at_ : Int32} {sz : Int32} {fa : Int32} {op : Int32} {rm : Int32} {ti : Int32} {tm : Int32} {wh : Int32} (K0 : h o = some (.inr (12, [.ref (o + 1), .ref (o + 2), .ref (o + 3), .int im, .ref (o + 4), .int ba, .int at_, .int sz, .int fa, .int op, .ref (o + 5), .ref (o + 6), .int rm, .ref (o + 7), .ref (o + 8), .int ti, .ref (o + 9), .int tm, .int wh, .ref (o + 10), .ref (o + 11), .ref (o + 12), .ref (o + 13)]))) (K1 : h (o + 4) = arI κ 6 fo) (K2 : h (o + 1) = arI κ 340 d) (p1 : d 14 = nI nt) (p2 : nt ≤ 50) : Con κ l yX12_feed cX12_feed 5 (some .int) 3 0 0 [.ref o, .long w, .int v] h n (fun q h' n' => q = some (.int (ansOf (opFeed nt v))) ∧ h' = va_up (va_up h (o + 1) (arI κ 340 (dFeed d nt w v))) (o + 4) (arI κ 6 (bump (opFeed nt v) fo)) ∧ n' = n) := by
  refine Con.of mk_X12_feed (Nat.le_of_ble_eq_true rfl) (fun G hG X E => ?_)
  subst hG
  refine z_ls (ls' := [(0, .ref o), (1, .long w), (3, .int v)]) rfl ?_
  refine z_iload_n X 2 dX12_feed_0 rfl ?_
  refine z_i2l X dX12_feed_1 rfl ?_
  refine z_lconst (v := 1) X dX12_feed_2 (by decide) ?_
  refine z_ldc2 X dX12_feed_3 wd_1144 ?_
  refine z_callS X (r_in (κ := κ) (n := n) (v := (v.toInt64)) (lo := (1 : Int64)) (hi := (8 : Int64))  ) mk_X12_in dX12_feed_6 wd_1014 wd_1015 rfl rfl (Nat.le_of_ble_eq_true rfl) (Nat.le_of_ble_eq_true rfl) (Nat.le_of_ble_eq_true rfl) (by omega) (by omega) (fun q zh1 zm3 zp4 => ?_)
  obtain ⟨rfl, ze2, zn5⟩ := zp4
  subst zm3
  subst zh1
  refine z_st (st' := [.int (b2i ((1 : Int64).toInt ≤ (v.toInt64 : Int64).toInt ∧ (v.toInt64 : Int64).toInt ≤ (8 : Int64).toInt))]) rfl ?_
  refine z_toe (y := b2i (1 ≤ v.toInt ∧ v.toInt ≤ 8)) (by simp only [Int32.toInt_toInt64, show (1 : Int64).toInt = 1 by decide, show (8 : Int64).toInt = 8 by decide]) ?_
  refine z_if_ne X 18 dX12_feed_9 (by decide) (fun zc6 => ?_) (fun zc6 => ?_)
  · replace zc6 := b2i_t zc6
    have hvp : 1 ≤ v.toInt ∧ v.toInt ≤ 8 := by assumption
    obtain ⟨vk, hvk, rfl⟩ := ix_of (c := v) (len := 9) (by omega) (by omega)
    have hv1 : 1 ≤ vk := by (rw [i_nI (by omega)] at hvp; omega)
    have hv2 : vk ≤ 8 := by omega
    refine z_aload_n X 0 dX12_feed_18 rfl ?_
    refine z_get X fl_X12_7_12 dX12_feed_19 K0 rfl ?_
    refine z_bipush (v := 14) X dX12_feed_22 (by decide) ?_
    refine z_iald2 (v := d 14) X dX12_feed_24 K2 (vp_in_nI (n := 14) (by omega) (by omega)) (congrArg d (nI_clamp (n := 14) (by omega))) ?_
    refine z_toe (y := nI nt) (p1) ?_
    refine z_iload_n X 2 dX12_feed_25 rfl ?_
    refine z_iadd X dX12_feed_26 ?_
    refine z_toe (y := nI (nt + vk)) (nI_add (nt) (vk)) ?_
    refine z_bipush (v := 50) X dX12_feed_27 (by decide) ?_
    refine z_icmp_le X 38 dX12_feed_29 (by decide) (fun zc7 => ?_) (fun zc7 => ?_)
    · try replace zc7 := (nI_leI (a := nt + vk) (b := 50) (by omega) (by omega)).mp zc7
      refine z_iconst (v := 0) X dX12_feed_38 (by decide) ?_
      refine z_istore (ls' := [(4, .int 0), (0, .ref o), (1, .long w), (3, .int (nI vk))]) X dX12_feed_39 (by decide) rfl ?_
      have L41 : ∀ (jj : Nat) (hh41 : Mm)  (i : Nat), (vk - i < jj) → (hh41 = va_up h (o + 1) (arI κ 340 (dFd d nt w i))) → (hi : i ≤ vk) → Z κ G 5 41 [(0, .ref o), (1, .long w), (3, .int (nI vk)), (4, .int (nI i))] [] hh41 n 0 (0) := by
        intro jj
        induction jj with
        | zero => intro hh41 i hmu; exact absurd hmu (Nat.not_lt_zero _)
        | succ jj ih41 =>
          intro hh41 i hmu he41 hi
          have zK8 : hh41 o = some (.inr (12, [.ref (o + 1), .ref (o + 2), .ref (o + 3), .int im, .ref (o + 4), .int ba, .int at_, .int sz, .int fa, .int op, .ref (o + 5), .ref (o + 6), .int rm, .ref (o + 7), .ref (o + 8), .int ti, .ref (o + 9), .int tm, .int wh, .ref (o + 10), .ref (o + 11), .ref (o + 12), .ref (o + 13)])) := by rw [he41]; rw [va_up_ne _ _ (show o ≠ o + 1 by omega)]; exact K0
          have zK9 : hh41 (o + 4) = arI κ 6 fo := by rw [he41]; rw [va_up_ne _ _ (show o + 4 ≠ o + 1 by omega)]; exact K1
          have zK10 : hh41 (o + 1) = arI κ 340 (dFd d nt w i) := by rw [he41]; exact va_up_self _ _ _
          refine z_iload X 3 dX12_feed_41 rfl ?_
          refine z_iload_n X 2 dX12_feed_43 rfl ?_
          refine z_icmp_ge X 92 dX12_feed_44 (by decide) (fun zc11 => ?_) (fun zc11 => ?_)
          · try replace zc11 := (nI_leI (a := vk) (b := i) (by omega) (by omega)).mp zc11
            refine z_aload_n X 0 dX12_feed_92 rfl ?_
            refine z_get X fl_X12_7_12 dX12_feed_93 zK8 rfl ?_
            refine z_bipush (v := 14) X dX12_feed_96 (by decide) ?_
            refine z_iald2 (v := (dFd d nt w i) 14) X dX12_feed_98 zK10 (vp_in_nI (n := 14) (by omega) (by omega)) (congrArg (dFd d nt w i) (nI_clamp (n := 14) (by omega))) ?_
            refine z_toe (y := nI (nt + i)) (dFd_14 p1 i) ?_
            refine z_iret X E dX12_feed_99 (by omega) (by omega) ⟨?_, ?_, ?_⟩
            · (have hiv : i = vk := by omega); subst hiv; rw [opFeed_0 hv1 hv2 (by omega)]; first | done | rfl
            · (have hiv : i = vk := by omega); subst hiv; rw [opFeed_0 hv1 hv2 (by omega), dFeed_0 hv1 hv2 (by omega)]; funext zz; by_cases zq1 : zz = o + 4; (rw [zq1, va_up_self]; exact zK9); by_cases zq0 : zz = o + 1; (rw [zq0, va_up_ne _ _ (show o + 1 ≠ o + 4 by omega), va_up_self]; exact zK10); rw [va_up_ne _ _ zq1, va_up_ne _ _ zq0]; rw [he41]; simp only [va_up, if_neg zq0, if_neg zq1]
            · rfl
          · try replace zc11 := mt (nI_leI (a := vk) (b := i) (by omega) (by omega)).mpr zc11
            refine z_aload_n X 0 dX12_feed_47 rfl ?_
            refine z_get X fl_X12_7_12 dX12_feed_48 zK8 rfl ?_
            refine z_sipush (v := 280) X dX12_feed_51 (by decide) ?_
            refine z_aload_n X 0 dX12_feed_54 rfl ?_
            refine z_get X fl_X12_7_12 dX12_feed_55 zK8 rfl ?_
            refine z_bipush (v := 14) X dX12_feed_58 (by decide) ?_
            refine z_iald2 (v := (dFd d nt w i) 14) X dX12_feed_60 zK10 (vp_in_nI (n := 14) (by omega) (by omega)) (congrArg (dFd d nt w i) (nI_clamp (n := 14) (by omega))) ?_
            refine z_toe (y := nI (nt + i)) (dFd_14 p1 i) ?_
            refine z_iadd X dX12_feed_61 ?_
            refine z_toe (y := nI (280 + (nt + i))) (nI_add (280) (nt + i)) ?_
            refine z_lload_n X 1 dX12_feed_62 rfl ?_
            refine z_bipush (v := 8) X dX12_feed_63 (by decide) ?_
            refine z_iload X 3 dX12_feed_65 rfl ?_
            refine z_imul X dX12_feed_67 ?_
            refine z_toe (y := nI (8 * i)) (pk_mul (8) (i)) ?_
            refine z_lshr X dX12_feed_68 rfl ?_
            refine z_ldc2 X dX12_feed_69 wd_1145 ?_
            refine z_land X dX12_feed_72 ?_
            refine z_l2i X dX12_feed_73 rfl ?_
            refine z_iast X dX12_feed_74 zK10 (vp_in_nI (n := 280 + (nt + i)) (by omega) (by omega)) (congrArg (fun z => va_up hh41 (o + 1) (arI κ 340 (upd (dFd d nt w i) z (((w >>> ((nI (8 * i)).toInt64 &&& 63)) &&& ((255 : Int64))).toInt32)))) (nI_clamp (n := 280 + (nt + i)) (by omega))) ?_
            obtain ⟨zh12, ze13⟩ : ∃ z : Mm, z = va_up hh41 (o + 1) (arI κ 340 (upd (dFd d nt w i) (280 + (nt + i)) (((w >>> ((nI (8 * i)).toInt64 &&& 63)) &&& ((255 : Int64))).toInt32))) := ⟨_, rfl⟩
            refine z_heap (h' := zh12) ze13.symm ?_
            have zK14 := up_off ze13 (show o ≠ o + 1 by omega) zK8
            have zK15 := up_off ze13 (show o + 4 ≠ o + 1 by omega) zK9
            have zK16 := up_at ze13
            refine z_aload_n X 0 dX12_feed_75 rfl ?_
            refine z_get X fl_X12_7_12 dX12_feed_76 zK14 rfl ?_
            refine z_bipush (v := 14) X dX12_feed_79 (by decide) ?_
            refine z_dup2 X dX12_feed_81 rfl rfl ?_
            refine z_iald2 (v := (dFd d nt w i) 14) X dX12_feed_82 zK16 (vp_in_nI (n := 14) (by omega) (by omega)) ((congrArg (upd (dFd d nt w i) (280 + (nt + i)) (((w >>> ((nI (8 * i)).toInt64 &&& 63)) &&& ((255 : Int64))).toInt32)) (nI_clamp (n := 14) (by omega))).trans (pk_un (show 14 ≠ 280 + (nt + i) by omega))) ?_
            refine z_toe (y := nI (nt + i)) (dFd_14 p1 i) ?_
            refine z_iconst (v := 1) X dX12_feed_83 (by decide) ?_
            refine z_iadd X dX12_feed_84 ?_
            refine z_toe (y := nI (nt + i + 1)) (nI_add (nt + i) (1)) ?_
            refine z_iast X dX12_feed_85 zK16 (vp_in_nI (n := 14) (by omega) (by omega)) (congrArg (fun z => va_up zh12 (o + 1) (arI κ 340 (upd (upd (dFd d nt w i) (280 + (nt + i)) (((w >>> ((nI (8 * i)).toInt64 &&& 63)) &&& ((255 : Int64))).toInt32)) z (nI (nt + i + 1))))) (nI_clamp (n := 14) (by omega))) ?_
            obtain ⟨zh17, ze18⟩ : ∃ z : Mm, z = va_up zh12 (o + 1) (arI κ 340 (upd (upd (dFd d nt w i) (280 + (nt + i)) (((w >>> ((nI (8 * i)).toInt64 &&& 63)) &&& ((255 : Int64))).toInt32)) 14 (nI (nt + i + 1)))) := ⟨_, rfl⟩
            refine z_heap (h' := zh17) ze18.symm ?_
            have zK19 := up_off ze18 (show o ≠ o + 1 by omega) zK14
            have zK20 := up_off ze18 (show o + 4 ≠ o + 1 by omega) zK15
            have zK21 := up_at ze18
            refine z_iinc (v := nI (i + 1)) (ls' := [(4, .int (nI (i + 1))), (0, .ref o), (1, .long w), (3, .int (nI vk))]) X 3 dX12_feed_86 rfl (nI_1 (i)) (by decide) rfl ?_
            refine z_goto X 41 dX12_feed_89 (by decide) ?_
            refine z_sub (ls' := [(0, .ref o), (1, .long w), (3, .int (nI vk)), (4, .int (nI (i + 1)))]) [1, 2, 3, 0] rfl ?_
            exact ih41 _ (i + 1) (by omega) (by rw [ze18, ze13, he41, up_up, up_up, ← dFd_s]; first | done | rfl) (by first | assumption | rfl | omega)
      refine z_sub (ls' := [(0, .ref o), (1, .long w), (3, .int (nI vk)), (4, .int 0)]) [1, 2, 3, 0] rfl ?_
      exact L41 _ _ 0 (Nat.lt_succ_self _) (by rw [dFd_0, up_same _ _ K2]) (by first | assumption | rfl | omega)
    · try replace zc7 := mt (nI_leI (a := nt + vk) (b := 50) (by omega) (by omega)).mpr zc7
      refine z_aload_n X 0 dX12_feed_32 rfl ?_
      refine z_iconst (v := 4) X dX12_feed_33 (by decide) ?_
      refine z_callV X (r_finds (κ := κ) (n := n) (o := (o)) (k := (4)) (fo := (fo)) (im := (im)) (ba := (ba)) (at_ := (at_)) (sz := (sz)) (fa := (fa)) (op := (op)) (rm := (rm)) (ti := (ti)) (tm := (tm)) (wh := (wh)) K0 K1 (by first | assumption | omega) (by first | assumption | omega)) mk_X12_finds dX12_feed_34 wd_1018 wd_1020 wd_24 rfl K0 rfl rfl rfl (Nat.le_of_ble_eq_true rfl) (Nat.le_of_ble_eq_true rfl) (Nat.le_of_ble_eq_true rfl) (by omega) (by omega) (fun q zh22 zm24 zp25 => ?_)
      obtain ⟨rfl, ze23, zn26⟩ := zp25
      subst zm24
      refine z_st (st' := [.int (lowE 4)]) rfl ?_
      have zK27 : zh22 o = some (.inr (12, [.ref (o + 1), .ref (o + 2), .ref (o + 3), .int im, .ref (o + 4), .int ba, .int at_, .int sz, .int fa, .int op, .ref (o + 5), .ref (o + 6), .int rm, .ref (o + 7), .ref (o + 8), .int ti, .ref (o + 9), .int tm, .int wh, .ref (o + 10), .ref (o + 11), .ref (o + 12), .ref (o + 13)])) := by rw [ze23]; rw [va_up_ne _ _ (show o ≠ o + 4 by omega)]; exact K0
      have zK28 : zh22 (o + 4) = arI κ 6 (bmp fo 4) := by rw [ze23]; exact va_up_self _ _ _
      have zK29 : zh22 (o + 1) = arI κ 340 d := by rw [ze23]; rw [va_up_ne _ _ (show o + 1 ≠ o + 4 by omega)]; exact K2
      refine z_iret X E dX12_feed_37 (by omega) (by omega) ⟨?_, ?_, ?_⟩
      · rw [opFeed_4 hv1 hv2 (by omega)]; first | done | rfl
      · rw [opFeed_4 hv1 hv2 (by omega), dFeed_4 hv1 hv2 (by omega)]; funext zz; by_cases zq1 : zz = o + 4; (rw [zq1, va_up_self]; exact zK28); by_cases zq0 : zz = o + 1; (rw [zq0, va_up_ne _ _ (show o + 1 ≠ o + 4 by omega), va_up_self]; exact zK29); rw [va_up_ne _ _ zq1, va_up_ne _ _ zq0]; rw [ze23]; simp only [va_up, if_neg zq0, if_neg zq1]
      · rfl
  · replace zc6 := b2i_f zc6
    refine z_aload_n X 0 dX12_feed_12 rfl ?_
    refine z_iconst (v := 1) X dX12_feed_13 (by decide) ?_
    refine z_callV X (r_finds (κ := κ) (n := n) (o := (o)) (k := (1)) (fo := (fo)) (im := (im)) (ba := (ba)) (at_ := (at_)) (sz := (sz)) (fa := (fa)) (op := (op)) (rm := (rm)) (ti := (ti)) (tm := (tm)) (wh := (wh)) K0 K1 (by first | assumption | omega) (by first | assumption | omega)) mk_X12_finds dX12_feed_14 wd_1018 wd_1020 wd_24 rfl K0 rfl rfl rfl (Nat.le_of_ble_eq_true rfl) (Nat.le_of_ble_eq_true rfl) (Nat.le_of_ble_eq_true rfl) (by omega) (by omega) (fun q zh30 zm32 zp33 => ?_)
    obtain ⟨rfl, ze31, zn34⟩ := zp33
    subst zm32
    refine z_st (st' := [.int (lowE 1)]) rfl ?_
    have zK35 : zh30 o = some (.inr (12, [.ref (o + 1), .ref (o + 2), .ref (o + 3), .int im, .ref (o + 4), .int ba, .int at_, .int sz, .int fa, .int op, .ref (o + 5), .ref (o + 6), .int rm, .ref (o + 7), .ref (o + 8), .int ti, .ref (o + 9), .int tm, .int wh, .ref (o + 10), .ref (o + 11), .ref (o + 12), .ref (o + 13)])) := by rw [ze31]; rw [va_up_ne _ _ (show o ≠ o + 4 by omega)]; exact K0
    have zK36 : zh30 (o + 4) = arI κ 6 (bmp fo 1) := by rw [ze31]; exact va_up_self _ _ _
    have zK37 : zh30 (o + 1) = arI κ 340 d := by rw [ze31]; rw [va_up_ne _ _ (show o + 1 ≠ o + 4 by omega)]; exact K2
    refine z_iret X E dX12_feed_17 (by omega) (by omega) ⟨?_, ?_, ?_⟩
    · generalize hz : opFeed nt v = z; unfold opFeed at hz; rw [if_pos (by assumption)] at hz; subst hz; rfl
    · generalize hz : opFeed nt v = z; unfold opFeed at hz; rw [if_pos (by assumption)] at hz; subst hz; unfold dFeed; rw [if_pos (by assumption)]; funext zz; by_cases zq1 : zz = o + 4; (rw [zq1, va_up_self]; exact zK36); by_cases zq0 : zz = o + 1; (rw [zq0, va_up_ne _ _ (show o + 1 ≠ o + 4 by omega), va_up_self]; exact zK37); rw [va_up_ne _ _ zq1, va_up_ne _ _ zq0]; rw [ze31]; simp only [va_up, if_neg zq0, if_neg zq1]
    · rfl
/-- the places that a move may be at -/
abbrev movP (ss : Nat → Nat) (sk tk2 : Nat) (i j v : Int32) : Prop := 0 ≤ v.toInt ∧ 0 ≤ i.toInt ∧ 0 ≤ j.toInt ∧ v.toInt + i.toInt ≤ ((ss sk : Nat) : Int) ∧ v.toInt + j.toInt ≤ ((ss tk2 : Nat) : Int)
def opMove (bi : Nat → Int32) (ss : Nat → Nat) (s i t j v : Int32) : Nat × Int32 := if ¬ (0 ≤ s.toInt ∧ s.toInt ≤ 3 ∧ 0 ≤ t.toInt ∧ t.toInt ≤ 3) then (1, 0) else if bi s.toNatClampNeg = 0 ∨ bi t.toNatClampNeg = 0 then (2, 0) else if ¬ bi s.toNatClampNeg = bi t.toNatClampNeg then (5, 0) else if ¬ movP ss s.toNatClampNeg t.toNatClampNeg i j v then (1, 0) else (0, v)
def nuMov (nu : Nat → Int32) (sk i tk2 j n : Nat) : Nat → Int32 := fun q => if 40 * tk2 + j ≤ q ∧ q < 40 * tk2 + j + n then nu (40 * sk + i + (q - (40 * tk2 + j))) else nu q
def nuMove (nu bi : Nat → Int32) (ss : Nat → Nat) (s i t j v : Int32) : Nat → Int32 := if (opMove bi ss s i t j v).1 = 0 then nuMov nu s.toNatClampNeg i.toNatClampNeg t.toNatClampNeg j.toNatClampNeg v.toNatClampNeg else nu
section MV
variable {bi nu : Nat → Int32} {ss : Nat → Nat} {sk tk2 : Nat} {s t i j v : Int32}
theorem opMove_1 (h : ¬ (0 ≤ s.toInt ∧ s.toInt ≤ 3 ∧ 0 ≤ t.toInt ∧ t.toInt ≤ 3)) : opMove bi ss s i t j v = (1, 0) := if_pos h
theorem opMove_2 (hs : sk < 4) (ht : tk2 < 4) (h : bi sk = 0 ∨ bi tk2 = 0) : opMove bi ss (nI sk) i (nI tk2) j v = (2, 0) := by
  unfold opMove
  rw [i_nI (by omega), i_nI (by omega), nI_clamp (by omega), nI_clamp (by omega), if_neg (by omega), if_pos h]
theorem opMove_5 (hs : sk < 4) (ht : tk2 < 4) (h1 : ¬ bi sk = 0) (h2 : ¬ bi tk2 = 0) (h : ¬ bi sk = bi tk2) : opMove bi ss (nI sk) i (nI tk2) j v = (5, 0) := by
  unfold opMove
  rw [i_nI (by omega), i_nI (by omega), nI_clamp (by omega), nI_clamp (by omega), if_neg (by omega), if_neg (fun q => q.elim h1 h2), if_pos h]
theorem opMove_b (hs : sk < 4) (ht : tk2 < 4) (h1 : ¬ bi sk = 0) (h2 : ¬ bi tk2 = 0) (h3 : bi sk = bi tk2) (h : ¬ movP ss sk tk2 i j v) : opMove bi ss (nI sk) i (nI tk2) j v = (1, 0) := by
  unfold opMove
  rw [i_nI (by omega), i_nI (by omega), nI_clamp (by omega), nI_clamp (by omega), if_neg (by omega), if_neg (fun q => q.elim h1 h2), if_neg (fun q => q h3), if_pos h]
theorem opMove_0 (hs : sk < 4) (ht : tk2 < 4) (h1 : ¬ bi sk = 0) (h2 : ¬ bi tk2 = 0) (h3 : bi sk = bi tk2) (h : movP ss sk tk2 i j v) : opMove bi ss (nI sk) i (nI tk2) j v = (0, v) := by
  unfold opMove
  rw [i_nI (by omega), i_nI (by omega), nI_clamp (by omega), nI_clamp (by omega), if_neg (by omega), if_neg (fun q => q.elim h1 h2), if_neg (fun q => q h3), if_neg (fun q => q h)]
theorem nuMove_x {q : Nat × Int32} (h : opMove bi ss s i t j v = q) (hq : ¬ q.1 = 0) : nuMove nu bi ss s i t j v = nu := by
  unfold nuMove
  rw [h]
  exact if_neg hq
theorem nuMove_0 {ik jk vk : Nat} (hi : ik ≤ 40) (hj : jk ≤ 40) (hv : vk ≤ 40) (hs : sk < 4) (ht : tk2 < 4) {x : Int32} (h : opMove bi ss (nI sk) (nI ik) (nI tk2) (nI jk) (nI vk) = (0, x)) : nuMove nu bi ss (nI sk) (nI ik) (nI tk2) (nI jk) (nI vk) = nuMov nu sk ik tk2 jk vk := by
  unfold nuMove
  rw [h, nI_clamp (by omega), nI_clamp (by omega), nI_clamp (by omega), nI_clamp (by omega), nI_clamp (by omega)]
  exact if_pos rfl
theorem mov_sub {k : Nat} {x : Int32} (hk : k ≤ 40) (hx : 0 ≤ x.toInt) : (nI k - x).toInt = (k : Int) - x.toInt := by
  have h1 := i_hi x
  rw [i_sub] <;> rw [i_nI (by omega)] <;> omega
theorem nuMov_z (nu : Nat → Int32) (sk i tk2 j q : Nat) : nu q = if 40 * tk2 + j ≤ q ∧ q < 40 * tk2 + j + 0 then nu (40 * sk + i + (q - (40 * tk2 + j))) else nu q := (if_neg (by omega)).symm
end MV
set_option maxHeartbeats 4000000 in
set_option maxRecDepth 100000 in
theorem r_move {κ : Wc} {l : Launch} {h : Mm} {n : Nat} {o : Nat} {fo : Nat → Int32} {li : Nat → Int32} {bi : Nat → Int32} {si : Nat → Int32} {nu : Nat → Int32} {ss : Nat → Nat} {im : Int32} {ba : Int32} {at_ : Int32} {sz : Int32} {fa : Int32} {op : Int32} {rm : Int32} {ti : Int32} {tm : Int32} {wh : Int32} {s : Int32} {i : Int32} {t : Int32} {j : Int32} {v : Int32} (K0 : h o = some (.inr (12, [.ref (o + 1), .ref (o + 2), .ref (o + 3), .int im, .ref (o + 4), .int ba, .int at_, .int sz, .int fa, .int op, .ref (o + 5), .ref (o + 6), .int rm, .ref (o + 7), .ref (o + 8), .int ti, .ref (o + 9), .int tm, .int wh, .ref (o + 10), .ref (o + 11), .ref (o + 12), .ref (o + 13)]))) (K1 : h (o + 4) = arI κ 6 fo) (K2 : h (o + 10) = arI κ 4 bi) (K3 : h (o + 11) = arI κ 4 si) (K4 : h (o + 12) = arI κ 160 nu) (K5 : h (o + 13) = arI κ 40 li) (p1 : ∀ k, k < 4 → si k = nI (ss k) ∧ ss k ≤ 40) : Con κ l yX12_move cX12_move 7 (some .int) 3 0 0 [.ref o, .int s, .int i, .int t, .int j, .int v] h n (fun q h' n' => ∃ li' : Nat → Int32, q = some (.int (ansOf (opMove bi ss s i t j v))) ∧ h' = va_up (va_up (va_up h (o + 12) (arI κ 160 (nuMove nu bi ss s i t j v))) (o + 13) (arI κ 40 li')) (o + 4) (arI κ 6 (bump (opMove bi ss s i t j v) fo)) ∧ n' = n) := by
  refine Con.of mk_X12_move (Nat.le_of_ble_eq_true rfl) (fun G hG X E => ?_)
  subst hG
  refine z_ls (ls' := [(0, .ref o), (1, .int s), (2, .int i), (3, .int t), (4, .int j), (5, .int v)]) rfl ?_
  refine z_iload_n X 1 dX12_move_0 rfl ?_
  refine z_callS X (r_isSheet (κ := κ) (n := n) (v := (s))  ) mk_X12_isSheet dX12_move_1 wd_1036 wd_1037 rfl rfl (Nat.le_of_ble_eq_true rfl) (Nat.le_of_ble_eq_true rfl) (Nat.le_of_ble_eq_true rfl) (by omega) (by omega) (fun q zh1 zm3 zp4 => ?_)
  obtain ⟨rfl, ze2, zn5⟩ := zp4
  subst zm3
  subst zh1
  refine z_st (st' := [.int (b2i (0 ≤ (s : Int32).toInt ∧ (s : Int32).toInt ≤ 3))]) rfl ?_
  refine z_if_eq X 14 dX12_move_4 (by decide) (fun zc6 => ?_) (fun zc6 => ?_)
  · replace zc6 := b2i_f zc6
    refine z_aload_n X 0 dX12_move_14 rfl ?_
    refine z_iconst (v := 1) X dX12_move_15 (by decide) ?_
    refine z_callV X (r_finds (κ := κ) (n := n) (o := (o)) (k := (1)) (fo := (fo)) (im := (im)) (ba := (ba)) (at_ := (at_)) (sz := (sz)) (fa := (fa)) (op := (op)) (rm := (rm)) (ti := (ti)) (tm := (tm)) (wh := (wh)) K0 K1 (by first | assumption | omega) (by first | assumption | omega)) mk_X12_finds dX12_move_16 wd_1018 wd_1020 wd_24 rfl K0 rfl rfl rfl (Nat.le_of_ble_eq_true rfl) (Nat.le_of_ble_eq_true rfl) (Nat.le_of_ble_eq_true rfl) (by omega) (by omega) (fun q zh7 zm9 zp10 => ?_)
    obtain ⟨rfl, ze8, zn11⟩ := zp10
    subst zm9
    refine z_st (st' := [.int (lowE 1)]) rfl ?_
    have zK12 : zh7 o = some (.inr (12, [.ref (o + 1), .ref (o + 2), .ref (o + 3), .int im, .ref (o + 4), .int ba, .int at_, .int sz, .int fa, .int op, .ref (o + 5), .ref (o + 6), .int rm, .ref (o + 7), .ref (o + 8), .int ti, .ref (o + 9), .int tm, .int wh, .ref (o + 10), .ref (o + 11), .ref (o + 12), .ref (o + 13)])) := by rw [ze8]; rw [va_up_ne _ _ (show o ≠ o + 4 by omega)]; exact K0
    have zK13 : zh7 (o + 4) = arI κ 6 (bmp fo 1) := by rw [ze8]; exact va_up_self _ _ _
    have zK14 : zh7 (o + 10) = arI κ 4 bi := by rw [ze8]; rw [va_up_ne _ _ (show o + 10 ≠ o + 4 by omega)]; exact K2
    have zK15 : zh7 (o + 11) = arI κ 4 si := by rw [ze8]; rw [va_up_ne _ _ (show o + 11 ≠ o + 4 by omega)]; exact K3
    have zK16 : zh7 (o + 12) = arI κ 160 nu := by rw [ze8]; rw [va_up_ne _ _ (show o + 12 ≠ o + 4 by omega)]; exact K4
    have zK17 : zh7 (o + 13) = arI κ 40 li := by rw [ze8]; rw [va_up_ne _ _ (show o + 13 ≠ o + 4 by omega)]; exact K5
    refine z_iret X E dX12_move_19 (by omega) (by omega) ⟨li, ?_, ?_, ?_⟩
    · rw [opMove_1 (bi := bi) (ss := ss) (s := s) (t := t) (i := i) (j := j) (v := v) (by omega)]; first | done | rfl
    · (have hop := opMove_1 (bi := bi) (ss := ss) (s := s) (t := t) (i := i) (j := j) (v := v) (by omega)); rw [nuMove_x hop (by decide), hop]; clear hop; funext zz; by_cases zq2 : zz = o + 4; (rw [zq2, va_up_self]; exact zK13); by_cases zq1 : zz = o + 13; (rw [zq1, va_up_ne _ _ (show o + 13 ≠ o + 4 by omega), va_up_self]; exact zK17); by_cases zq0 : zz = o + 12; (rw [zq0, va_up_ne _ _ (show o + 12 ≠ o + 4 by omega), va_up_ne _ _ (show o + 12 ≠ o + 13 by omega), va_up_self]; exact zK16); rw [va_up_ne _ _ zq2, va_up_ne _ _ zq1, va_up_ne _ _ zq0]; rw [ze8]; simp only [va_up, if_neg zq0, if_neg zq1, if_neg zq2]
    · rfl
  · replace zc6 := b2i_t zc6
    refine z_iload_n X 3 dX12_move_7 rfl ?_
    refine z_callS X (r_isSheet (κ := κ) (n := n) (v := (t))  ) mk_X12_isSheet dX12_move_8 wd_1036 wd_1037 rfl rfl (Nat.le_of_ble_eq_true rfl) (Nat.le_of_ble_eq_true rfl) (Nat.le_of_ble_eq_true rfl) (by omega) (by omega) (fun q zh18 zm20 zp21 => ?_)
    obtain ⟨rfl, ze19, zn22⟩ := zp21
    subst zm20
    subst zh18
    refine z_st (st' := [.int (b2i (0 ≤ (t : Int32).toInt ∧ (t : Int32).toInt ≤ 3))]) rfl ?_
    refine z_if_ne X 20 dX12_move_11 (by decide) (fun zc23 => ?_) (fun zc23 => ?_)
    · replace zc23 := b2i_t zc23
      obtain ⟨sk, hsk, rfl⟩ := ix_of (c := s) (len := 4) (by omega) (by omega)
      obtain ⟨tk2, htk2, rfl⟩ := ix_of (c := t) (len := 4) (by omega) (by omega)
      have hss := (p1 sk hsk).2
      have hst := (p1 tk2 htk2).2
      refine z_aload_n X 0 dX12_move_20 rfl ?_
      refine z_get X fl_X12_37_12 dX12_move_21 K0 rfl ?_
      refine z_iload_n X 1 dX12_move_24 rfl ?_
      refine z_iald2 (v := bi sk) X dX12_move_25 K2 (vp_in_nI (n := sk) (by omega) (by omega)) (congrArg bi (nI_clamp (n := sk) (by omega))) ?_
      refine z_if_eq X 38 dX12_move_26 (by decide) (fun zc24 => ?_) (fun zc24 => ?_)
      · refine z_aload_n X 0 dX12_move_38 rfl ?_
        refine z_iconst (v := 2) X dX12_move_39 (by decide) ?_
        refine z_callV X (r_finds (κ := κ) (n := n) (o := (o)) (k := (2)) (fo := (fo)) (im := (im)) (ba := (ba)) (at_ := (at_)) (sz := (sz)) (fa := (fa)) (op := (op)) (rm := (rm)) (ti := (ti)) (tm := (tm)) (wh := (wh)) K0 K1 (by first | assumption | omega) (by first | assumption | omega)) mk_X12_finds dX12_move_40 wd_1018 wd_1020 wd_24 rfl K0 rfl rfl rfl (Nat.le_of_ble_eq_true rfl) (Nat.le_of_ble_eq_true rfl) (Nat.le_of_ble_eq_true rfl) (by omega) (by omega) (fun q zh25 zm27 zp28 => ?_)
        obtain ⟨rfl, ze26, zn29⟩ := zp28
        subst zm27
        refine z_st (st' := [.int (lowE 2)]) rfl ?_
        have zK30 : zh25 o = some (.inr (12, [.ref (o + 1), .ref (o + 2), .ref (o + 3), .int im, .ref (o + 4), .int ba, .int at_, .int sz, .int fa, .int op, .ref (o + 5), .ref (o + 6), .int rm, .ref (o + 7), .ref (o + 8), .int ti, .ref (o + 9), .int tm, .int wh, .ref (o + 10), .ref (o + 11), .ref (o + 12), .ref (o + 13)])) := by rw [ze26]; rw [va_up_ne _ _ (show o ≠ o + 4 by omega)]; exact K0
        have zK31 : zh25 (o + 4) = arI κ 6 (bmp fo 2) := by rw [ze26]; exact va_up_self _ _ _
        have zK32 : zh25 (o + 10) = arI κ 4 bi := by rw [ze26]; rw [va_up_ne _ _ (show o + 10 ≠ o + 4 by omega)]; exact K2
        have zK33 : zh25 (o + 11) = arI κ 4 si := by rw [ze26]; rw [va_up_ne _ _ (show o + 11 ≠ o + 4 by omega)]; exact K3
        have zK34 : zh25 (o + 12) = arI κ 160 nu := by rw [ze26]; rw [va_up_ne _ _ (show o + 12 ≠ o + 4 by omega)]; exact K4
        have zK35 : zh25 (o + 13) = arI κ 40 li := by rw [ze26]; rw [va_up_ne _ _ (show o + 13 ≠ o + 4 by omega)]; exact K5
        refine z_iret X E dX12_move_43 (by omega) (by omega) ⟨li, ?_, ?_, ?_⟩
        · rw [opMove_2 (bi := bi) (ss := ss) (sk := sk) (tk2 := tk2) (i := i) (j := j) (v := v) hsk htk2 (by first | exact Or.inl (by assumption) | exact Or.inr (by assumption))]; first | done | rfl
        · (have hop := opMove_2 (bi := bi) (ss := ss) (sk := sk) (tk2 := tk2) (i := i) (j := j) (v := v) hsk htk2 (by first | exact Or.inl (by assumption) | exact Or.inr (by assumption))); rw [nuMove_x hop (by decide), hop]; clear hop; funext zz; by_cases zq2 : zz = o + 4; (rw [zq2, va_up_self]; exact zK31); by_cases zq1 : zz = o + 13; (rw [zq1, va_up_ne _ _ (show o + 13 ≠ o + 4 by omega), va_up_self]; exact zK35); by_cases zq0 : zz = o + 12; (rw [zq0, va_up_ne _ _ (show o + 12 ≠ o + 4 by omega), va_up_ne _ _ (show o + 12 ≠ o + 13 by omega), va_up_self]; exact zK34); rw [va_up_ne _ _ zq2, va_up_ne _ _ zq1, va_up_ne _ _ zq0]; rw [ze26]; simp only [va_up, if_neg zq0, if_neg zq1, if_neg zq2]
        · rfl
      · refine z_aload_n X 0 dX12_move_29 rfl ?_
        refine z_get X fl_X12_37_12 dX12_move_30 K0 rfl ?_
        refine z_iload_n X 3 dX12_move_33 rfl ?_
        refine z_iald2 (v := bi tk2) X dX12_move_34 K2 (vp_in_nI (n := tk2) (by omega) (by omega)) (congrArg bi (nI_clamp (n := tk2) (by omega))) ?_
        refine z_if_ne X 44 dX12_move_35 (by decide) (fun zc36 => ?_) (fun zc36 => ?_)
        · refine z_aload_n X 0 dX12_move_44 rfl ?_
          refine z_get X fl_X12_37_12 dX12_move_45 K0 rfl ?_
          refine z_iload_n X 1 dX12_move_48 rfl ?_
          refine z_iald2 (v := bi sk) X dX12_move_49 K2 (vp_in_nI (n := sk) (by omega) (by omega)) (congrArg bi (nI_clamp (n := sk) (by omega))) ?_
          refine z_aload_n X 0 dX12_move_50 rfl ?_
          refine z_get X fl_X12_37_12 dX12_move_51 K0 rfl ?_
          refine z_iload_n X 3 dX12_move_54 rfl ?_
          refine z_iald2 (v := bi tk2) X dX12_move_55 K2 (vp_in_nI (n := tk2) (by omega) (by omega)) (congrArg bi (nI_clamp (n := tk2) (by omega))) ?_
          refine z_icmp_eq X 65 dX12_move_56 (by decide) (fun zc37 => ?_) (fun zc37 => ?_)
          · refine z_iload X 5 dX12_move_65 rfl ?_
            refine z_if_lt X 106 dX12_move_67 (by decide) (fun zc38 => ?_) (fun zc38 => ?_)
            · have hmv : ¬ movP ss sk tk2 i j v := by (simp only [i_lt, i_le, show (0 : Int32).toInt = 0 by decide] at *; omega)
              refine z_aload_n X 0 dX12_move_106 rfl ?_
              refine z_iconst (v := 1) X dX12_move_107 (by decide) ?_
              refine z_callV X (r_finds (κ := κ) (n := n) (o := (o)) (k := (1)) (fo := (fo)) (im := (im)) (ba := (ba)) (at_ := (at_)) (sz := (sz)) (fa := (fa)) (op := (op)) (rm := (rm)) (ti := (ti)) (tm := (tm)) (wh := (wh)) K0 K1 (by first | assumption | omega) (by first | assumption | omega)) mk_X12_finds dX12_move_108 wd_1018 wd_1020 wd_24 rfl K0 rfl rfl rfl (Nat.le_of_ble_eq_true rfl) (Nat.le_of_ble_eq_true rfl) (Nat.le_of_ble_eq_true rfl) (by omega) (by omega) (fun q zh39 zm41 zp42 => ?_)
              obtain ⟨rfl, ze40, zn43⟩ := zp42
              subst zm41
              refine z_st (st' := [.int (lowE 1)]) rfl ?_
              have zK44 : zh39 o = some (.inr (12, [.ref (o + 1), .ref (o + 2), .ref (o + 3), .int im, .ref (o + 4), .int ba, .int at_, .int sz, .int fa, .int op, .ref (o + 5), .ref (o + 6), .int rm, .ref (o + 7), .ref (o + 8), .int ti, .ref (o + 9), .int tm, .int wh, .ref (o + 10), .ref (o + 11), .ref (o + 12), .ref (o + 13)])) := by rw [ze40]; rw [va_up_ne _ _ (show o ≠ o + 4 by omega)]; exact K0
              have zK45 : zh39 (o + 4) = arI κ 6 (bmp fo 1) := by rw [ze40]; exact va_up_self _ _ _
              have zK46 : zh39 (o + 10) = arI κ 4 bi := by rw [ze40]; rw [va_up_ne _ _ (show o + 10 ≠ o + 4 by omega)]; exact K2
              have zK47 : zh39 (o + 11) = arI κ 4 si := by rw [ze40]; rw [va_up_ne _ _ (show o + 11 ≠ o + 4 by omega)]; exact K3
              have zK48 : zh39 (o + 12) = arI κ 160 nu := by rw [ze40]; rw [va_up_ne _ _ (show o + 12 ≠ o + 4 by omega)]; exact K4
              have zK49 : zh39 (o + 13) = arI κ 40 li := by rw [ze40]; rw [va_up_ne _ _ (show o + 13 ≠ o + 4 by omega)]; exact K5
              refine z_iret X E dX12_move_111 (by omega) (by omega) ⟨li, ?_, ?_, ?_⟩
              · rw [opMove_b (bi := bi) (ss := ss) (sk := sk) (tk2 := tk2) (i := i) (j := j) (v := v) hsk htk2 (by assumption) (by assumption) (by assumption) hmv]; first | done | rfl
              · (have hop := opMove_b (bi := bi) (ss := ss) (sk := sk) (tk2 := tk2) (i := i) (j := j) (v := v) hsk htk2 (by assumption) (by assumption) (by assumption) hmv); rw [nuMove_x hop (by decide), hop]; clear hop; funext zz; by_cases zq2 : zz = o + 4; (rw [zq2, va_up_self]; exact zK45); by_cases zq1 : zz = o + 13; (rw [zq1, va_up_ne _ _ (show o + 13 ≠ o + 4 by omega), va_up_self]; exact zK49); by_cases zq0 : zz = o + 12; (rw [zq0, va_up_ne _ _ (show o + 12 ≠ o + 4 by omega), va_up_ne _ _ (show o + 12 ≠ o + 13 by omega), va_up_self]; exact zK48); rw [va_up_ne _ _ zq2, va_up_ne _ _ zq1, va_up_ne _ _ zq0]; rw [ze40]; simp only [va_up, if_neg zq0, if_neg zq1, if_neg zq2]
              · rfl
            · refine z_iload_n X 2 dX12_move_70 rfl ?_
              refine z_if_lt X 106 dX12_move_71 (by decide) (fun zc50 => ?_) (fun zc50 => ?_)
              · have hmv : ¬ movP ss sk tk2 i j v := by (simp only [i_lt, i_le, show (0 : Int32).toInt = 0 by decide] at *; omega)
                refine z_aload_n X 0 dX12_move_106 rfl ?_
                refine z_iconst (v := 1) X dX12_move_107 (by decide) ?_
                refine z_callV X (r_finds (κ := κ) (n := n) (o := (o)) (k := (1)) (fo := (fo)) (im := (im)) (ba := (ba)) (at_ := (at_)) (sz := (sz)) (fa := (fa)) (op := (op)) (rm := (rm)) (ti := (ti)) (tm := (tm)) (wh := (wh)) K0 K1 (by first | assumption | omega) (by first | assumption | omega)) mk_X12_finds dX12_move_108 wd_1018 wd_1020 wd_24 rfl K0 rfl rfl rfl (Nat.le_of_ble_eq_true rfl) (Nat.le_of_ble_eq_true rfl) (Nat.le_of_ble_eq_true rfl) (by omega) (by omega) (fun q zh51 zm53 zp54 => ?_)
                obtain ⟨rfl, ze52, zn55⟩ := zp54
                subst zm53
                refine z_st (st' := [.int (lowE 1)]) rfl ?_
                have zK56 : zh51 o = some (.inr (12, [.ref (o + 1), .ref (o + 2), .ref (o + 3), .int im, .ref (o + 4), .int ba, .int at_, .int sz, .int fa, .int op, .ref (o + 5), .ref (o + 6), .int rm, .ref (o + 7), .ref (o + 8), .int ti, .ref (o + 9), .int tm, .int wh, .ref (o + 10), .ref (o + 11), .ref (o + 12), .ref (o + 13)])) := by rw [ze52]; rw [va_up_ne _ _ (show o ≠ o + 4 by omega)]; exact K0
                have zK57 : zh51 (o + 4) = arI κ 6 (bmp fo 1) := by rw [ze52]; exact va_up_self _ _ _
                have zK58 : zh51 (o + 10) = arI κ 4 bi := by rw [ze52]; rw [va_up_ne _ _ (show o + 10 ≠ o + 4 by omega)]; exact K2
                have zK59 : zh51 (o + 11) = arI κ 4 si := by rw [ze52]; rw [va_up_ne _ _ (show o + 11 ≠ o + 4 by omega)]; exact K3
                have zK60 : zh51 (o + 12) = arI κ 160 nu := by rw [ze52]; rw [va_up_ne _ _ (show o + 12 ≠ o + 4 by omega)]; exact K4
                have zK61 : zh51 (o + 13) = arI κ 40 li := by rw [ze52]; rw [va_up_ne _ _ (show o + 13 ≠ o + 4 by omega)]; exact K5
                refine z_iret X E dX12_move_111 (by omega) (by omega) ⟨li, ?_, ?_, ?_⟩
                · rw [opMove_b (bi := bi) (ss := ss) (sk := sk) (tk2 := tk2) (i := i) (j := j) (v := v) hsk htk2 (by assumption) (by assumption) (by assumption) hmv]; first | done | rfl
                · (have hop := opMove_b (bi := bi) (ss := ss) (sk := sk) (tk2 := tk2) (i := i) (j := j) (v := v) hsk htk2 (by assumption) (by assumption) (by assumption) hmv); rw [nuMove_x hop (by decide), hop]; clear hop; funext zz; by_cases zq2 : zz = o + 4; (rw [zq2, va_up_self]; exact zK57); by_cases zq1 : zz = o + 13; (rw [zq1, va_up_ne _ _ (show o + 13 ≠ o + 4 by omega), va_up_self]; exact zK61); by_cases zq0 : zz = o + 12; (rw [zq0, va_up_ne _ _ (show o + 12 ≠ o + 4 by omega), va_up_ne _ _ (show o + 12 ≠ o + 13 by omega), va_up_self]; exact zK60); rw [va_up_ne _ _ zq2, va_up_ne _ _ zq1, va_up_ne _ _ zq0]; rw [ze52]; simp only [va_up, if_neg zq0, if_neg zq1, if_neg zq2]
                · rfl
              · refine z_iload X 4 dX12_move_74 rfl ?_
                refine z_if_lt X 106 dX12_move_76 (by decide) (fun zc62 => ?_) (fun zc62 => ?_)
                · have hmv : ¬ movP ss sk tk2 i j v := by (simp only [i_lt, i_le, show (0 : Int32).toInt = 0 by decide] at *; omega)
                  refine z_aload_n X 0 dX12_move_106 rfl ?_
                  refine z_iconst (v := 1) X dX12_move_107 (by decide) ?_
                  refine z_callV X (r_finds (κ := κ) (n := n) (o := (o)) (k := (1)) (fo := (fo)) (im := (im)) (ba := (ba)) (at_ := (at_)) (sz := (sz)) (fa := (fa)) (op := (op)) (rm := (rm)) (ti := (ti)) (tm := (tm)) (wh := (wh)) K0 K1 (by first | assumption | omega) (by first | assumption | omega)) mk_X12_finds dX12_move_108 wd_1018 wd_1020 wd_24 rfl K0 rfl rfl rfl (Nat.le_of_ble_eq_true rfl) (Nat.le_of_ble_eq_true rfl) (Nat.le_of_ble_eq_true rfl) (by omega) (by omega) (fun q zh63 zm65 zp66 => ?_)
                  obtain ⟨rfl, ze64, zn67⟩ := zp66
                  subst zm65
                  refine z_st (st' := [.int (lowE 1)]) rfl ?_
                  have zK68 : zh63 o = some (.inr (12, [.ref (o + 1), .ref (o + 2), .ref (o + 3), .int im, .ref (o + 4), .int ba, .int at_, .int sz, .int fa, .int op, .ref (o + 5), .ref (o + 6), .int rm, .ref (o + 7), .ref (o + 8), .int ti, .ref (o + 9), .int tm, .int wh, .ref (o + 10), .ref (o + 11), .ref (o + 12), .ref (o + 13)])) := by rw [ze64]; rw [va_up_ne _ _ (show o ≠ o + 4 by omega)]; exact K0
                  have zK69 : zh63 (o + 4) = arI κ 6 (bmp fo 1) := by rw [ze64]; exact va_up_self _ _ _
                  have zK70 : zh63 (o + 10) = arI κ 4 bi := by rw [ze64]; rw [va_up_ne _ _ (show o + 10 ≠ o + 4 by omega)]; exact K2
                  have zK71 : zh63 (o + 11) = arI κ 4 si := by rw [ze64]; rw [va_up_ne _ _ (show o + 11 ≠ o + 4 by omega)]; exact K3
                  have zK72 : zh63 (o + 12) = arI κ 160 nu := by rw [ze64]; rw [va_up_ne _ _ (show o + 12 ≠ o + 4 by omega)]; exact K4
                  have zK73 : zh63 (o + 13) = arI κ 40 li := by rw [ze64]; rw [va_up_ne _ _ (show o + 13 ≠ o + 4 by omega)]; exact K5
                  refine z_iret X E dX12_move_111 (by omega) (by omega) ⟨li, ?_, ?_, ?_⟩
                  · rw [opMove_b (bi := bi) (ss := ss) (sk := sk) (tk2 := tk2) (i := i) (j := j) (v := v) hsk htk2 (by assumption) (by assumption) (by assumption) hmv]; first | done | rfl
                  · (have hop := opMove_b (bi := bi) (ss := ss) (sk := sk) (tk2 := tk2) (i := i) (j := j) (v := v) hsk htk2 (by assumption) (by assumption) (by assumption) hmv); rw [nuMove_x hop (by decide), hop]; clear hop; funext zz; by_cases zq2 : zz = o + 4; (rw [zq2, va_up_self]; exact zK69); by_cases zq1 : zz = o + 13; (rw [zq1, va_up_ne _ _ (show o + 13 ≠ o + 4 by omega), va_up_self]; exact zK73); by_cases zq0 : zz = o + 12; (rw [zq0, va_up_ne _ _ (show o + 12 ≠ o + 4 by omega), va_up_ne _ _ (show o + 12 ≠ o + 13 by omega), va_up_self]; exact zK72); rw [va_up_ne _ _ zq2, va_up_ne _ _ zq1, va_up_ne _ _ zq0]; rw [ze64]; simp only [va_up, if_neg zq0, if_neg zq1, if_neg zq2]
                  · rfl
                · have hq1 := mov_sub (k := ss sk) (x := i) (by omega) (by (simp only [i_lt, i_le, show (0 : Int32).toInt = 0 by decide] at *; omega))
                  have hq2 := mov_sub (k := ss tk2) (x := j) (by omega) (by (simp only [i_lt, i_le, show (0 : Int32).toInt = 0 by decide] at *; omega))
                  refine z_iload X 5 dX12_move_79 rfl ?_
                  refine z_aload_n X 0 dX12_move_81 rfl ?_
                  refine z_get X fl_X12_40_12 dX12_move_82 K0 rfl ?_
                  refine z_iload_n X 1 dX12_move_85 rfl ?_
                  refine z_iald2 (v := si sk) X dX12_move_86 K3 (vp_in_nI (n := sk) (by omega) (by omega)) (congrArg si (nI_clamp (n := sk) (by omega))) ?_
                  refine z_toe (y := nI (ss sk)) ((p1 sk hsk).1) ?_
                  refine z_iload_n X 2 dX12_move_87 rfl ?_
                  refine z_isub X dX12_move_88 ?_
                  refine z_icmp_gt X 106 dX12_move_89 (by decide) (fun zc74 => ?_) (fun zc74 => ?_)
                  · have hmv : ¬ movP ss sk tk2 i j v := by (simp only [i_lt, i_le, hq1, show (0 : Int32).toInt = 0 by decide] at *; omega)
                    refine z_aload_n X 0 dX12_move_106 rfl ?_
                    refine z_iconst (v := 1) X dX12_move_107 (by decide) ?_
                    refine z_callV X (r_finds (κ := κ) (n := n) (o := (o)) (k := (1)) (fo := (fo)) (im := (im)) (ba := (ba)) (at_ := (at_)) (sz := (sz)) (fa := (fa)) (op := (op)) (rm := (rm)) (ti := (ti)) (tm := (tm)) (wh := (wh)) K0 K1 (by first | assumption | omega) (by first | assumption | omega)) mk_X12_finds dX12_move_108 wd_1018 wd_1020 wd_24 rfl K0 rfl rfl rfl (Nat.le_of_ble_eq_true rfl) (Nat.le_of_ble_eq_true rfl) (Nat.le_of_ble_eq_true rfl) (by omega) (by omega) (fun q zh75 zm77 zp78 => ?_)
                    obtain ⟨rfl, ze76, zn79⟩ := zp78
                    subst zm77
                    refine z_st (st' := [.int (lowE 1)]) rfl ?_
                    have zK80 : zh75 o = some (.inr (12, [.ref (o + 1), .ref (o + 2), .ref (o + 3), .int im, .ref (o + 4), .int ba, .int at_, .int sz, .int fa, .int op, .ref (o + 5), .ref (o + 6), .int rm, .ref (o + 7), .ref (o + 8), .int ti, .ref (o + 9), .int tm, .int wh, .ref (o + 10), .ref (o + 11), .ref (o + 12), .ref (o + 13)])) := by rw [ze76]; rw [va_up_ne _ _ (show o ≠ o + 4 by omega)]; exact K0
                    have zK81 : zh75 (o + 4) = arI κ 6 (bmp fo 1) := by rw [ze76]; exact va_up_self _ _ _
                    have zK82 : zh75 (o + 10) = arI κ 4 bi := by rw [ze76]; rw [va_up_ne _ _ (show o + 10 ≠ o + 4 by omega)]; exact K2
                    have zK83 : zh75 (o + 11) = arI κ 4 si := by rw [ze76]; rw [va_up_ne _ _ (show o + 11 ≠ o + 4 by omega)]; exact K3
                    have zK84 : zh75 (o + 12) = arI κ 160 nu := by rw [ze76]; rw [va_up_ne _ _ (show o + 12 ≠ o + 4 by omega)]; exact K4
                    have zK85 : zh75 (o + 13) = arI κ 40 li := by rw [ze76]; rw [va_up_ne _ _ (show o + 13 ≠ o + 4 by omega)]; exact K5
                    refine z_iret X E dX12_move_111 (by omega) (by omega) ⟨li, ?_, ?_, ?_⟩
                    · rw [opMove_b (bi := bi) (ss := ss) (sk := sk) (tk2 := tk2) (i := i) (j := j) (v := v) hsk htk2 (by assumption) (by assumption) (by assumption) hmv]; first | done | rfl
                    · (have hop := opMove_b (bi := bi) (ss := ss) (sk := sk) (tk2 := tk2) (i := i) (j := j) (v := v) hsk htk2 (by assumption) (by assumption) (by assumption) hmv); rw [nuMove_x hop (by decide), hop]; clear hop; funext zz; by_cases zq2 : zz = o + 4; (rw [zq2, va_up_self]; exact zK81); by_cases zq1 : zz = o + 13; (rw [zq1, va_up_ne _ _ (show o + 13 ≠ o + 4 by omega), va_up_self]; exact zK85); by_cases zq0 : zz = o + 12; (rw [zq0, va_up_ne _ _ (show o + 12 ≠ o + 4 by omega), va_up_ne _ _ (show o + 12 ≠ o + 13 by omega), va_up_self]; exact zK84); rw [va_up_ne _ _ zq2, va_up_ne _ _ zq1, va_up_ne _ _ zq0]; rw [ze76]; simp only [va_up, if_neg zq0, if_neg zq1, if_neg zq2]
                    · rfl
                  · refine z_iload X 5 dX12_move_92 rfl ?_
                    refine z_aload_n X 0 dX12_move_94 rfl ?_
                    refine z_get X fl_X12_40_12 dX12_move_95 K0 rfl ?_
                    refine z_iload_n X 3 dX12_move_98 rfl ?_
                    refine z_iald2 (v := si tk2) X dX12_move_99 K3 (vp_in_nI (n := tk2) (by omega) (by omega)) (congrArg si (nI_clamp (n := tk2) (by omega))) ?_
                    refine z_toe (y := nI (ss tk2)) ((p1 tk2 htk2).1) ?_
                    refine z_iload X 4 dX12_move_100 rfl ?_
                    refine z_isub X dX12_move_102 ?_
                    refine z_icmp_le X 112 dX12_move_103 (by decide) (fun zc86 => ?_) (fun zc86 => ?_)
                    · have hmv : movP ss sk tk2 i j v := by (simp only [i_lt, i_le, hq1, hq2, show (0 : Int32).toInt = 0 by decide] at *; omega)
                      obtain ⟨ik, hik, rfl⟩ := ix_of (c := i) (len := 41) (by omega) (by omega)
                      obtain ⟨jk, hjk, rfl⟩ := ix_of (c := j) (len := 41) (by omega) (by omega)
                      obtain ⟨vk, hvk, rfl⟩ := ix_of (c := v) (len := 41) (by omega) (by omega)
                      have hmv2 := hmv
                      simp only [movP, i_nI (n := ik) (by omega), i_nI (n := jk) (by omega), i_nI (n := vk) (by omega)] at hmv2
                      refine z_iconst (v := 0) X dX12_move_112 (by decide) ?_
                      refine z_istore (ls' := [(6, .int 0), (0, .ref o), (1, .int (nI sk)), (2, .int (nI ik)), (3, .int (nI tk2)), (4, .int (nI jk)), (5, .int (nI vk))]) X dX12_move_113 (by decide) rfl ?_
                      have L115 : ∀ (jj : Nat) (hh115 : Mm)  (k : Nat) (li2 : Nat → Int32), (vk - k < jj) → (hh115 = va_up h (o + 13) (arI κ 40 li2)) → (hk : k ≤ vk) → (hl : ∀ z, z < k → li2 z = nu (40 * sk + ik + z)) → Z κ G 7 115 [(0, .ref o), (1, .int (nI sk)), (2, .int (nI ik)), (3, .int (nI tk2)), (4, .int (nI jk)), (5, .int (nI vk)), (6, .int (nI k))] [] hh115 n 0 (0) := by
                        intro jj
                        induction jj with
                        | zero => intro hh115 k li2 hmu; exact absurd hmu (Nat.not_lt_zero _)
                        | succ jj ih115 =>
                          intro hh115 k li2 hmu he115 hk hl
                          have zK87 : hh115 o = some (.inr (12, [.ref (o + 1), .ref (o + 2), .ref (o + 3), .int im, .ref (o + 4), .int ba, .int at_, .int sz, .int fa, .int op, .ref (o + 5), .ref (o + 6), .int rm, .ref (o + 7), .ref (o + 8), .int ti, .ref (o + 9), .int tm, .int wh, .ref (o + 10), .ref (o + 11), .ref (o + 12), .ref (o + 13)])) := by rw [he115]; rw [va_up_ne _ _ (show o ≠ o + 13 by omega)]; exact K0
                          have zK88 : hh115 (o + 4) = arI κ 6 fo := by rw [he115]; rw [va_up_ne _ _ (show o + 4 ≠ o + 13 by omega)]; exact K1
                          have zK89 : hh115 (o + 10) = arI κ 4 bi := by rw [he115]; rw [va_up_ne _ _ (show o + 10 ≠ o + 13 by omega)]; exact K2
                          have zK90 : hh115 (o + 11) = arI κ 4 si := by rw [he115]; rw [va_up_ne _ _ (show o + 11 ≠ o + 13 by omega)]; exact K3
                          have zK91 : hh115 (o + 12) = arI κ 160 nu := by rw [he115]; rw [va_up_ne _ _ (show o + 12 ≠ o + 13 by omega)]; exact K4
                          have zK92 : hh115 (o + 13) = arI κ 40 li2 := by rw [he115]; exact va_up_self _ _ _
                          refine z_iload X 6 dX12_move_115 rfl ?_
                          refine z_iload X 5 dX12_move_117 rfl ?_
                          refine z_icmp_ge X 149 dX12_move_119 (by decide) (fun zc93 => ?_) (fun zc93 => ?_)
                          · try replace zc93 := (nI_leI (a := vk) (b := k) (by omega) (by omega)).mp zc93
                            refine z_iconst (v := 0) X dX12_move_149 (by decide) ?_
                            refine z_istore (ls' := [(6, .int 0), (0, .ref o), (1, .int (nI sk)), (2, .int (nI ik)), (3, .int (nI tk2)), (4, .int (nI jk)), (5, .int (nI vk))]) X dX12_move_150 (by decide) rfl ?_
                            have L152 : ∀ (jj : Nat) (hh152 : Mm)  (kk : Nat) (nu2 : Nat → Int32), (vk - kk < jj) → (hh152 = va_up (va_up h (o + 12) (arI κ 160 nu2)) (o + 13) (arI κ 40 li2)) → (hk2 : kk ≤ vk) → (hn : ∀ q, nu2 q = if 40 * tk2 + jk ≤ q ∧ q < 40 * tk2 + jk + kk then nu (40 * sk + ik + (q - (40 * tk2 + jk))) else nu q) → Z κ G 7 152 [(0, .ref o), (1, .int (nI sk)), (2, .int (nI ik)), (3, .int (nI tk2)), (4, .int (nI jk)), (5, .int (nI vk)), (6, .int (nI kk))] [] hh152 n 0 (0) := by
                              intro jj
                              induction jj with
                              | zero => intro hh152 kk nu2 hmu; exact absurd hmu (Nat.not_lt_zero _)
                              | succ jj ih152 =>
                                intro hh152 kk nu2 hmu he152 hk2 hn
                                have zK94 : hh152 o = some (.inr (12, [.ref (o + 1), .ref (o + 2), .ref (o + 3), .int im, .ref (o + 4), .int ba, .int at_, .int sz, .int fa, .int op, .ref (o + 5), .ref (o + 6), .int rm, .ref (o + 7), .ref (o + 8), .int ti, .ref (o + 9), .int tm, .int wh, .ref (o + 10), .ref (o + 11), .ref (o + 12), .ref (o + 13)])) := by rw [he152]; rw [va_up_ne _ _ (show o ≠ o + 13 by omega)]; rw [va_up_ne _ _ (show o ≠ o + 12 by omega)]; exact K0
                                have zK95 : hh152 (o + 4) = arI κ 6 fo := by rw [he152]; rw [va_up_ne _ _ (show o + 4 ≠ o + 13 by omega)]; rw [va_up_ne _ _ (show o + 4 ≠ o + 12 by omega)]; exact K1
                                have zK96 : hh152 (o + 10) = arI κ 4 bi := by rw [he152]; rw [va_up_ne _ _ (show o + 10 ≠ o + 13 by omega)]; rw [va_up_ne _ _ (show o + 10 ≠ o + 12 by omega)]; exact K2
                                have zK97 : hh152 (o + 11) = arI κ 4 si := by rw [he152]; rw [va_up_ne _ _ (show o + 11 ≠ o + 13 by omega)]; rw [va_up_ne _ _ (show o + 11 ≠ o + 12 by omega)]; exact K3
                                have zK98 : hh152 (o + 12) = arI κ 160 nu2 := by rw [he152]; rw [va_up_ne _ _ (show o + 12 ≠ o + 13 by omega)]; exact va_up_self _ _ _
                                have zK99 : hh152 (o + 13) = arI κ 40 li2 := by rw [he152]; exact va_up_self _ _ _
                                refine z_iload X 6 dX12_move_152 rfl ?_
                                refine z_iload X 5 dX12_move_154 rfl ?_
                                refine z_icmp_ge X 187 dX12_move_156 (by decide) (fun zc100 => ?_) (fun zc100 => ?_)
                                · try replace zc100 := (nI_leI (a := vk) (b := kk) (by omega) (by omega)).mp zc100
                                  refine z_iload X 5 dX12_move_187 rfl ?_
                                  refine z_ext (g := nuMov nu sk ik tk2 jk vk) zK98 (fun z hz => (by rw [hn z, show kk = vk by omega]; rfl)) ?_
                                  obtain ⟨zh101, ze102⟩ : ∃ z : Mm, z = va_up hh152 (o + 12) (arI κ 160 (nuMov nu sk ik tk2 jk vk)) := ⟨_, rfl⟩
                                  refine z_heap (h' := zh101) ze102.symm ?_
                                  have zK103 := up_off ze102 (show o ≠ o + 12 by omega) zK94
                                  have zK104 := up_off ze102 (show o + 4 ≠ o + 12 by omega) zK95
                                  have zK105 := up_off ze102 (show o + 10 ≠ o + 12 by omega) zK96
                                  have zK106 := up_off ze102 (show o + 11 ≠ o + 12 by omega) zK97
                                  have zK107 := up_at ze102
                                  have zK108 := up_off ze102 (show o + 13 ≠ o + 12 by omega) zK99
                                  refine z_iret X E dX12_move_189 (by omega) (by omega) ⟨li2, ?_, ?_, ?_⟩
                                  · rw [opMove_0 (bi := bi) (ss := ss) (sk := sk) (tk2 := tk2) hsk htk2 (by assumption) (by assumption) (by assumption) hmv]; first | done | rfl
                                  · (have hop := opMove_0 (bi := bi) (ss := ss) (sk := sk) (tk2 := tk2) hsk htk2 (by assumption) (by assumption) (by assumption) hmv); rw [nuMove_0 (by omega) (by omega) (by omega) hsk htk2 hop, hop, bump_0]; clear hop; funext zz; by_cases zq2 : zz = o + 4; (rw [zq2, va_up_self]; exact zK104); by_cases zq1 : zz = o + 13; (rw [zq1, va_up_ne _ _ (show o + 13 ≠ o + 4 by omega), va_up_self]; exact zK108); by_cases zq0 : zz = o + 12; (rw [zq0, va_up_ne _ _ (show o + 12 ≠ o + 4 by omega), va_up_ne _ _ (show o + 12 ≠ o + 13 by omega), va_up_self]; exact zK107); rw [va_up_ne _ _ zq2, va_up_ne _ _ zq1, va_up_ne _ _ zq0]; rw [ze102, he152]; simp only [va_up, if_neg zq0, if_neg zq1, if_neg zq2]
                                  · rfl
                                · try replace zc100 := mt (nI_leI (a := vk) (b := kk) (by omega) (by omega)).mpr zc100
                                  refine z_aload_n X 0 dX12_move_159 rfl ?_
                                  refine z_get X fl_X12_43_12 dX12_move_160 zK94 rfl ?_
                                  refine z_bipush (v := 40) X dX12_move_163 (by decide) ?_
                                  refine z_iload_n X 3 dX12_move_165 rfl ?_
                                  refine z_imul X dX12_move_166 ?_
                                  refine z_toe (y := nI (40 * tk2)) (pk_mul (40) (tk2)) ?_
                                  refine z_iload X 4 dX12_move_167 rfl ?_
                                  refine z_iadd X dX12_move_169 ?_
                                  refine z_toe (y := nI ((40 * tk2) + jk)) (nI_add (40 * tk2) (jk)) ?_
                                  refine z_iload X 6 dX12_move_170 rfl ?_
                                  refine z_iadd X dX12_move_172 ?_
                                  refine z_toe (y := nI (((40 * tk2) + jk) + kk)) (nI_add ((40 * tk2) + jk) (kk)) ?_
                                  refine z_aload_n X 0 dX12_move_173 rfl ?_
                                  refine z_get X fl_X12_46_12 dX12_move_174 zK94 rfl ?_
                                  refine z_iload X 6 dX12_move_177 rfl ?_
                                  refine z_iald2 (v := li2 kk) X dX12_move_179 zK99 (vp_in_nI (n := kk) (by omega) (by omega)) (congrArg li2 (nI_clamp (n := kk) (by omega))) ?_
                                  refine z_iast X dX12_move_180 zK98 (vp_in_nI (n := ((40 * tk2) + jk) + kk) (by omega) (by omega)) (congrArg (fun z => va_up hh152 (o + 12) (arI κ 160 (upd nu2 z (li2 kk)))) (nI_clamp (n := ((40 * tk2) + jk) + kk) (by omega))) ?_
                                  obtain ⟨zh109, ze110⟩ : ∃ z : Mm, z = va_up hh152 (o + 12) (arI κ 160 (upd nu2 (((40 * tk2) + jk) + kk) (li2 kk))) := ⟨_, rfl⟩
                                  refine z_heap (h' := zh109) ze110.symm ?_
                                  have zK111 := up_off ze110 (show o ≠ o + 12 by omega) zK94
                                  have zK112 := up_off ze110 (show o + 4 ≠ o + 12 by omega) zK95
                                  have zK113 := up_off ze110 (show o + 10 ≠ o + 12 by omega) zK96
                                  have zK114 := up_off ze110 (show o + 11 ≠ o + 12 by omega) zK97
                                  have zK115 := up_at ze110
                                  have zK116 := up_off ze110 (show o + 13 ≠ o + 12 by omega) zK99
                                  refine z_iinc (v := nI (kk + 1)) (ls' := [(6, .int (nI (kk + 1))), (0, .ref o), (1, .int (nI sk)), (2, .int (nI ik)), (3, .int (nI tk2)), (4, .int (nI jk)), (5, .int (nI vk))]) X 6 dX12_move_181 rfl (nI_1 (kk)) (by decide) rfl ?_
                                  refine z_goto X 152 dX12_move_184 (by decide) ?_
                                  refine z_sub (ls' := [(0, .ref o), (1, .int (nI sk)), (2, .int (nI ik)), (3, .int (nI tk2)), (4, .int (nI jk)), (5, .int (nI vk)), (6, .int (nI (kk + 1)))]) [1, 2, 3, 4, 5, 6, 0] rfl ?_
                                  exact ih152 _ (kk + 1) (upd nu2 (((40 * tk2) + jk) + kk) (li2 kk)) (by omega) (by funext zz; by_cases zq1 : zz = o + 13; (rw [zq1, va_up_self]; exact zK116); by_cases zq0 : zz = o + 12; (rw [zq0, va_up_ne _ _ (show o + 12 ≠ o + 13 by omega), va_up_self]; exact zK115); rw [va_up_ne _ _ zq1, va_up_ne _ _ zq0]; rw [ze110, he152]; simp only [va_up, if_neg zq0, if_neg zq1]) (by first | assumption | rfl | omega) (by intro q; unfold upd; by_cases hq : q = 40 * tk2 + jk + kk; (rw [if_pos hq, if_pos (by omega), show q - (40 * tk2 + jk) = kk by omega]; exact hl kk (by omega)); rw [if_neg hq, hn q]; by_cases hr : 40 * tk2 + jk ≤ q ∧ q < 40 * tk2 + jk + kk; (rw [if_pos hr, if_pos (by omega)]); rw [if_neg hr, if_neg (by omega)])
                            refine z_sub (ls' := [(0, .ref o), (1, .int (nI sk)), (2, .int (nI ik)), (3, .int (nI tk2)), (4, .int (nI jk)), (5, .int (nI vk)), (6, .int 0)]) [1, 2, 3, 4, 5, 6, 0] rfl ?_
                            exact L152 _ _ 0 nu (Nat.lt_succ_self _) (by rw [up_same _ _ K4, he115]) (by first | assumption | rfl | omega) (by intro q; exact nuMov_z nu sk ik tk2 jk q)
                          · try replace zc93 := mt (nI_leI (a := vk) (b := k) (by omega) (by omega)).mpr zc93
                            refine z_aload_n X 0 dX12_move_122 rfl ?_
                            refine z_get X fl_X12_46_12 dX12_move_123 zK87 rfl ?_
                            refine z_iload X 6 dX12_move_126 rfl ?_
                            refine z_aload_n X 0 dX12_move_128 rfl ?_
                            refine z_get X fl_X12_43_12 dX12_move_129 zK87 rfl ?_
                            refine z_bipush (v := 40) X dX12_move_132 (by decide) ?_
                            refine z_iload_n X 1 dX12_move_134 rfl ?_
                            refine z_imul X dX12_move_135 ?_
                            refine z_toe (y := nI (40 * sk)) (pk_mul (40) (sk)) ?_
                            refine z_iload_n X 2 dX12_move_136 rfl ?_
                            refine z_iadd X dX12_move_137 ?_
                            refine z_toe (y := nI ((40 * sk) + ik)) (nI_add (40 * sk) (ik)) ?_
                            refine z_iload X 6 dX12_move_138 rfl ?_
                            refine z_iadd X dX12_move_140 ?_
                            refine z_toe (y := nI (((40 * sk) + ik) + k)) (nI_add ((40 * sk) + ik) (k)) ?_
                            refine z_iald2 (v := nu (((40 * sk) + ik) + k)) X dX12_move_141 zK91 (vp_in_nI (n := ((40 * sk) + ik) + k) (by omega) (by omega)) (congrArg nu (nI_clamp (n := ((40 * sk) + ik) + k) (by omega))) ?_
                            refine z_iast X dX12_move_142 zK92 (vp_in_nI (n := k) (by omega) (by omega)) (congrArg (fun z => va_up hh115 (o + 13) (arI κ 40 (upd li2 z (nu (((40 * sk) + ik) + k))))) (nI_clamp (n := k) (by omega))) ?_
                            obtain ⟨zh117, ze118⟩ : ∃ z : Mm, z = va_up hh115 (o + 13) (arI κ 40 (upd li2 k (nu (((40 * sk) + ik) + k)))) := ⟨_, rfl⟩
                            refine z_heap (h' := zh117) ze118.symm ?_
                            have zK119 := up_off ze118 (show o ≠ o + 13 by omega) zK87
                            have zK120 := up_off ze118 (show o + 4 ≠ o + 13 by omega) zK88
                            have zK121 := up_off ze118 (show o + 10 ≠ o + 13 by omega) zK89
                            have zK122 := up_off ze118 (show o + 11 ≠ o + 13 by omega) zK90
                            have zK123 := up_off ze118 (show o + 12 ≠ o + 13 by omega) zK91
                            have zK124 := up_at ze118
                            refine z_iinc (v := nI (k + 1)) (ls' := [(6, .int (nI (k + 1))), (0, .ref o), (1, .int (nI sk)), (2, .int (nI ik)), (3, .int (nI tk2)), (4, .int (nI jk)), (5, .int (nI vk))]) X 6 dX12_move_143 rfl (nI_1 (k)) (by decide) rfl ?_
                            refine z_goto X 115 dX12_move_146 (by decide) ?_
                            refine z_sub (ls' := [(0, .ref o), (1, .int (nI sk)), (2, .int (nI ik)), (3, .int (nI tk2)), (4, .int (nI jk)), (5, .int (nI vk)), (6, .int (nI (k + 1)))]) [1, 2, 3, 4, 5, 6, 0] rfl ?_
                            exact ih115 _ (k + 1) (upd li2 k (nu (((40 * sk) + ik) + k))) (by omega) (by funext zz; by_cases zq0 : zz = o + 13; (rw [zq0, va_up_self]; exact zK124); rw [va_up_ne _ _ zq0]; rw [ze118, he115]; simp only [va_up, if_neg zq0]) (by first | assumption | rfl | omega) (by intro z hz; by_cases e : z = k; (rw [e]; exact pk_us); exact (pk_un e).trans (hl z (by omega)))
                      refine z_sub (ls' := [(0, .ref o), (1, .int (nI sk)), (2, .int (nI ik)), (3, .int (nI tk2)), (4, .int (nI jk)), (5, .int (nI vk)), (6, .int 0)]) [1, 2, 3, 4, 5, 6, 0] rfl ?_
                      exact L115 _ _ 0 li (Nat.lt_succ_self _) (by rw [up_same _ _ K5]) (by first | assumption | rfl | omega) (by intro z hz; omega)
                    · have hmv : ¬ movP ss sk tk2 i j v := by (simp only [i_lt, i_le, hq1, hq2, show (0 : Int32).toInt = 0 by decide] at *; omega)
                      refine z_aload_n X 0 dX12_move_106 rfl ?_
                      refine z_iconst (v := 1) X dX12_move_107 (by decide) ?_
                      refine z_callV X (r_finds (κ := κ) (n := n) (o := (o)) (k := (1)) (fo := (fo)) (im := (im)) (ba := (ba)) (at_ := (at_)) (sz := (sz)) (fa := (fa)) (op := (op)) (rm := (rm)) (ti := (ti)) (tm := (tm)) (wh := (wh)) K0 K1 (by first | assumption | omega) (by first | assumption | omega)) mk_X12_finds dX12_move_108 wd_1018 wd_1020 wd_24 rfl K0 rfl rfl rfl (Nat.le_of_ble_eq_true rfl) (Nat.le_of_ble_eq_true rfl) (Nat.le_of_ble_eq_true rfl) (by omega) (by omega) (fun q zh125 zm127 zp128 => ?_)
                      obtain ⟨rfl, ze126, zn129⟩ := zp128
                      subst zm127
                      refine z_st (st' := [.int (lowE 1)]) rfl ?_
                      have zK130 : zh125 o = some (.inr (12, [.ref (o + 1), .ref (o + 2), .ref (o + 3), .int im, .ref (o + 4), .int ba, .int at_, .int sz, .int fa, .int op, .ref (o + 5), .ref (o + 6), .int rm, .ref (o + 7), .ref (o + 8), .int ti, .ref (o + 9), .int tm, .int wh, .ref (o + 10), .ref (o + 11), .ref (o + 12), .ref (o + 13)])) := by rw [ze126]; rw [va_up_ne _ _ (show o ≠ o + 4 by omega)]; exact K0
                      have zK131 : zh125 (o + 4) = arI κ 6 (bmp fo 1) := by rw [ze126]; exact va_up_self _ _ _
                      have zK132 : zh125 (o + 10) = arI κ 4 bi := by rw [ze126]; rw [va_up_ne _ _ (show o + 10 ≠ o + 4 by omega)]; exact K2
                      have zK133 : zh125 (o + 11) = arI κ 4 si := by rw [ze126]; rw [va_up_ne _ _ (show o + 11 ≠ o + 4 by omega)]; exact K3
                      have zK134 : zh125 (o + 12) = arI κ 160 nu := by rw [ze126]; rw [va_up_ne _ _ (show o + 12 ≠ o + 4 by omega)]; exact K4
                      have zK135 : zh125 (o + 13) = arI κ 40 li := by rw [ze126]; rw [va_up_ne _ _ (show o + 13 ≠ o + 4 by omega)]; exact K5
                      refine z_iret X E dX12_move_111 (by omega) (by omega) ⟨li, ?_, ?_, ?_⟩
                      · rw [opMove_b (bi := bi) (ss := ss) (sk := sk) (tk2 := tk2) (i := i) (j := j) (v := v) hsk htk2 (by assumption) (by assumption) (by assumption) hmv]; first | done | rfl
                      · (have hop := opMove_b (bi := bi) (ss := ss) (sk := sk) (tk2 := tk2) (i := i) (j := j) (v := v) hsk htk2 (by assumption) (by assumption) (by assumption) hmv); rw [nuMove_x hop (by decide), hop]; clear hop; funext zz; by_cases zq2 : zz = o + 4; (rw [zq2, va_up_self]; exact zK131); by_cases zq1 : zz = o + 13; (rw [zq1, va_up_ne _ _ (show o + 13 ≠ o + 4 by omega), va_up_self]; exact zK135); by_cases zq0 : zz = o + 12; (rw [zq0, va_up_ne _ _ (show o + 12 ≠ o + 4 by omega), va_up_ne _ _ (show o + 12 ≠ o + 13 by omega), va_up_self]; exact zK134); rw [va_up_ne _ _ zq2, va_up_ne _ _ zq1, va_up_ne _ _ zq0]; rw [ze126]; simp only [va_up, if_neg zq0, if_neg zq1, if_neg zq2]
                      · rfl
          · refine z_aload_n X 0 dX12_move_59 rfl ?_
            refine z_iconst (v := 5) X dX12_move_60 (by decide) ?_
            refine z_callV X (r_finds (κ := κ) (n := n) (o := (o)) (k := (5)) (fo := (fo)) (im := (im)) (ba := (ba)) (at_ := (at_)) (sz := (sz)) (fa := (fa)) (op := (op)) (rm := (rm)) (ti := (ti)) (tm := (tm)) (wh := (wh)) K0 K1 (by first | assumption | omega) (by first | assumption | omega)) mk_X12_finds dX12_move_61 wd_1018 wd_1020 wd_24 rfl K0 rfl rfl rfl (Nat.le_of_ble_eq_true rfl) (Nat.le_of_ble_eq_true rfl) (Nat.le_of_ble_eq_true rfl) (by omega) (by omega) (fun q zh136 zm138 zp139 => ?_)
            obtain ⟨rfl, ze137, zn140⟩ := zp139
            subst zm138
            refine z_st (st' := [.int (lowE 5)]) rfl ?_
            have zK141 : zh136 o = some (.inr (12, [.ref (o + 1), .ref (o + 2), .ref (o + 3), .int im, .ref (o + 4), .int ba, .int at_, .int sz, .int fa, .int op, .ref (o + 5), .ref (o + 6), .int rm, .ref (o + 7), .ref (o + 8), .int ti, .ref (o + 9), .int tm, .int wh, .ref (o + 10), .ref (o + 11), .ref (o + 12), .ref (o + 13)])) := by rw [ze137]; rw [va_up_ne _ _ (show o ≠ o + 4 by omega)]; exact K0
            have zK142 : zh136 (o + 4) = arI κ 6 (bmp fo 5) := by rw [ze137]; exact va_up_self _ _ _
            have zK143 : zh136 (o + 10) = arI κ 4 bi := by rw [ze137]; rw [va_up_ne _ _ (show o + 10 ≠ o + 4 by omega)]; exact K2
            have zK144 : zh136 (o + 11) = arI κ 4 si := by rw [ze137]; rw [va_up_ne _ _ (show o + 11 ≠ o + 4 by omega)]; exact K3
            have zK145 : zh136 (o + 12) = arI κ 160 nu := by rw [ze137]; rw [va_up_ne _ _ (show o + 12 ≠ o + 4 by omega)]; exact K4
            have zK146 : zh136 (o + 13) = arI κ 40 li := by rw [ze137]; rw [va_up_ne _ _ (show o + 13 ≠ o + 4 by omega)]; exact K5
            refine z_iret X E dX12_move_64 (by omega) (by omega) ⟨li, ?_, ?_, ?_⟩
            · rw [opMove_5 (bi := bi) (ss := ss) (sk := sk) (tk2 := tk2) (i := i) (j := j) (v := v) hsk htk2 (by assumption) (by assumption) (by assumption)]; first | done | rfl
            · (have hop := opMove_5 (bi := bi) (ss := ss) (sk := sk) (tk2 := tk2) (i := i) (j := j) (v := v) hsk htk2 (by assumption) (by assumption) (by assumption)); rw [nuMove_x hop (by decide), hop]; clear hop; funext zz; by_cases zq2 : zz = o + 4; (rw [zq2, va_up_self]; exact zK142); by_cases zq1 : zz = o + 13; (rw [zq1, va_up_ne _ _ (show o + 13 ≠ o + 4 by omega), va_up_self]; exact zK146); by_cases zq0 : zz = o + 12; (rw [zq0, va_up_ne _ _ (show o + 12 ≠ o + 4 by omega), va_up_ne _ _ (show o + 12 ≠ o + 13 by omega), va_up_self]; exact zK145); rw [va_up_ne _ _ zq2, va_up_ne _ _ zq1, va_up_ne _ _ zq0]; rw [ze137]; simp only [va_up, if_neg zq0, if_neg zq1, if_neg zq2]
            · rfl
        · refine z_aload_n X 0 dX12_move_38 rfl ?_
          refine z_iconst (v := 2) X dX12_move_39 (by decide) ?_
          refine z_callV X (r_finds (κ := κ) (n := n) (o := (o)) (k := (2)) (fo := (fo)) (im := (im)) (ba := (ba)) (at_ := (at_)) (sz := (sz)) (fa := (fa)) (op := (op)) (rm := (rm)) (ti := (ti)) (tm := (tm)) (wh := (wh)) K0 K1 (by first | assumption | omega) (by first | assumption | omega)) mk_X12_finds dX12_move_40 wd_1018 wd_1020 wd_24 rfl K0 rfl rfl rfl (Nat.le_of_ble_eq_true rfl) (Nat.le_of_ble_eq_true rfl) (Nat.le_of_ble_eq_true rfl) (by omega) (by omega) (fun q zh147 zm149 zp150 => ?_)
          obtain ⟨rfl, ze148, zn151⟩ := zp150
          subst zm149
          refine z_st (st' := [.int (lowE 2)]) rfl ?_
          have zK152 : zh147 o = some (.inr (12, [.ref (o + 1), .ref (o + 2), .ref (o + 3), .int im, .ref (o + 4), .int ba, .int at_, .int sz, .int fa, .int op, .ref (o + 5), .ref (o + 6), .int rm, .ref (o + 7), .ref (o + 8), .int ti, .ref (o + 9), .int tm, .int wh, .ref (o + 10), .ref (o + 11), .ref (o + 12), .ref (o + 13)])) := by rw [ze148]; rw [va_up_ne _ _ (show o ≠ o + 4 by omega)]; exact K0
          have zK153 : zh147 (o + 4) = arI κ 6 (bmp fo 2) := by rw [ze148]; exact va_up_self _ _ _
          have zK154 : zh147 (o + 10) = arI κ 4 bi := by rw [ze148]; rw [va_up_ne _ _ (show o + 10 ≠ o + 4 by omega)]; exact K2
          have zK155 : zh147 (o + 11) = arI κ 4 si := by rw [ze148]; rw [va_up_ne _ _ (show o + 11 ≠ o + 4 by omega)]; exact K3
          have zK156 : zh147 (o + 12) = arI κ 160 nu := by rw [ze148]; rw [va_up_ne _ _ (show o + 12 ≠ o + 4 by omega)]; exact K4
          have zK157 : zh147 (o + 13) = arI κ 40 li := by rw [ze148]; rw [va_up_ne _ _ (show o + 13 ≠ o + 4 by omega)]; exact K5
          refine z_iret X E dX12_move_43 (by omega) (by omega) ⟨li, ?_, ?_, ?_⟩
          · rw [opMove_2 (bi := bi) (ss := ss) (sk := sk) (tk2 := tk2) (i := i) (j := j) (v := v) hsk htk2 (by first | exact Or.inl (by assumption) | exact Or.inr (by assumption))]; first | done | rfl
          · (have hop := opMove_2 (bi := bi) (ss := ss) (sk := sk) (tk2 := tk2) (i := i) (j := j) (v := v) hsk htk2 (by first | exact Or.inl (by assumption) | exact Or.inr (by assumption))); rw [nuMove_x hop (by decide), hop]; clear hop; funext zz; by_cases zq2 : zz = o + 4; (rw [zq2, va_up_self]; exact zK153); by_cases zq1 : zz = o + 13; (rw [zq1, va_up_ne _ _ (show o + 13 ≠ o + 4 by omega), va_up_self]; exact zK157); by_cases zq0 : zz = o + 12; (rw [zq0, va_up_ne _ _ (show o + 12 ≠ o + 4 by omega), va_up_ne _ _ (show o + 12 ≠ o + 13 by omega), va_up_self]; exact zK156); rw [va_up_ne _ _ zq2, va_up_ne _ _ zq1, va_up_ne _ _ zq0]; rw [ze148]; simp only [va_up, if_neg zq0, if_neg zq1, if_neg zq2]
          · rfl
    · replace zc23 := b2i_f zc23
      refine z_aload_n X 0 dX12_move_14 rfl ?_
      refine z_iconst (v := 1) X dX12_move_15 (by decide) ?_
      refine z_callV X (r_finds (κ := κ) (n := n) (o := (o)) (k := (1)) (fo := (fo)) (im := (im)) (ba := (ba)) (at_ := (at_)) (sz := (sz)) (fa := (fa)) (op := (op)) (rm := (rm)) (ti := (ti)) (tm := (tm)) (wh := (wh)) K0 K1 (by first | assumption | omega) (by first | assumption | omega)) mk_X12_finds dX12_move_16 wd_1018 wd_1020 wd_24 rfl K0 rfl rfl rfl (Nat.le_of_ble_eq_true rfl) (Nat.le_of_ble_eq_true rfl) (Nat.le_of_ble_eq_true rfl) (by omega) (by omega) (fun q zh158 zm160 zp161 => ?_)
      obtain ⟨rfl, ze159, zn162⟩ := zp161
      subst zm160
      refine z_st (st' := [.int (lowE 1)]) rfl ?_
      have zK163 : zh158 o = some (.inr (12, [.ref (o + 1), .ref (o + 2), .ref (o + 3), .int im, .ref (o + 4), .int ba, .int at_, .int sz, .int fa, .int op, .ref (o + 5), .ref (o + 6), .int rm, .ref (o + 7), .ref (o + 8), .int ti, .ref (o + 9), .int tm, .int wh, .ref (o + 10), .ref (o + 11), .ref (o + 12), .ref (o + 13)])) := by rw [ze159]; rw [va_up_ne _ _ (show o ≠ o + 4 by omega)]; exact K0
      have zK164 : zh158 (o + 4) = arI κ 6 (bmp fo 1) := by rw [ze159]; exact va_up_self _ _ _
      have zK165 : zh158 (o + 10) = arI κ 4 bi := by rw [ze159]; rw [va_up_ne _ _ (show o + 10 ≠ o + 4 by omega)]; exact K2
      have zK166 : zh158 (o + 11) = arI κ 4 si := by rw [ze159]; rw [va_up_ne _ _ (show o + 11 ≠ o + 4 by omega)]; exact K3
      have zK167 : zh158 (o + 12) = arI κ 160 nu := by rw [ze159]; rw [va_up_ne _ _ (show o + 12 ≠ o + 4 by omega)]; exact K4
      have zK168 : zh158 (o + 13) = arI κ 40 li := by rw [ze159]; rw [va_up_ne _ _ (show o + 13 ≠ o + 4 by omega)]; exact K5
      refine z_iret X E dX12_move_19 (by omega) (by omega) ⟨li, ?_, ?_, ?_⟩
      · rw [opMove_1 (bi := bi) (ss := ss) (s := s) (t := t) (i := i) (j := j) (v := v) (by omega)]; first | done | rfl
      · (have hop := opMove_1 (bi := bi) (ss := ss) (s := s) (t := t) (i := i) (j := j) (v := v) (by omega)); rw [nuMove_x hop (by decide), hop]; clear hop; funext zz; by_cases zq2 : zz = o + 4; (rw [zq2, va_up_self]; exact zK164); by_cases zq1 : zz = o + 13; (rw [zq1, va_up_ne _ _ (show o + 13 ≠ o + 4 by omega), va_up_self]; exact zK168); by_cases zq0 : zz = o + 12; (rw [zq0, va_up_ne _ _ (show o + 12 ≠ o + 4 by omega), va_up_ne _ _ (show o + 12 ≠ o + 13 by omega), va_up_self]; exact zK167); rw [va_up_ne _ _ zq2, va_up_ne _ _ zq1, va_up_ne _ _ zq0]; rw [ze159]; simp only [va_up, if_neg zq0, if_neg zq1, if_neg zq2]
      · rfl
/-- what is told of the rings, held against them -/
def chk (f : Nat → Int32) (nw : Nat) (m : Nat → Int32) : Int32 := 1 + unl f (fun k => nI (rAtE m k)) nw (rnE m)
def opCheck (T : Nat → Nat → Int32) (tx : Nat → Nat) (d : Nat → Int32) (nw : Nat) (v : Int32) : Nat × Int32 := if ¬ (0 ≤ v.toInt ∧ v.toInt ≤ 60) then (1, 0) else (0, chk (fun k => d (70 + k)) nw (ahd T tx (upd d 15 0) v))
theorem opCheck_0 {T : Nat → Nat → Int32} {tx : Nat → Nat} {d : Nat → Int32} {nw v : Nat} (h : v ≤ 60) : opCheck T tx d nw (nI v) = (0, chk (fun k => d (70 + k)) nw (gbyN T tx v (upd d 15 0))) := by
  unfold opCheck
  rw [i_nI (by omega), if_neg (by omega), ahd_n _ _ _ (by omega)]
theorem funl_end (f g : Nat → Int32) (i : Nat) : funl f g i 0 = i := rfl
theorem unl_hit {f g : Nat → Int32} {k k' i : Nat} (hf : funl f g 0 (min k k') = funl f g i (min k k' - i)) (hi : i < min k k') (h : ¬ f i = g i) : unl f g k k' = nI i := by
  rw [unl, hf, funl_stop hi h, if_pos hi]
theorem unl_end {f g : Nat → Int32} {k k' i : Nat} (hf : funl f g 0 (min k k') = funl f g i (min k k' - i)) (hi : i = min k k') : unl f g k k' = if k = k' then -1 else nI i := by
  subst hi
  rw [unl, hf, Nat.sub_self, funl_end, if_neg (Nat.lt_irrefl _)]
theorem Tx_u15 (d : Nat → Int32) (x : Int32) : Tx (upd d 15 x) = Tx d := by
  funext u i
  exact pk_un (by omega)
set_option maxHeartbeats 4000000 in
set_option maxRecDepth 100000 in
theorem r_check {κ : Wc} {l : Launch} {h : Mm} {n : Nat} {o : Nat} {fo : Nat → Int32} {d : Nat → Int32} {e : Nat → Int32} {g : Nat → Int32} {nm : Nat → Int32} {nc : Nat} {tx : Nat → Nat} {im : Int32} {ba : Int32} {at_ : Int32} {sz : Int32} {fa : Int32} {op : Int32} {rm : Int32} {ti : Int32} {tm : Int32} {wh : Int32} {nw : Nat} {v : Int32} (K0 : h o = some (.inr (12, [.ref (o + 1), .ref (o + 2), .ref (o + 3), .int im, .ref (o + 4), .int ba, .int at_, .int sz, .int fa, .int op, .ref (o + 5), .ref (o + 6), .int rm, .ref (o + 7), .ref (o + 8), .int ti, .ref (o + 9), .int tm, .int wh, .ref (o + 10), .ref (o + 11), .ref (o + 12), .ref (o + 13)]))) (K1 : h (o + 4) = arI κ 6 fo) (K2 : h (o + 1) = arI κ 340 d) (K3 : h (o + 2) = arI κ 340 e) (K4 : h (o + 5) = arI κ 3 nm) (K5 : h (o + 6) = arI κ 40 g) (q8 : ∀ u, u < 2 → d (60 + u) = nI (tx u) ∧ tx u ≤ 50) (hOk : lnOk d) (q4 : d 11 = nI nc) (q5 : nc ≤ 6) (p1 : d 15 = nI nw) (p2 : nw ≤ 20) : Con κ l yX12_check cX12_check 4 (some .int) 45 0 0 [.ref o, .int v] h n (fun q h' n' => ∃ ba' : Int32, ∃ at' : Int32, ∃ sz' : Int32, ∃ fa' : Int32, ∃ op' : Int32, ∃ nm' : Nat → Int32, ∃ rm' : Int32, ∃ e' : Nat → Int32, ∃ g' : Nat → Int32, q = some (.int (ansOf (opCheck (Tx d) tx d nw v))) ∧ h' = va_up (va_up (va_up (va_up (va_up (va_up h o (some (.inr (12, [.ref (o + 1), .ref (o + 2), .ref (o + 3), .int im, .ref (o + 4), .int ba', .int at', .int sz', .int fa', .int op', .ref (o + 5), .ref (o + 6), .int rm', .ref (o + 7), .ref (o + 8), .int ti, .ref (o + 9), .int tm, .int wh, .ref (o + 10), .ref (o + 11), .ref (o + 12), .ref (o + 13)])))) (o + 5) (arI κ 3 nm')) (o + 1) (arI κ 340 (upd d 15 0))) (o + 2) (arI κ 340 e')) (o + 6) (arI κ 40 g')) (o + 4) (arI κ 6 (bump (opCheck (Tx d) tx d nw v) fo)) ∧ n' = n) := by
  refine Con.of mk_X12_check (Nat.le_of_ble_eq_true rfl) (fun G hG X E => ?_)
  subst hG
  refine z_ls (ls' := [(0, .ref o), (1, .int v)]) rfl ?_
  refine z_aload_n X 0 dX12_check_0 rfl ?_
  refine z_get X fl_X12_7_12 dX12_check_1 K0 rfl ?_
  refine z_bipush (v := 15) X dX12_check_4 (by decide) ?_
  refine z_iald2 (v := d 15) X dX12_check_6 K2 (vp_in_nI (n := 15) (by omega) (by omega)) (congrArg d (nI_clamp (n := 15) (by omega))) ?_
  refine z_toe (y := nI nw) (p1) ?_
  refine z_istore_n (ls' := [(2, .int (nI nw)), (0, .ref o), (1, .int v)]) X dX12_check_7 (by decide) rfl ?_
  refine z_aload_n X 1 dX12_check_8 rfl ?_
  refine z_get X fl_X12_7_12 dX12_check_9 K0 rfl ?_
  refine z_bipush (v := 15) X dX12_check_12 (by decide) ?_
  refine z_iconst (v := 0) X dX12_check_14 (by decide) ?_
  refine z_iast X dX12_check_15 K2 (vp_in_nI (n := 15) (by omega) (by omega)) (congrArg (fun z => va_up h (o + 1) (arI κ 340 (upd d z 0))) (nI_clamp (n := 15) (by omega))) ?_
  obtain ⟨zh1, ze2⟩ : ∃ z : Mm, z = va_up h (o + 1) (arI κ 340 (upd d 15 0)) := ⟨_, rfl⟩
  refine z_heap (h' := zh1) ze2.symm ?_
  have zK3 := up_off ze2 (show o ≠ o + 1 by omega) K0
  have zK4 := up_off ze2 (show o + 4 ≠ o + 1 by omega) K1
  have zK5 := up_at ze2
  have zK6 := up_off ze2 (show o + 2 ≠ o + 1 by omega) K3
  have zK7 := up_off ze2 (show o + 5 ≠ o + 1 by omega) K4
  have zK8 := up_off ze2 (show o + 6 ≠ o + 1 by omega) K5
  refine z_iload_n X 2 dX12_check_16 rfl ?_
  refine z_callS X (r_isAhead (κ := κ) (n := n) (v := (v))  ) mk_X12_isAhead dX12_check_17 wd_1200 wd_1201 rfl rfl (Nat.le_of_ble_eq_true rfl) (Nat.le_of_ble_eq_true rfl) (Nat.le_of_ble_eq_true rfl) (by omega) (by omega) (fun q zh9 zm11 zp12 => ?_)
  obtain ⟨rfl, ze10, zn13⟩ := zp12
  subst zm11
  subst zh9
  refine z_st (st' := [.int (b2i (0 ≤ (v : Int32).toInt ∧ (v : Int32).toInt ≤ 60))]) rfl ?_
  refine z_if_ne X 29 dX12_check_20 (by decide) (fun zc14 => ?_) (fun zc14 => ?_)
  · replace zc14 := b2i_t zc14
    obtain ⟨vk, hvk, rfl⟩ := ix_of (c := v) (len := 61) (by omega) (by omega)
    refine z_aload_n X 1 dX12_check_29 rfl ?_
    refine z_iload_n X 2 dX12_check_30 rfl ?_
    refine z_callV X (r_ahead (κ := κ) (n := n) (o := (o)) (v := (vk)) (d := (upd d 15 0)) (e := (e)) (nm := (nm)) (nc := (nc)) (im := (im)) (ba := (ba)) (at_ := (at_)) (sz := (sz)) (fa := (fa)) (op := (op)) (rm := (rm)) (ti := (ti)) (tm := (tm)) (wh := (wh)) zK3 zK5 zK6 zK7 (fun u hu => ⟨(pk_un (by omega)).trans (q8 u hu).1, (q8 u hu).2⟩) (lnOk_upd hOk (by omega)) ((pk_un (by omega)).trans q4) (by first | assumption | omega) (by first | assumption | omega)) mk_X12_ahead dX12_check_31 wd_1204 wd_1206 wd_42 rfl zK3 rfl rfl rfl (Nat.le_of_ble_eq_true rfl) (Nat.le_of_ble_eq_true rfl) (Nat.le_of_ble_eq_true rfl) (by omega) (by omega) (fun q zh21 zm23 zp24 => ?_)
    obtain ⟨ba'15, at'16, sz'17, fa'18, op'19, nm'20, rfl, ze22, zn25⟩ := zp24
    subst zm23
    refine z_st (st' := []) rfl ?_
    have zK26 : zh21 o = some (.inr (12, [.ref (o + 1), .ref (o + 2), .ref (o + 3), .int im, .ref (o + 4), .int ba'15, .int at'16, .int sz'17, .int fa'18, .int op'19, .ref (o + 5), .ref (o + 6), .int rm, .ref (o + 7), .ref (o + 8), .int ti, .ref (o + 9), .int tm, .int wh, .ref (o + 10), .ref (o + 11), .ref (o + 12), .ref (o + 13)])) := by rw [ze22]; rw [va_up_ne _ _ (show o ≠ o + 2 by omega)]; rw [va_up_ne _ _ (show o ≠ o + 5 by omega)]; exact va_up_self _ _ _
    have zK27 : zh21 (o + 4) = arI κ 6 fo := by rw [ze22]; rw [va_up_ne _ _ (show o + 4 ≠ o + 2 by omega)]; rw [va_up_ne _ _ (show o + 4 ≠ o + 5 by omega)]; rw [va_up_ne _ _ (show o + 4 ≠ o by omega)]; exact zK4
    have zK28 : zh21 (o + 1) = arI κ 340 (upd d 15 0) := by rw [ze22]; rw [va_up_ne _ _ (show o + 1 ≠ o + 2 by omega)]; rw [va_up_ne _ _ (show o + 1 ≠ o + 5 by omega)]; rw [va_up_ne _ _ (show o + 1 ≠ o by omega)]; exact zK5
    have zK29 : zh21 (o + 2) = arI κ 340 (gbyN (Tx (upd d 15 0)) tx vk (upd d 15 0)) := by rw [ze22]; exact va_up_self _ _ _
    have zK30 : zh21 (o + 5) = arI κ 3 nm'20 := by rw [ze22]; rw [va_up_ne _ _ (show o + 5 ≠ o + 2 by omega)]; exact va_up_self _ _ _
    have zK31 : zh21 (o + 6) = arI κ 40 g := by rw [ze22]; rw [va_up_ne _ _ (show o + 6 ≠ o + 2 by omega)]; rw [va_up_ne _ _ (show o + 6 ≠ o + 5 by omega)]; rw [va_up_ne _ _ (show o + 6 ≠ o by omega)]; exact zK8
    rw [Tx_u15] at *
    skip
    refine z_aload_n X 1 dX12_check_34 rfl ?_
    refine z_aload_n X 1 dX12_check_35 rfl ?_
    refine z_get X fl_X12_13_12 dX12_check_36 zK26 rfl ?_
    refine z_callV X (r_findRings (κ := κ) (n := n) (o := (o)) (a := (o + 2)) (m := (gbyN (Tx d) tx vk (upd d 15 0))) (len := (lnO (gbyN (Tx d) tx vk (upd d 15 0)))) (g := (g)) (im := (im)) (ba := (ba'15)) (at_ := (at'16)) (sz := (sz'17)) (fa := (fa'18)) (op := (op'19)) (rm := (rm)) (ti := (ti)) (tm := (tm)) (wh := (wh)) zK26 zK29 zK31 ((gbyN_ok (lnOk_upd hOk (by omega)) vk).1) ((gbyN_ok (lnOk_upd hOk (by omega)) vk).2.1) ((gbyN_ok (lnOk_upd hOk (by omega)) vk).2.2) (Or.inr rfl)) mk_X12_findRings dX12_check_39 wd_1188 wd_1190 wd_41 rfl zK26 rfl rfl rfl (Nat.le_of_ble_eq_true rfl) (Nat.le_of_ble_eq_true rfl) (Nat.le_of_ble_eq_true rfl) (by omega) (by omega) (fun q zh33 zm35 zp36 => ?_)
    obtain ⟨g'32, rfl, ze34, zn38, zf37⟩ := zp36
    subst zm35
    refine z_st (st' := []) rfl ?_
    have zK39 : zh33 o = some (.inr (12, [.ref (o + 1), .ref (o + 2), .ref (o + 3), .int im, .ref (o + 4), .int ba'15, .int at'16, .int sz'17, .int fa'18, .int op'19, .ref (o + 5), .ref (o + 6), .int (nI (rn (gbyN (Tx d) tx vk (upd d 15 0)) (lnO (gbyN (Tx d) tx vk (upd d 15 0))) (lnO (gbyN (Tx d) tx vk (upd d 15 0))))), .ref (o + 7), .ref (o + 8), .int ti, .ref (o + 9), .int tm, .int wh, .ref (o + 10), .ref (o + 11), .ref (o + 12), .ref (o + 13)])) := by rw [ze34]; rw [va_up_ne _ _ (show o ≠ o + 6 by omega)]; exact va_up_self _ _ _
    have zK40 : zh33 (o + 4) = arI κ 6 fo := by rw [ze34]; rw [va_up_ne _ _ (show o + 4 ≠ o + 6 by omega)]; rw [va_up_ne _ _ (show o + 4 ≠ o by omega)]; exact zK27
    have zK41 : zh33 (o + 1) = arI κ 340 (upd d 15 0) := by rw [ze34]; rw [va_up_ne _ _ (show o + 1 ≠ o + 6 by omega)]; rw [va_up_ne _ _ (show o + 1 ≠ o by omega)]; exact zK28
    have zK42 : zh33 (o + 2) = arI κ 340 (gbyN (Tx d) tx vk (upd d 15 0)) := by rw [ze34]; rw [va_up_ne _ _ (show o + 2 ≠ o + 6 by omega)]; rw [va_up_ne _ _ (show o + 2 ≠ o by omega)]; exact zK29
    have zK43 : zh33 (o + 5) = arI κ 3 nm'20 := by rw [ze34]; rw [va_up_ne _ _ (show o + 5 ≠ o + 6 by omega)]; rw [va_up_ne _ _ (show o + 5 ≠ o by omega)]; exact zK30
    have zK44 : zh33 (o + 6) = arI κ 40 g'32 := by rw [ze34]; exact va_up_self _ _ _
    have hrn := rn_le (gbyN (Tx d) tx vk (upd d 15 0)) (lnO (gbyN (Tx d) tx vk (upd d 15 0))) (lnO (gbyN (Tx d) tx vk (upd d 15 0)))
    have hrnq : lnO (gbyN (Tx d) tx vk (upd d 15 0)) ≤ 40 := (gbyN_ok (lnOk_upd hOk (by omega)) vk).2.2
    have hrg := zf37
    refine z_iconst (v := 0) X dX12_check_42 (by decide) ?_
    refine z_istore_n (ls' := [(3, .int 0), (2, .int (nI nw)), (0, .ref o), (1, .int (nI vk))]) X dX12_check_43 (by decide) rfl ?_
    have L44 : ∀ (jj : Nat)  (k : Nat), (nw - k < jj) → (hk : k ≤ min nw (rn (gbyN (Tx d) tx vk (upd d 15 0)) (lnO (gbyN (Tx d) tx vk (upd d 15 0))) (lnO (gbyN (Tx d) tx vk (upd d 15 0))))) → (hf : funl (fun k => d (70 + k)) (fun k => nI (rAtE (gbyN (Tx d) tx vk (upd d 15 0)) k)) 0 (min nw (rn (gbyN (Tx d) tx vk (upd d 15 0)) (lnO (gbyN (Tx d) tx vk (upd d 15 0))) (lnO (gbyN (Tx d) tx vk (upd d 15 0))))) = funl (fun k => d (70 + k)) (fun k => nI (rAtE (gbyN (Tx d) tx vk (upd d 15 0)) k)) k (min nw (rn (gbyN (Tx d) tx vk (upd d 15 0)) (lnO (gbyN (Tx d) tx vk (upd d 15 0))) (lnO (gbyN (Tx d) tx vk (upd d 15 0)))) - k)) → Z κ G 4 44 [(0, .ref o), (1, .int (nI vk)), (2, .int (nI nw)), (3, .int (nI k))] [] zh33 n 0 (0) := by
      intro jj
      induction jj with
      | zero => intro  k hmu; exact absurd hmu (Nat.not_lt_zero _)
      | succ jj ih44 =>
        intro  k hmu  hk hf
        refine z_iload_n X 3 dX12_check_44 rfl ?_
        refine z_iload_n X 2 dX12_check_45 rfl ?_
        refine z_icmp_ge X 81 dX12_check_46 (by decide) (fun zc51 => ?_) (fun zc51 => ?_)
        · try replace zc51 := (nI_leI (a := nw) (b := k) (by omega) (by omega)).mp zc51
          refine z_iload_n X 3 dX12_check_81 rfl ?_
          refine z_iload_n X 2 dX12_check_82 rfl ?_
          refine z_icmp_ne X 98 dX12_check_83 (by decide) (fun zc52 => ?_) (fun zc52 => ?_)
          · try replace zc52 := mt (nI_eq (a := k) (b := nw) (by omega) (by omega)).mpr zc52
            refine z_iconst (v := 1) X dX12_check_98 (by decide) ?_
            refine z_iload_n X 3 dX12_check_99 rfl ?_
            refine z_iadd X dX12_check_100 ?_
            refine z_toe (y := nI (1 + k)) (nI_add (1) (k)) ?_
            refine z_iret X E dX12_check_101 (by omega) (by omega) ⟨ba'15, at'16, sz'17, fa'18, op'19, nm'20, (nI (rn (gbyN (Tx d) tx vk (upd d 15 0)) (lnO (gbyN (Tx d) tx vk (upd d 15 0))) (lnO (gbyN (Tx d) tx vk (upd d 15 0))))), (gbyN (Tx d) tx vk (upd d 15 0)), g'32, ?_, ?_, ?_⟩
            · (have hu : chk (fun k => d (70 + k)) nw (gbyN (Tx d) tx vk (upd d 15 0)) = nI (1 + k) := by (unfold chk rnE; first | (rw [unl_hit hf (by omega) (by assumption)]; exact nI_add 1 k) | (rw [unl_end hf (by omega), if_neg (by omega)]; exact nI_add 1 k))); rw [opCheck_0 (by omega), hu]; first | done | rfl
            · (have hu : chk (fun k => d (70 + k)) nw (gbyN (Tx d) tx vk (upd d 15 0)) = nI (1 + k) := by (unfold chk rnE; first | (rw [unl_hit hf (by omega) (by assumption)]; exact nI_add 1 k) | (rw [unl_end hf (by omega), if_neg (by omega)]; exact nI_add 1 k))); rw [opCheck_0 (by omega), hu, bump_0]; clear hu; funext zz; by_cases zq5 : zz = o + 4; (rw [zq5, va_up_self]; exact zK40); by_cases zq4 : zz = o + 6; (rw [zq4, va_up_ne _ _ (show o + 6 ≠ o + 4 by omega), va_up_self]; exact zK44); by_cases zq3 : zz = o + 2; (rw [zq3, va_up_ne _ _ (show o + 2 ≠ o + 4 by omega), va_up_ne _ _ (show o + 2 ≠ o + 6 by omega), va_up_self]; exact zK42); by_cases zq2 : zz = o + 1; (rw [zq2, va_up_ne _ _ (show o + 1 ≠ o + 4 by omega), va_up_ne _ _ (show o + 1 ≠ o + 6 by omega), va_up_ne _ _ (show o + 1 ≠ o + 2 by omega), va_up_self]; exact zK41); by_cases zq1 : zz = o + 5; (rw [zq1, va_up_ne _ _ (show o + 5 ≠ o + 4 by omega), va_up_ne _ _ (show o + 5 ≠ o + 6 by omega), va_up_ne _ _ (show o + 5 ≠ o + 2 by omega), va_up_ne _ _ (show o + 5 ≠ o + 1 by omega), va_up_self]; exact zK43); by_cases zq0 : zz = o; (rw [zq0, va_up_ne _ _ (show o ≠ o + 4 by omega), va_up_ne _ _ (show o ≠ o + 6 by omega), va_up_ne _ _ (show o ≠ o + 2 by omega), va_up_ne _ _ (show o ≠ o + 1 by omega), va_up_ne _ _ (show o ≠ o + 5 by omega), va_up_self]; exact zK39); rw [va_up_ne _ _ zq5, va_up_ne _ _ zq4, va_up_ne _ _ zq3, va_up_ne _ _ zq2, va_up_ne _ _ zq1, va_up_ne _ _ zq0]; rw [ze34, ze22, ze2]; simp only [va_up, if_neg zq0, if_neg zq1, if_neg zq2, if_neg zq3, if_neg zq4, if_neg zq5]
            · rfl
          · try replace zc52 := (nI_eq (a := k) (b := nw) (by omega) (by omega)).mp zc52
            refine z_iload_n X 3 dX12_check_86 rfl ?_
            refine z_aload_n X 0 dX12_check_87 rfl ?_
            refine z_get X fl_X12_191_12 dX12_check_88 zK39 rfl ?_
            refine z_icmp_ne X 98 dX12_check_91 (by decide) (fun zc53 => ?_) (fun zc53 => ?_)
            · try replace zc53 := mt (nI_eq (a := k) (b := rn (gbyN (Tx d) tx vk (upd d 15 0)) (lnO (gbyN (Tx d) tx vk (upd d 15 0))) (lnO (gbyN (Tx d) tx vk (upd d 15 0)))) (by omega) (by omega)).mpr zc53
              refine z_iconst (v := 1) X dX12_check_98 (by decide) ?_
              refine z_iload_n X 3 dX12_check_99 rfl ?_
              refine z_iadd X dX12_check_100 ?_
              refine z_toe (y := nI (1 + k)) (nI_add (1) (k)) ?_
              refine z_iret X E dX12_check_101 (by omega) (by omega) ⟨ba'15, at'16, sz'17, fa'18, op'19, nm'20, (nI (rn (gbyN (Tx d) tx vk (upd d 15 0)) (lnO (gbyN (Tx d) tx vk (upd d 15 0))) (lnO (gbyN (Tx d) tx vk (upd d 15 0))))), (gbyN (Tx d) tx vk (upd d 15 0)), g'32, ?_, ?_, ?_⟩
              · (have hu : chk (fun k => d (70 + k)) nw (gbyN (Tx d) tx vk (upd d 15 0)) = nI (1 + k) := by (unfold chk rnE; first | (rw [unl_hit hf (by omega) (by assumption)]; exact nI_add 1 k) | (rw [unl_end hf (by omega), if_neg (by omega)]; exact nI_add 1 k))); rw [opCheck_0 (by omega), hu]; first | done | rfl
              · (have hu : chk (fun k => d (70 + k)) nw (gbyN (Tx d) tx vk (upd d 15 0)) = nI (1 + k) := by (unfold chk rnE; first | (rw [unl_hit hf (by omega) (by assumption)]; exact nI_add 1 k) | (rw [unl_end hf (by omega), if_neg (by omega)]; exact nI_add 1 k))); rw [opCheck_0 (by omega), hu, bump_0]; clear hu; funext zz; by_cases zq5 : zz = o + 4; (rw [zq5, va_up_self]; exact zK40); by_cases zq4 : zz = o + 6; (rw [zq4, va_up_ne _ _ (show o + 6 ≠ o + 4 by omega), va_up_self]; exact zK44); by_cases zq3 : zz = o + 2; (rw [zq3, va_up_ne _ _ (show o + 2 ≠ o + 4 by omega), va_up_ne _ _ (show o + 2 ≠ o + 6 by omega), va_up_self]; exact zK42); by_cases zq2 : zz = o + 1; (rw [zq2, va_up_ne _ _ (show o + 1 ≠ o + 4 by omega), va_up_ne _ _ (show o + 1 ≠ o + 6 by omega), va_up_ne _ _ (show o + 1 ≠ o + 2 by omega), va_up_self]; exact zK41); by_cases zq1 : zz = o + 5; (rw [zq1, va_up_ne _ _ (show o + 5 ≠ o + 4 by omega), va_up_ne _ _ (show o + 5 ≠ o + 6 by omega), va_up_ne _ _ (show o + 5 ≠ o + 2 by omega), va_up_ne _ _ (show o + 5 ≠ o + 1 by omega), va_up_self]; exact zK43); by_cases zq0 : zz = o; (rw [zq0, va_up_ne _ _ (show o ≠ o + 4 by omega), va_up_ne _ _ (show o ≠ o + 6 by omega), va_up_ne _ _ (show o ≠ o + 2 by omega), va_up_ne _ _ (show o ≠ o + 1 by omega), va_up_ne _ _ (show o ≠ o + 5 by omega), va_up_self]; exact zK39); rw [va_up_ne _ _ zq5, va_up_ne _ _ zq4, va_up_ne _ _ zq3, va_up_ne _ _ zq2, va_up_ne _ _ zq1, va_up_ne _ _ zq0]; rw [ze34, ze22, ze2]; simp only [va_up, if_neg zq0, if_neg zq1, if_neg zq2, if_neg zq3, if_neg zq4, if_neg zq5]
              · rfl
            · try replace zc53 := (nI_eq (a := k) (b := rn (gbyN (Tx d) tx vk (upd d 15 0)) (lnO (gbyN (Tx d) tx vk (upd d 15 0))) (lnO (gbyN (Tx d) tx vk (upd d 15 0)))) (by omega) (by omega)).mp zc53
              refine z_iconst (v := 0) X dX12_check_94 (by decide) ?_
              refine z_goto X 101 dX12_check_95 (by decide) ?_
              refine z_iret X E dX12_check_101 (by omega) (by omega) ⟨ba'15, at'16, sz'17, fa'18, op'19, nm'20, (nI (rn (gbyN (Tx d) tx vk (upd d 15 0)) (lnO (gbyN (Tx d) tx vk (upd d 15 0))) (lnO (gbyN (Tx d) tx vk (upd d 15 0))))), (gbyN (Tx d) tx vk (upd d 15 0)), g'32, ?_, ?_, ?_⟩
              · (have hu : chk (fun k => d (70 + k)) nw (gbyN (Tx d) tx vk (upd d 15 0)) = 0 := by (unfold chk rnE; rw [unl_end hf (by omega), if_pos (by omega)]; decide)); rw [opCheck_0 (by omega), hu]; first | done | rfl
              · (have hu : chk (fun k => d (70 + k)) nw (gbyN (Tx d) tx vk (upd d 15 0)) = 0 := by (unfold chk rnE; rw [unl_end hf (by omega), if_pos (by omega)]; decide)); rw [opCheck_0 (by omega), hu, bump_0]; clear hu; funext zz; by_cases zq5 : zz = o + 4; (rw [zq5, va_up_self]; exact zK40); by_cases zq4 : zz = o + 6; (rw [zq4, va_up_ne _ _ (show o + 6 ≠ o + 4 by omega), va_up_self]; exact zK44); by_cases zq3 : zz = o + 2; (rw [zq3, va_up_ne _ _ (show o + 2 ≠ o + 4 by omega), va_up_ne _ _ (show o + 2 ≠ o + 6 by omega), va_up_self]; exact zK42); by_cases zq2 : zz = o + 1; (rw [zq2, va_up_ne _ _ (show o + 1 ≠ o + 4 by omega), va_up_ne _ _ (show o + 1 ≠ o + 6 by omega), va_up_ne _ _ (show o + 1 ≠ o + 2 by omega), va_up_self]; exact zK41); by_cases zq1 : zz = o + 5; (rw [zq1, va_up_ne _ _ (show o + 5 ≠ o + 4 by omega), va_up_ne _ _ (show o + 5 ≠ o + 6 by omega), va_up_ne _ _ (show o + 5 ≠ o + 2 by omega), va_up_ne _ _ (show o + 5 ≠ o + 1 by omega), va_up_self]; exact zK43); by_cases zq0 : zz = o; (rw [zq0, va_up_ne _ _ (show o ≠ o + 4 by omega), va_up_ne _ _ (show o ≠ o + 6 by omega), va_up_ne _ _ (show o ≠ o + 2 by omega), va_up_ne _ _ (show o ≠ o + 1 by omega), va_up_ne _ _ (show o ≠ o + 5 by omega), va_up_self]; exact zK39); rw [va_up_ne _ _ zq5, va_up_ne _ _ zq4, va_up_ne _ _ zq3, va_up_ne _ _ zq2, va_up_ne _ _ zq1, va_up_ne _ _ zq0]; rw [ze34, ze22, ze2]; simp only [va_up, if_neg zq0, if_neg zq1, if_neg zq2, if_neg zq3, if_neg zq4, if_neg zq5]
              · rfl
        · try replace zc51 := mt (nI_leI (a := nw) (b := k) (by omega) (by omega)).mpr zc51
          refine z_iload_n X 3 dX12_check_49 rfl ?_
          refine z_aload_n X 0 dX12_check_50 rfl ?_
          refine z_get X fl_X12_191_12 dX12_check_51 zK39 rfl ?_
          refine z_icmp_ge X 81 dX12_check_54 (by decide) (fun zc54 => ?_) (fun zc54 => ?_)
          · try replace zc54 := (nI_leI (a := rn (gbyN (Tx d) tx vk (upd d 15 0)) (lnO (gbyN (Tx d) tx vk (upd d 15 0))) (lnO (gbyN (Tx d) tx vk (upd d 15 0)))) (b := k) (by omega) (by omega)).mp zc54
            refine z_iload_n X 3 dX12_check_81 rfl ?_
            refine z_iload_n X 2 dX12_check_82 rfl ?_
            refine z_icmp_ne X 98 dX12_check_83 (by decide) (fun zc55 => ?_) (fun zc55 => ?_)
            · try replace zc55 := mt (nI_eq (a := k) (b := nw) (by omega) (by omega)).mpr zc55
              refine z_iconst (v := 1) X dX12_check_98 (by decide) ?_
              refine z_iload_n X 3 dX12_check_99 rfl ?_
              refine z_iadd X dX12_check_100 ?_
              refine z_toe (y := nI (1 + k)) (nI_add (1) (k)) ?_
              refine z_iret X E dX12_check_101 (by omega) (by omega) ⟨ba'15, at'16, sz'17, fa'18, op'19, nm'20, (nI (rn (gbyN (Tx d) tx vk (upd d 15 0)) (lnO (gbyN (Tx d) tx vk (upd d 15 0))) (lnO (gbyN (Tx d) tx vk (upd d 15 0))))), (gbyN (Tx d) tx vk (upd d 15 0)), g'32, ?_, ?_, ?_⟩
              · (have hu : chk (fun k => d (70 + k)) nw (gbyN (Tx d) tx vk (upd d 15 0)) = nI (1 + k) := by (unfold chk rnE; first | (rw [unl_hit hf (by omega) (by assumption)]; exact nI_add 1 k) | (rw [unl_end hf (by omega), if_neg (by omega)]; exact nI_add 1 k))); rw [opCheck_0 (by omega), hu]; first | done | rfl
              · (have hu : chk (fun k => d (70 + k)) nw (gbyN (Tx d) tx vk (upd d 15 0)) = nI (1 + k) := by (unfold chk rnE; first | (rw [unl_hit hf (by omega) (by assumption)]; exact nI_add 1 k) | (rw [unl_end hf (by omega), if_neg (by omega)]; exact nI_add 1 k))); rw [opCheck_0 (by omega), hu, bump_0]; clear hu; funext zz; by_cases zq5 : zz = o + 4; (rw [zq5, va_up_self]; exact zK40); by_cases zq4 : zz = o + 6; (rw [zq4, va_up_ne _ _ (show o + 6 ≠ o + 4 by omega), va_up_self]; exact zK44); by_cases zq3 : zz = o + 2; (rw [zq3, va_up_ne _ _ (show o + 2 ≠ o + 4 by omega), va_up_ne _ _ (show o + 2 ≠ o + 6 by omega), va_up_self]; exact zK42); by_cases zq2 : zz = o + 1; (rw [zq2, va_up_ne _ _ (show o + 1 ≠ o + 4 by omega), va_up_ne _ _ (show o + 1 ≠ o + 6 by omega), va_up_ne _ _ (show o + 1 ≠ o + 2 by omega), va_up_self]; exact zK41); by_cases zq1 : zz = o + 5; (rw [zq1, va_up_ne _ _ (show o + 5 ≠ o + 4 by omega), va_up_ne _ _ (show o + 5 ≠ o + 6 by omega), va_up_ne _ _ (show o + 5 ≠ o + 2 by omega), va_up_ne _ _ (show o + 5 ≠ o + 1 by omega), va_up_self]; exact zK43); by_cases zq0 : zz = o; (rw [zq0, va_up_ne _ _ (show o ≠ o + 4 by omega), va_up_ne _ _ (show o ≠ o + 6 by omega), va_up_ne _ _ (show o ≠ o + 2 by omega), va_up_ne _ _ (show o ≠ o + 1 by omega), va_up_ne _ _ (show o ≠ o + 5 by omega), va_up_self]; exact zK39); rw [va_up_ne _ _ zq5, va_up_ne _ _ zq4, va_up_ne _ _ zq3, va_up_ne _ _ zq2, va_up_ne _ _ zq1, va_up_ne _ _ zq0]; rw [ze34, ze22, ze2]; simp only [va_up, if_neg zq0, if_neg zq1, if_neg zq2, if_neg zq3, if_neg zq4, if_neg zq5]
              · rfl
            · try replace zc55 := (nI_eq (a := k) (b := nw) (by omega) (by omega)).mp zc55
              refine z_iload_n X 3 dX12_check_86 rfl ?_
              refine z_aload_n X 0 dX12_check_87 rfl ?_
              refine z_get X fl_X12_191_12 dX12_check_88 zK39 rfl ?_
              refine z_icmp_ne X 98 dX12_check_91 (by decide) (fun zc56 => ?_) (fun zc56 => ?_)
              · try replace zc56 := mt (nI_eq (a := k) (b := rn (gbyN (Tx d) tx vk (upd d 15 0)) (lnO (gbyN (Tx d) tx vk (upd d 15 0))) (lnO (gbyN (Tx d) tx vk (upd d 15 0)))) (by omega) (by omega)).mpr zc56
                refine z_iconst (v := 1) X dX12_check_98 (by decide) ?_
                refine z_iload_n X 3 dX12_check_99 rfl ?_
                refine z_iadd X dX12_check_100 ?_
                refine z_toe (y := nI (1 + k)) (nI_add (1) (k)) ?_
                refine z_iret X E dX12_check_101 (by omega) (by omega) ⟨ba'15, at'16, sz'17, fa'18, op'19, nm'20, (nI (rn (gbyN (Tx d) tx vk (upd d 15 0)) (lnO (gbyN (Tx d) tx vk (upd d 15 0))) (lnO (gbyN (Tx d) tx vk (upd d 15 0))))), (gbyN (Tx d) tx vk (upd d 15 0)), g'32, ?_, ?_, ?_⟩
                · (have hu : chk (fun k => d (70 + k)) nw (gbyN (Tx d) tx vk (upd d 15 0)) = nI (1 + k) := by (unfold chk rnE; first | (rw [unl_hit hf (by omega) (by assumption)]; exact nI_add 1 k) | (rw [unl_end hf (by omega), if_neg (by omega)]; exact nI_add 1 k))); rw [opCheck_0 (by omega), hu]; first | done | rfl
                · (have hu : chk (fun k => d (70 + k)) nw (gbyN (Tx d) tx vk (upd d 15 0)) = nI (1 + k) := by (unfold chk rnE; first | (rw [unl_hit hf (by omega) (by assumption)]; exact nI_add 1 k) | (rw [unl_end hf (by omega), if_neg (by omega)]; exact nI_add 1 k))); rw [opCheck_0 (by omega), hu, bump_0]; clear hu; funext zz; by_cases zq5 : zz = o + 4; (rw [zq5, va_up_self]; exact zK40); by_cases zq4 : zz = o + 6; (rw [zq4, va_up_ne _ _ (show o + 6 ≠ o + 4 by omega), va_up_self]; exact zK44); by_cases zq3 : zz = o + 2; (rw [zq3, va_up_ne _ _ (show o + 2 ≠ o + 4 by omega), va_up_ne _ _ (show o + 2 ≠ o + 6 by omega), va_up_self]; exact zK42); by_cases zq2 : zz = o + 1; (rw [zq2, va_up_ne _ _ (show o + 1 ≠ o + 4 by omega), va_up_ne _ _ (show o + 1 ≠ o + 6 by omega), va_up_ne _ _ (show o + 1 ≠ o + 2 by omega), va_up_self]; exact zK41); by_cases zq1 : zz = o + 5; (rw [zq1, va_up_ne _ _ (show o + 5 ≠ o + 4 by omega), va_up_ne _ _ (show o + 5 ≠ o + 6 by omega), va_up_ne _ _ (show o + 5 ≠ o + 2 by omega), va_up_ne _ _ (show o + 5 ≠ o + 1 by omega), va_up_self]; exact zK43); by_cases zq0 : zz = o; (rw [zq0, va_up_ne _ _ (show o ≠ o + 4 by omega), va_up_ne _ _ (show o ≠ o + 6 by omega), va_up_ne _ _ (show o ≠ o + 2 by omega), va_up_ne _ _ (show o ≠ o + 1 by omega), va_up_ne _ _ (show o ≠ o + 5 by omega), va_up_self]; exact zK39); rw [va_up_ne _ _ zq5, va_up_ne _ _ zq4, va_up_ne _ _ zq3, va_up_ne _ _ zq2, va_up_ne _ _ zq1, va_up_ne _ _ zq0]; rw [ze34, ze22, ze2]; simp only [va_up, if_neg zq0, if_neg zq1, if_neg zq2, if_neg zq3, if_neg zq4, if_neg zq5]
                · rfl
              · try replace zc56 := (nI_eq (a := k) (b := rn (gbyN (Tx d) tx vk (upd d 15 0)) (lnO (gbyN (Tx d) tx vk (upd d 15 0))) (lnO (gbyN (Tx d) tx vk (upd d 15 0)))) (by omega) (by omega)).mp zc56
                refine z_iconst (v := 0) X dX12_check_94 (by decide) ?_
                refine z_goto X 101 dX12_check_95 (by decide) ?_
                refine z_iret X E dX12_check_101 (by omega) (by omega) ⟨ba'15, at'16, sz'17, fa'18, op'19, nm'20, (nI (rn (gbyN (Tx d) tx vk (upd d 15 0)) (lnO (gbyN (Tx d) tx vk (upd d 15 0))) (lnO (gbyN (Tx d) tx vk (upd d 15 0))))), (gbyN (Tx d) tx vk (upd d 15 0)), g'32, ?_, ?_, ?_⟩
                · (have hu : chk (fun k => d (70 + k)) nw (gbyN (Tx d) tx vk (upd d 15 0)) = 0 := by (unfold chk rnE; rw [unl_end hf (by omega), if_pos (by omega)]; decide)); rw [opCheck_0 (by omega), hu]; first | done | rfl
                · (have hu : chk (fun k => d (70 + k)) nw (gbyN (Tx d) tx vk (upd d 15 0)) = 0 := by (unfold chk rnE; rw [unl_end hf (by omega), if_pos (by omega)]; decide)); rw [opCheck_0 (by omega), hu, bump_0]; clear hu; funext zz; by_cases zq5 : zz = o + 4; (rw [zq5, va_up_self]; exact zK40); by_cases zq4 : zz = o + 6; (rw [zq4, va_up_ne _ _ (show o + 6 ≠ o + 4 by omega), va_up_self]; exact zK44); by_cases zq3 : zz = o + 2; (rw [zq3, va_up_ne _ _ (show o + 2 ≠ o + 4 by omega), va_up_ne _ _ (show o + 2 ≠ o + 6 by omega), va_up_self]; exact zK42); by_cases zq2 : zz = o + 1; (rw [zq2, va_up_ne _ _ (show o + 1 ≠ o + 4 by omega), va_up_ne _ _ (show o + 1 ≠ o + 6 by omega), va_up_ne _ _ (show o + 1 ≠ o + 2 by omega), va_up_self]; exact zK41); by_cases zq1 : zz = o + 5; (rw [zq1, va_up_ne _ _ (show o + 5 ≠ o + 4 by omega), va_up_ne _ _ (show o + 5 ≠ o + 6 by omega), va_up_ne _ _ (show o + 5 ≠ o + 2 by omega), va_up_ne _ _ (show o + 5 ≠ o + 1 by omega), va_up_self]; exact zK43); by_cases zq0 : zz = o; (rw [zq0, va_up_ne _ _ (show o ≠ o + 4 by omega), va_up_ne _ _ (show o ≠ o + 6 by omega), va_up_ne _ _ (show o ≠ o + 2 by omega), va_up_ne _ _ (show o ≠ o + 1 by omega), va_up_ne _ _ (show o ≠ o + 5 by omega), va_up_self]; exact zK39); rw [va_up_ne _ _ zq5, va_up_ne _ _ zq4, va_up_ne _ _ zq3, va_up_ne _ _ zq2, va_up_ne _ _ zq1, va_up_ne _ _ zq0]; rw [ze34, ze22, ze2]; simp only [va_up, if_neg zq0, if_neg zq1, if_neg zq2, if_neg zq3, if_neg zq4, if_neg zq5]
                · rfl
          · try replace zc54 := mt (nI_leI (a := rn (gbyN (Tx d) tx vk (upd d 15 0)) (lnO (gbyN (Tx d) tx vk (upd d 15 0))) (lnO (gbyN (Tx d) tx vk (upd d 15 0)))) (b := k) (by omega) (by omega)).mpr zc54
            refine z_aload_n X 0 dX12_check_57 rfl ?_
            refine z_get X fl_X12_7_12 dX12_check_58 zK39 rfl ?_
            refine z_bipush (v := 70) X dX12_check_61 (by decide) ?_
            refine z_iload_n X 3 dX12_check_63 rfl ?_
            refine z_iadd X dX12_check_64 ?_
            refine z_toe (y := nI (70 + k)) (nI_add (70) (k)) ?_
            refine z_iald2 (v := d (70 + k)) X dX12_check_65 zK41 (vp_in_nI (n := 70 + k) (by omega) (by omega)) ((congrArg (upd d 15 0) (nI_clamp (n := 70 + k) (by omega))).trans (pk_un (show 70 + k ≠ 15 by omega))) ?_
            refine z_aload_n X 0 dX12_check_66 rfl ?_
            refine z_get X fl_X12_25_12 dX12_check_67 zK39 rfl ?_
            refine z_iload_n X 3 dX12_check_70 rfl ?_
            refine z_iald2 (v := g'32 k) X dX12_check_71 zK44 (vp_in_nI (n := k) (by omega) (by omega)) (congrArg g'32 (nI_clamp (n := k) (by omega))) ?_
            refine z_toe (y := nI (rAtE (gbyN (Tx d) tx vk (upd d 15 0)) k)) (rgOk_at hrg (by omega)) ?_
            refine z_icmp_ne X 81 dX12_check_72 (by decide) (fun zc57 => ?_) (fun zc57 => ?_)
            · refine z_iload_n X 3 dX12_check_81 rfl ?_
              refine z_iload_n X 2 dX12_check_82 rfl ?_
              refine z_icmp_ne X 98 dX12_check_83 (by decide) (fun zc58 => ?_) (fun zc58 => ?_)
              · try replace zc58 := mt (nI_eq (a := k) (b := nw) (by omega) (by omega)).mpr zc58
                refine z_iconst (v := 1) X dX12_check_98 (by decide) ?_
                refine z_iload_n X 3 dX12_check_99 rfl ?_
                refine z_iadd X dX12_check_100 ?_
                refine z_toe (y := nI (1 + k)) (nI_add (1) (k)) ?_
                refine z_iret X E dX12_check_101 (by omega) (by omega) ⟨ba'15, at'16, sz'17, fa'18, op'19, nm'20, (nI (rn (gbyN (Tx d) tx vk (upd d 15 0)) (lnO (gbyN (Tx d) tx vk (upd d 15 0))) (lnO (gbyN (Tx d) tx vk (upd d 15 0))))), (gbyN (Tx d) tx vk (upd d 15 0)), g'32, ?_, ?_, ?_⟩
                · (have hu : chk (fun k => d (70 + k)) nw (gbyN (Tx d) tx vk (upd d 15 0)) = nI (1 + k) := by (unfold chk rnE; first | (rw [unl_hit hf (by omega) (by assumption)]; exact nI_add 1 k) | (rw [unl_end hf (by omega), if_neg (by omega)]; exact nI_add 1 k))); rw [opCheck_0 (by omega), hu]; first | done | rfl
                · (have hu : chk (fun k => d (70 + k)) nw (gbyN (Tx d) tx vk (upd d 15 0)) = nI (1 + k) := by (unfold chk rnE; first | (rw [unl_hit hf (by omega) (by assumption)]; exact nI_add 1 k) | (rw [unl_end hf (by omega), if_neg (by omega)]; exact nI_add 1 k))); rw [opCheck_0 (by omega), hu, bump_0]; clear hu; funext zz; by_cases zq5 : zz = o + 4; (rw [zq5, va_up_self]; exact zK40); by_cases zq4 : zz = o + 6; (rw [zq4, va_up_ne _ _ (show o + 6 ≠ o + 4 by omega), va_up_self]; exact zK44); by_cases zq3 : zz = o + 2; (rw [zq3, va_up_ne _ _ (show o + 2 ≠ o + 4 by omega), va_up_ne _ _ (show o + 2 ≠ o + 6 by omega), va_up_self]; exact zK42); by_cases zq2 : zz = o + 1; (rw [zq2, va_up_ne _ _ (show o + 1 ≠ o + 4 by omega), va_up_ne _ _ (show o + 1 ≠ o + 6 by omega), va_up_ne _ _ (show o + 1 ≠ o + 2 by omega), va_up_self]; exact zK41); by_cases zq1 : zz = o + 5; (rw [zq1, va_up_ne _ _ (show o + 5 ≠ o + 4 by omega), va_up_ne _ _ (show o + 5 ≠ o + 6 by omega), va_up_ne _ _ (show o + 5 ≠ o + 2 by omega), va_up_ne _ _ (show o + 5 ≠ o + 1 by omega), va_up_self]; exact zK43); by_cases zq0 : zz = o; (rw [zq0, va_up_ne _ _ (show o ≠ o + 4 by omega), va_up_ne _ _ (show o ≠ o + 6 by omega), va_up_ne _ _ (show o ≠ o + 2 by omega), va_up_ne _ _ (show o ≠ o + 1 by omega), va_up_ne _ _ (show o ≠ o + 5 by omega), va_up_self]; exact zK39); rw [va_up_ne _ _ zq5, va_up_ne _ _ zq4, va_up_ne _ _ zq3, va_up_ne _ _ zq2, va_up_ne _ _ zq1, va_up_ne _ _ zq0]; rw [ze34, ze22, ze2]; simp only [va_up, if_neg zq0, if_neg zq1, if_neg zq2, if_neg zq3, if_neg zq4, if_neg zq5]
                · rfl
              · try replace zc58 := (nI_eq (a := k) (b := nw) (by omega) (by omega)).mp zc58
                refine z_iload_n X 3 dX12_check_86 rfl ?_
                refine z_aload_n X 0 dX12_check_87 rfl ?_
                refine z_get X fl_X12_191_12 dX12_check_88 zK39 rfl ?_
                refine z_icmp_ne X 98 dX12_check_91 (by decide) (fun zc59 => ?_) (fun zc59 => ?_)
                · try replace zc59 := mt (nI_eq (a := k) (b := rn (gbyN (Tx d) tx vk (upd d 15 0)) (lnO (gbyN (Tx d) tx vk (upd d 15 0))) (lnO (gbyN (Tx d) tx vk (upd d 15 0)))) (by omega) (by omega)).mpr zc59
                  refine z_iconst (v := 1) X dX12_check_98 (by decide) ?_
                  refine z_iload_n X 3 dX12_check_99 rfl ?_
                  refine z_iadd X dX12_check_100 ?_
                  refine z_toe (y := nI (1 + k)) (nI_add (1) (k)) ?_
                  refine z_iret X E dX12_check_101 (by omega) (by omega) ⟨ba'15, at'16, sz'17, fa'18, op'19, nm'20, (nI (rn (gbyN (Tx d) tx vk (upd d 15 0)) (lnO (gbyN (Tx d) tx vk (upd d 15 0))) (lnO (gbyN (Tx d) tx vk (upd d 15 0))))), (gbyN (Tx d) tx vk (upd d 15 0)), g'32, ?_, ?_, ?_⟩
                  · (have hu : chk (fun k => d (70 + k)) nw (gbyN (Tx d) tx vk (upd d 15 0)) = nI (1 + k) := by (unfold chk rnE; first | (rw [unl_hit hf (by omega) (by assumption)]; exact nI_add 1 k) | (rw [unl_end hf (by omega), if_neg (by omega)]; exact nI_add 1 k))); rw [opCheck_0 (by omega), hu]; first | done | rfl
                  · (have hu : chk (fun k => d (70 + k)) nw (gbyN (Tx d) tx vk (upd d 15 0)) = nI (1 + k) := by (unfold chk rnE; first | (rw [unl_hit hf (by omega) (by assumption)]; exact nI_add 1 k) | (rw [unl_end hf (by omega), if_neg (by omega)]; exact nI_add 1 k))); rw [opCheck_0 (by omega), hu, bump_0]; clear hu; funext zz; by_cases zq5 : zz = o + 4; (rw [zq5, va_up_self]; exact zK40); by_cases zq4 : zz = o + 6; (rw [zq4, va_up_ne _ _ (show o + 6 ≠ o + 4 by omega), va_up_self]; exact zK44); by_cases zq3 : zz = o + 2; (rw [zq3, va_up_ne _ _ (show o + 2 ≠ o + 4 by omega), va_up_ne _ _ (show o + 2 ≠ o + 6 by omega), va_up_self]; exact zK42); by_cases zq2 : zz = o + 1; (rw [zq2, va_up_ne _ _ (show o + 1 ≠ o + 4 by omega), va_up_ne _ _ (show o + 1 ≠ o + 6 by omega), va_up_ne _ _ (show o + 1 ≠ o + 2 by omega), va_up_self]; exact zK41); by_cases zq1 : zz = o + 5; (rw [zq1, va_up_ne _ _ (show o + 5 ≠ o + 4 by omega), va_up_ne _ _ (show o + 5 ≠ o + 6 by omega), va_up_ne _ _ (show o + 5 ≠ o + 2 by omega), va_up_ne _ _ (show o + 5 ≠ o + 1 by omega), va_up_self]; exact zK43); by_cases zq0 : zz = o; (rw [zq0, va_up_ne _ _ (show o ≠ o + 4 by omega), va_up_ne _ _ (show o ≠ o + 6 by omega), va_up_ne _ _ (show o ≠ o + 2 by omega), va_up_ne _ _ (show o ≠ o + 1 by omega), va_up_ne _ _ (show o ≠ o + 5 by omega), va_up_self]; exact zK39); rw [va_up_ne _ _ zq5, va_up_ne _ _ zq4, va_up_ne _ _ zq3, va_up_ne _ _ zq2, va_up_ne _ _ zq1, va_up_ne _ _ zq0]; rw [ze34, ze22, ze2]; simp only [va_up, if_neg zq0, if_neg zq1, if_neg zq2, if_neg zq3, if_neg zq4, if_neg zq5]
                  · rfl
                · try replace zc59 := (nI_eq (a := k) (b := rn (gbyN (Tx d) tx vk (upd d 15 0)) (lnO (gbyN (Tx d) tx vk (upd d 15 0))) (lnO (gbyN (Tx d) tx vk (upd d 15 0)))) (by omega) (by omega)).mp zc59
                  refine z_iconst (v := 0) X dX12_check_94 (by decide) ?_
                  refine z_goto X 101 dX12_check_95 (by decide) ?_
                  refine z_iret X E dX12_check_101 (by omega) (by omega) ⟨ba'15, at'16, sz'17, fa'18, op'19, nm'20, (nI (rn (gbyN (Tx d) tx vk (upd d 15 0)) (lnO (gbyN (Tx d) tx vk (upd d 15 0))) (lnO (gbyN (Tx d) tx vk (upd d 15 0))))), (gbyN (Tx d) tx vk (upd d 15 0)), g'32, ?_, ?_, ?_⟩
                  · (have hu : chk (fun k => d (70 + k)) nw (gbyN (Tx d) tx vk (upd d 15 0)) = 0 := by (unfold chk rnE; rw [unl_end hf (by omega), if_pos (by omega)]; decide)); rw [opCheck_0 (by omega), hu]; first | done | rfl
                  · (have hu : chk (fun k => d (70 + k)) nw (gbyN (Tx d) tx vk (upd d 15 0)) = 0 := by (unfold chk rnE; rw [unl_end hf (by omega), if_pos (by omega)]; decide)); rw [opCheck_0 (by omega), hu, bump_0]; clear hu; funext zz; by_cases zq5 : zz = o + 4; (rw [zq5, va_up_self]; exact zK40); by_cases zq4 : zz = o + 6; (rw [zq4, va_up_ne _ _ (show o + 6 ≠ o + 4 by omega), va_up_self]; exact zK44); by_cases zq3 : zz = o + 2; (rw [zq3, va_up_ne _ _ (show o + 2 ≠ o + 4 by omega), va_up_ne _ _ (show o + 2 ≠ o + 6 by omega), va_up_self]; exact zK42); by_cases zq2 : zz = o + 1; (rw [zq2, va_up_ne _ _ (show o + 1 ≠ o + 4 by omega), va_up_ne _ _ (show o + 1 ≠ o + 6 by omega), va_up_ne _ _ (show o + 1 ≠ o + 2 by omega), va_up_self]; exact zK41); by_cases zq1 : zz = o + 5; (rw [zq1, va_up_ne _ _ (show o + 5 ≠ o + 4 by omega), va_up_ne _ _ (show o + 5 ≠ o + 6 by omega), va_up_ne _ _ (show o + 5 ≠ o + 2 by omega), va_up_ne _ _ (show o + 5 ≠ o + 1 by omega), va_up_self]; exact zK43); by_cases zq0 : zz = o; (rw [zq0, va_up_ne _ _ (show o ≠ o + 4 by omega), va_up_ne _ _ (show o ≠ o + 6 by omega), va_up_ne _ _ (show o ≠ o + 2 by omega), va_up_ne _ _ (show o ≠ o + 1 by omega), va_up_ne _ _ (show o ≠ o + 5 by omega), va_up_self]; exact zK39); rw [va_up_ne _ _ zq5, va_up_ne _ _ zq4, va_up_ne _ _ zq3, va_up_ne _ _ zq2, va_up_ne _ _ zq1, va_up_ne _ _ zq0]; rw [ze34, ze22, ze2]; simp only [va_up, if_neg zq0, if_neg zq1, if_neg zq2, if_neg zq3, if_neg zq4, if_neg zq5]
                  · rfl
            · refine z_iinc (v := nI (k + 1)) (ls' := [(3, .int (nI (k + 1))), (0, .ref o), (1, .int (nI vk)), (2, .int (nI nw))]) X 3 dX12_check_75 rfl (nI_1 (k)) (by decide) rfl ?_
              refine z_goto X 44 dX12_check_78 (by decide) ?_
              refine z_sub (ls' := [(0, .ref o), (1, .int (nI vk)), (2, .int (nI nw)), (3, .int (nI (k + 1)))]) [1, 2, 3, 0] rfl ?_
              exact ih44 (k + 1) (by omega) (by first | assumption | rfl | omega) (by rw [hf]; exact funl_step (by omega) (by assumption))
    refine z_sub (ls' := [(0, .ref o), (1, .int (nI vk)), (2, .int (nI nw)), (3, .int 0)]) [2, 3, 1, 0] rfl ?_
    exact L44 _ 0 (Nat.lt_succ_self _) (by first | assumption | rfl | omega) (by rfl)
  · replace zc14 := b2i_f zc14
    refine z_aload_n X 1 dX12_check_23 rfl ?_
    refine z_iconst (v := 1) X dX12_check_24 (by decide) ?_
    refine z_callV X (r_finds (κ := κ) (n := n) (o := (o)) (k := (1)) (fo := (fo)) (im := (im)) (ba := (ba)) (at_ := (at_)) (sz := (sz)) (fa := (fa)) (op := (op)) (rm := (rm)) (ti := (ti)) (tm := (tm)) (wh := (wh)) zK3 zK4 (by first | assumption | omega) (by first | assumption | omega)) mk_X12_finds dX12_check_25 wd_1018 wd_1020 wd_24 rfl zK3 rfl rfl rfl (Nat.le_of_ble_eq_true rfl) (Nat.le_of_ble_eq_true rfl) (Nat.le_of_ble_eq_true rfl) (by omega) (by omega) (fun q zh60 zm62 zp63 => ?_)
    obtain ⟨rfl, ze61, zn64⟩ := zp63
    subst zm62
    refine z_st (st' := [.int (lowE 1)]) rfl ?_
    have zK65 : zh60 o = some (.inr (12, [.ref (o + 1), .ref (o + 2), .ref (o + 3), .int im, .ref (o + 4), .int ba, .int at_, .int sz, .int fa, .int op, .ref (o + 5), .ref (o + 6), .int rm, .ref (o + 7), .ref (o + 8), .int ti, .ref (o + 9), .int tm, .int wh, .ref (o + 10), .ref (o + 11), .ref (o + 12), .ref (o + 13)])) := by rw [ze61]; rw [va_up_ne _ _ (show o ≠ o + 4 by omega)]; exact zK3
    have zK66 : zh60 (o + 4) = arI κ 6 (bmp fo 1) := by rw [ze61]; exact va_up_self _ _ _
    have zK67 : zh60 (o + 1) = arI κ 340 (upd d 15 0) := by rw [ze61]; rw [va_up_ne _ _ (show o + 1 ≠ o + 4 by omega)]; exact zK5
    have zK68 : zh60 (o + 2) = arI κ 340 e := by rw [ze61]; rw [va_up_ne _ _ (show o + 2 ≠ o + 4 by omega)]; exact zK6
    have zK69 : zh60 (o + 5) = arI κ 3 nm := by rw [ze61]; rw [va_up_ne _ _ (show o + 5 ≠ o + 4 by omega)]; exact zK7
    have zK70 : zh60 (o + 6) = arI κ 40 g := by rw [ze61]; rw [va_up_ne _ _ (show o + 6 ≠ o + 4 by omega)]; exact zK8
    refine z_iret X E dX12_check_28 (by omega) (by omega) ⟨ba, at_, sz, fa, op, nm, rm, e, g, ?_, ?_, ?_⟩
    · generalize hz : opCheck (Tx d) tx d nw v = z; unfold opCheck at hz; (try simp only [ i_eq, i_lt, i_le, show (-1 : Int32).toInt = -1 by decide, show (0 : Int32).toInt = 0 by decide, show (1 : Int32).toInt = 1 by decide, show (2 : Int32).toInt = 2 by decide, show (3 : Int32).toInt = 3 by decide, show (4 : Int32).toInt = 4 by decide, show (5 : Int32).toInt = 5 by decide, show (6 : Int32).toInt = 6 by decide, show (7 : Int32).toInt = 7 by decide, show (8 : Int32).toInt = 8 by decide, show (9 : Int32).toInt = 9 by decide, show (10 : Int32).toInt = 10 by decide, show (11 : Int32).toInt = 11 by decide, show (12 : Int32).toInt = 12 by decide, show (13 : Int32).toInt = 13 by decide, show (14 : Int32).toInt = 14 by decide, show (15 : Int32).toInt = 15 by decide, show (16 : Int32).toInt = 16 by decide, show (20 : Int32).toInt = 20 by decide, show (39 : Int32).toInt = 39 by decide, show (40 : Int32).toInt = 40 by decide, show (50 : Int32).toInt = 50 by decide, show (60 : Int32).toInt = 60 by decide, show (99 : Int32).toInt = 99 by decide, show (100 : Int32).toInt = 100 by decide, show (999 : Int32).toInt = 999 by decide, show (9999 : Int32).toInt = 9999 by decide, show (99999 : Int32).toInt = 99999 by decide, show (999999 : Int32).toInt = 999999 by decide, show (9999999 : Int32).toInt = 9999999 by decide, show (-50 : Int32).toInt = -50 by decide, show (32 : Int32).toInt = 32 by decide] at *); (repeat first | rw [if_pos (by omega)] at hz | rw [if_neg (by omega)] at hz); subst hz; first | exact congrArg (fun z => some (Value.int z)) (ansOf_0 _).symm | rfl
    · generalize hz : opCheck (Tx d) tx d nw v = z; unfold opCheck at hz; (try simp only [ i_eq, i_lt, i_le, show (-1 : Int32).toInt = -1 by decide, show (0 : Int32).toInt = 0 by decide, show (1 : Int32).toInt = 1 by decide, show (2 : Int32).toInt = 2 by decide, show (3 : Int32).toInt = 3 by decide, show (4 : Int32).toInt = 4 by decide, show (5 : Int32).toInt = 5 by decide, show (6 : Int32).toInt = 6 by decide, show (7 : Int32).toInt = 7 by decide, show (8 : Int32).toInt = 8 by decide, show (9 : Int32).toInt = 9 by decide, show (10 : Int32).toInt = 10 by decide, show (11 : Int32).toInt = 11 by decide, show (12 : Int32).toInt = 12 by decide, show (13 : Int32).toInt = 13 by decide, show (14 : Int32).toInt = 14 by decide, show (15 : Int32).toInt = 15 by decide, show (16 : Int32).toInt = 16 by decide, show (20 : Int32).toInt = 20 by decide, show (39 : Int32).toInt = 39 by decide, show (40 : Int32).toInt = 40 by decide, show (50 : Int32).toInt = 50 by decide, show (60 : Int32).toInt = 60 by decide, show (99 : Int32).toInt = 99 by decide, show (100 : Int32).toInt = 100 by decide, show (999 : Int32).toInt = 999 by decide, show (9999 : Int32).toInt = 9999 by decide, show (99999 : Int32).toInt = 99999 by decide, show (999999 : Int32).toInt = 999999 by decide, show (9999999 : Int32).toInt = 9999999 by decide, show (-50 : Int32).toInt = -50 by decide, show (32 : Int32).toInt = 32 by decide] at *); (repeat first | rw [if_pos (by omega)] at hz | rw [if_neg (by omega)] at hz); subst hz; funext zz; by_cases zq5 : zz = o + 4; (rw [zq5, va_up_self]; exact zK66); by_cases zq4 : zz = o + 6; (rw [zq4, va_up_ne _ _ (show o + 6 ≠ o + 4 by omega), va_up_self]; exact zK70); by_cases zq3 : zz = o + 2; (rw [zq3, va_up_ne _ _ (show o + 2 ≠ o + 4 by omega), va_up_ne _ _ (show o + 2 ≠ o + 6 by omega), va_up_self]; exact zK68); by_cases zq2 : zz = o + 1; (rw [zq2, va_up_ne _ _ (show o + 1 ≠ o + 4 by omega), va_up_ne _ _ (show o + 1 ≠ o + 6 by omega), va_up_ne _ _ (show o + 1 ≠ o + 2 by omega), va_up_self]; exact zK67); by_cases zq1 : zz = o + 5; (rw [zq1, va_up_ne _ _ (show o + 5 ≠ o + 4 by omega), va_up_ne _ _ (show o + 5 ≠ o + 6 by omega), va_up_ne _ _ (show o + 5 ≠ o + 2 by omega), va_up_ne _ _ (show o + 5 ≠ o + 1 by omega), va_up_self]; exact zK69); by_cases zq0 : zz = o; (rw [zq0, va_up_ne _ _ (show o ≠ o + 4 by omega), va_up_ne _ _ (show o ≠ o + 6 by omega), va_up_ne _ _ (show o ≠ o + 2 by omega), va_up_ne _ _ (show o ≠ o + 1 by omega), va_up_ne _ _ (show o ≠ o + 5 by omega), va_up_self]; exact zK65); rw [va_up_ne _ _ zq5, va_up_ne _ _ zq4, va_up_ne _ _ zq3, va_up_ne _ _ zq2, va_up_ne _ _ zq1, va_up_ne _ _ zq0]; rw [ze61, ze2]; simp only [va_up, if_neg zq0, if_neg zq1, if_neg zq2, if_neg zq3, if_neg zq4, if_neg zq5]
    · rfl
theorem sh_upd {d : Nat → Int32} {q b : Nat} {x : Int32} (h : q < b) : sh (upd d q x) b = sh d b := by
  funext i
  exact pk_un (by omega)
def opText (d : Nat → Int32) (nt : Nat) (nm : Nat → Int32) (u : Int32) : Nat × Int32 := if ¬ (0 ≤ u.toInt ∧ u.toInt ≤ 1) then (1, 0) else match (wkE (sh d 280) nt nm).2 with
  | none => (0, 1)
  | some p => (0, -10 - nI p)
/-- a text kept for a use -/
def dTxt (d : Nat → Int32) (nt u : Nat) : Nat → Int32 := fun q => if 180 + 50 * u ≤ q ∧ q < 180 + 50 * u + nt then d (280 + (q - (180 + 50 * u))) else upd (upd d 14 0) (60 + u) (nI nt) q
def dText (d : Nat → Int32) (nt : Nat) (nm : Nat → Int32) (u : Int32) : Nat → Int32 := if ¬ (0 ≤ u.toInt ∧ u.toInt ≤ 1) then d else match (wkE (sh d 280) nt nm).2 with
  | none => dTxt d nt u.toNatClampNeg
  | some _ => upd d 14 0
section TX
variable {d nm : Nat → Int32} {nt u : Nat}
theorem opText_n (h : u < 2) (hw : (wkE (sh d 280) nt nm).2 = none) : opText d nt nm (nI u) = (0, 1) := by
  unfold opText
  rw [i_nI (by omega), if_neg (by omega), hw]
theorem opText_s {p : Nat} (h : u < 2) (hw : (wkE (sh d 280) nt nm).2 = some p) : opText d nt nm (nI u) = (0, -10 - nI p) := by
  unfold opText
  rw [i_nI (by omega), if_neg (by omega), hw]
theorem dText_n (h : u < 2) (hw : (wkE (sh d 280) nt nm).2 = none) : dText d nt nm (nI u) = dTxt d nt u := by
  unfold dText
  rw [i_nI (by omega), if_neg (by omega), hw, nI_clamp (by omega)]
theorem dText_s {p : Nat} (h : u < 2) (hw : (wkE (sh d 280) nt nm).2 = some p) : dText d nt nm (nI u) = upd d 14 0 := by
  unfold dText
  rw [i_nI (by omega), if_neg (by omega), hw]
theorem dTxt_z (q : Nat) : upd (upd d 14 0) (60 + u) (nI nt) q = if 180 + 50 * u ≤ q ∧ q < 180 + 50 * u + 0 then d (280 + (q - (180 + 50 * u))) else upd (upd d 14 0) (60 + u) (nI nt) q := (if_neg (by omega)).symm
end TX
set_option maxHeartbeats 4000000 in
set_option maxRecDepth 100000 in
theorem r_text {κ : Wc} {l : Launch} {h : Mm} {n : Nat} {o : Nat} {fo : Nat → Int32} {d : Nat → Int32} {nm : Nat → Int32} {nt : Nat} {u : Int32} {im : Int32} {ba : Int32} {at_ : Int32} {sz : Int32} {fa : Int32} {op : Int32} {rm : Int32} {ti : Int32} {tm : Int32} {wh : Int32} (K0 : h o = some (.inr (12, [.ref (o + 1), .ref (o + 2), .ref (o + 3), .int im, .ref (o + 4), .int ba, .int at_, .int sz, .int fa, .int op, .ref (o + 5), .ref (o + 6), .int rm, .ref (o + 7), .ref (o + 8), .int ti, .ref (o + 9), .int tm, .int wh, .ref (o + 10), .ref (o + 11), .ref (o + 12), .ref (o + 13)]))) (K1 : h (o + 4) = arI κ 6 fo) (K2 : h (o + 1) = arI κ 340 d) (K3 : h (o + 5) = arI κ 3 nm) (p1 : d 14 = nI nt) (p2 : nt ≤ 50) : Con κ l yX12_text cX12_text 5 (some .int) 40 0 0 [.ref o, .int u] h n (fun q h' n' => ∃ ba' : Int32, ∃ at' : Int32, ∃ sz' : Int32, ∃ fa' : Int32, ∃ op' : Int32, ∃ nm' : Nat → Int32, q = some (.int (ansOf (opText d nt nm u))) ∧ h' = va_up (va_up (va_up (va_up h o (some (.inr (12, [.ref (o + 1), .ref (o + 2), .ref (o + 3), .int im, .ref (o + 4), .int ba', .int at', .int sz', .int fa', .int op', .ref (o + 5), .ref (o + 6), .int rm, .ref (o + 7), .ref (o + 8), .int ti, .ref (o + 9), .int tm, .int wh, .ref (o + 10), .ref (o + 11), .ref (o + 12), .ref (o + 13)])))) (o + 5) (arI κ 3 nm')) (o + 1) (arI κ 340 (dText d nt nm u))) (o + 4) (arI κ 6 (bump (opText d nt nm u) fo)) ∧ n' = n) := by
  refine Con.of mk_X12_text (Nat.le_of_ble_eq_true rfl) (fun G hG X E => ?_)
  subst hG
  refine z_ls (ls' := [(0, .ref o), (1, .int u)]) rfl ?_
  refine z_iload_n X 1 dX12_text_0 rfl ?_
  refine z_i2l X dX12_text_1 rfl ?_
  refine z_lconst (v := 0) X dX12_text_2 (by decide) ?_
  refine z_lconst (v := 1) X dX12_text_3 (by decide) ?_
  refine z_callS X (r_in (κ := κ) (n := n) (v := (u.toInt64)) (lo := (0 : Int64)) (hi := (1 : Int64))  ) mk_X12_in dX12_text_4 wd_1014 wd_1015 rfl rfl (Nat.le_of_ble_eq_true rfl) (Nat.le_of_ble_eq_true rfl) (Nat.le_of_ble_eq_true rfl) (by omega) (by omega) (fun q zh1 zm3 zp4 => ?_)
  obtain ⟨rfl, ze2, zn5⟩ := zp4
  subst zm3
  subst zh1
  refine z_st (st' := [.int (b2i ((0 : Int64).toInt ≤ (u.toInt64 : Int64).toInt ∧ (u.toInt64 : Int64).toInt ≤ (1 : Int64).toInt))]) rfl ?_
  refine z_toe (y := b2i (0 ≤ u.toInt ∧ u.toInt ≤ 1)) (by simp only [Int32.toInt_toInt64, show (0 : Int64).toInt = 0 by decide, show (1 : Int64).toInt = 1 by decide]) ?_
  refine z_if_ne X 16 dX12_text_7 (by decide) (fun zc6 => ?_) (fun zc6 => ?_)
  · replace zc6 := b2i_t zc6
    obtain ⟨uk, huk, rfl⟩ := ix_of (c := u) (len := 2) (by omega) (by omega)
    refine z_aload_n X 0 dX12_text_16 rfl ?_
    refine z_get X fl_X12_7_12 dX12_text_17 K0 rfl ?_
    refine z_bipush (v := 14) X dX12_text_20 (by decide) ?_
    refine z_iald2 (v := d 14) X dX12_text_22 K2 (vp_in_nI (n := 14) (by omega) (by omega)) (congrArg d (nI_clamp (n := 14) (by omega))) ?_
    refine z_toe (y := nI nt) (p1) ?_
    refine z_istore_n (ls' := [(2, .int (nI nt)), (0, .ref o), (1, .int (nI uk))]) X dX12_text_23 (by decide) rfl ?_
    refine z_aload_n X 1 dX12_text_24 rfl ?_
    refine z_get X fl_X12_7_12 dX12_text_25 K0 rfl ?_
    refine z_bipush (v := 14) X dX12_text_28 (by decide) ?_
    refine z_iconst (v := 0) X dX12_text_30 (by decide) ?_
    refine z_iast X dX12_text_31 K2 (vp_in_nI (n := 14) (by omega) (by omega)) (congrArg (fun z => va_up h (o + 1) (arI κ 340 (upd d z 0))) (nI_clamp (n := 14) (by omega))) ?_
    obtain ⟨zh7, ze8⟩ : ∃ z : Mm, z = va_up h (o + 1) (arI κ 340 (upd d 14 0)) := ⟨_, rfl⟩
    refine z_heap (h' := zh7) ze8.symm ?_
    have zK9 := up_off ze8 (show o ≠ o + 1 by omega) K0
    have zK10 := up_off ze8 (show o + 4 ≠ o + 1 by omega) K1
    have zK11 := up_at ze8
    have zK12 := up_off ze8 (show o + 5 ≠ o + 1 by omega) K3
    refine z_aload_n X 1 dX12_text_32 rfl ?_
    refine z_sipush (v := 280) X dX12_text_33 (by decide) ?_
    refine z_iload_n X 0 dX12_text_36 rfl ?_
    refine z_callV X (r_worked (κ := κ) (n := n) (o := (o)) (base := (280)) (tn := (nt)) (d := (upd d 14 0)) (nm := (nm)) (im := (im)) (ba := (ba)) (at_ := (at_)) (sz := (sz)) (fa := (fa)) (op := (op)) (rm := (rm)) (ti := (ti)) (tm := (tm)) (wh := (wh)) zK9 zK11 zK12 (by first | assumption | omega) (by first | assumption | omega)) mk_X12_worked dX12_text_37 wd_1088 wd_1090 wd_28 rfl zK9 rfl rfl rfl (Nat.le_of_ble_eq_true rfl) (Nat.le_of_ble_eq_true rfl) (Nat.le_of_ble_eq_true rfl) (by omega) (by omega) (fun q zh15 zm17 zp18 => ?_)
    obtain ⟨at'13, op'14, rfl, ze16, zn20, zf19⟩ := zp18
    subst zm17
    refine z_st (st' := [.int ((wkE (sh (upd d 14 0) 280) nt nm).1)]) rfl ?_
    have zK21 : zh15 o = some (.inr (12, [.ref (o + 1), .ref (o + 2), .ref (o + 3), .int im, .ref (o + 4), .int (nI 280), .int at'13, .int (nI nt), .int (faI (wkE (sh (upd d 14 0) 280) nt nm).2), .int op'14, .ref (o + 5), .ref (o + 6), .int rm, .ref (o + 7), .ref (o + 8), .int ti, .ref (o + 9), .int tm, .int wh, .ref (o + 10), .ref (o + 11), .ref (o + 12), .ref (o + 13)])) := by rw [ze16]; exact va_up_self _ _ _
    have zK22 : zh15 (o + 4) = arI κ 6 fo := by rw [ze16]; rw [va_up_ne _ _ (show o + 4 ≠ o by omega)]; exact zK10
    have zK23 : zh15 (o + 1) = arI κ 340 (upd d 14 0) := by rw [ze16]; rw [va_up_ne _ _ (show o + 1 ≠ o by omega)]; exact zK11
    have zK24 : zh15 (o + 5) = arI κ 3 nm := by rw [ze16]; rw [va_up_ne _ _ (show o + 5 ≠ o by omega)]; exact zK12
    have hfo := zf19
    have hwk : wkE (sh (upd d 14 0) 280) nt nm = wkE (sh d 280) nt nm := by rw [sh_upd (by omega)]
    refine z_istore_n (ls' := [(3, .int ((wkE (sh (upd d 14 0) 280) nt nm).1)), (2, .int (nI nt)), (0, .ref o), (1, .int (nI uk))]) X dX12_text_40 (by decide) rfl ?_
    refine z_aload_n X 2 dX12_text_41 rfl ?_
    refine z_get X fl_X12_113_12 dX12_text_42 zK21 rfl ?_
    refine z_if_lt X 56 dX12_text_45 (by decide) (fun zc25 => ?_) (fun zc25 => ?_)
    · replace zc25 := (faI_lt hfo).mp zc25
      have hsm : (wkE (sh d 280) nt nm).2 = none := by rw [← hwk]; exact zc25
      refine z_aload_n X 2 dX12_text_56 rfl ?_
      refine z_get X fl_X12_7_12 dX12_text_57 zK21 rfl ?_
      refine z_bipush (v := 60) X dX12_text_60 (by decide) ?_
      refine z_iload_n X 3 dX12_text_62 rfl ?_
      refine z_iadd X dX12_text_63 ?_
      refine z_toe (y := nI (60 + uk)) (nI_add (60) (uk)) ?_
      refine z_iload_n X 1 dX12_text_64 rfl ?_
      refine z_iast X dX12_text_65 zK23 (vp_in_nI (n := 60 + uk) (by omega) (by omega)) (congrArg (fun z => va_up zh15 (o + 1) (arI κ 340 (upd (upd d 14 0) z (nI nt)))) (nI_clamp (n := 60 + uk) (by omega))) ?_
      obtain ⟨zh26, ze27⟩ : ∃ z : Mm, z = va_up zh15 (o + 1) (arI κ 340 (upd (upd d 14 0) (60 + uk) (nI nt))) := ⟨_, rfl⟩
      refine z_heap (h' := zh26) ze27.symm ?_
      have zK28 := up_off ze27 (show o ≠ o + 1 by omega) zK21
      have zK29 := up_off ze27 (show o + 4 ≠ o + 1 by omega) zK22
      have zK30 := up_at ze27
      have zK31 := up_off ze27 (show o + 5 ≠ o + 1 by omega) zK24
      refine z_iconst (v := 0) X dX12_text_66 (by decide) ?_
      refine z_istore (ls' := [(4, .int 0), (3, .int ((wkE (sh (upd d 14 0) 280) nt nm).1)), (2, .int (nI nt)), (0, .ref o), (1, .int (nI uk))]) X dX12_text_67 (by decide) rfl ?_
      have L69 : ∀ (jj : Nat) (hh69 : Mm)  (k : Nat) (d3 : Nat → Int32), (nt - k < jj) → (hh69 = va_up zh26 (o + 1) (arI κ 340 d3)) → (hk : k ≤ nt) → (hd : ∀ q, d3 q = if 180 + 50 * uk ≤ q ∧ q < 180 + 50 * uk + k then d (280 + (q - (180 + 50 * uk))) else upd (upd d 14 0) (60 + uk) (nI nt) q) → Z κ G 5 69 [(0, .ref o), (1, .int (nI uk)), (2, .int (nI nt)), (4, .int (nI k))] [] hh69 n 0 (0) := by
        intro jj
        induction jj with
        | zero => intro hh69 k d3 hmu; exact absurd hmu (Nat.not_lt_zero _)
        | succ jj ih69 =>
          intro hh69 k d3 hmu he69 hk hd
          have zK32 : hh69 o = some (.inr (12, [.ref (o + 1), .ref (o + 2), .ref (o + 3), .int im, .ref (o + 4), .int (nI 280), .int at'13, .int (nI nt), .int (faI (wkE (sh (upd d 14 0) 280) nt nm).2), .int op'14, .ref (o + 5), .ref (o + 6), .int rm, .ref (o + 7), .ref (o + 8), .int ti, .ref (o + 9), .int tm, .int wh, .ref (o + 10), .ref (o + 11), .ref (o + 12), .ref (o + 13)])) := by rw [he69]; rw [va_up_ne _ _ (show o ≠ o + 1 by omega)]; exact zK28
          have zK33 : hh69 (o + 4) = arI κ 6 fo := by rw [he69]; rw [va_up_ne _ _ (show o + 4 ≠ o + 1 by omega)]; exact zK29
          have zK34 : hh69 (o + 1) = arI κ 340 d3 := by rw [he69]; exact va_up_self _ _ _
          have zK35 : hh69 (o + 5) = arI κ 3 nm := by rw [he69]; rw [va_up_ne _ _ (show o + 5 ≠ o + 1 by omega)]; exact zK31
          refine z_iload X 3 dX12_text_69 rfl ?_
          refine z_iload_n X 2 dX12_text_71 rfl ?_
          refine z_icmp_ge X 108 dX12_text_72 (by decide) (fun zc36 => ?_) (fun zc36 => ?_)
          · try replace zc36 := (nI_leI (a := nt) (b := k) (by omega) (by omega)).mp zc36
            refine z_iconst (v := 1) X dX12_text_108 (by decide) ?_
            refine z_ext (g := dTxt d nt uk) zK34 (fun z hz => (by rw [hd z, show k = nt by omega]; rfl)) ?_
            obtain ⟨zh37, ze38⟩ : ∃ z : Mm, z = va_up hh69 (o + 1) (arI κ 340 (dTxt d nt uk)) := ⟨_, rfl⟩
            refine z_heap (h' := zh37) ze38.symm ?_
            have zK39 := up_off ze38 (show o ≠ o + 1 by omega) zK32
            have zK40 := up_off ze38 (show o + 4 ≠ o + 1 by omega) zK33
            have zK41 := up_at ze38
            have zK42 := up_off ze38 (show o + 5 ≠ o + 1 by omega) zK35
            refine z_iret X E dX12_text_109 (by omega) (by omega) ⟨(nI 280), at'13, (nI nt), (faI (wkE (sh (upd d 14 0) 280) nt nm).2), op'14, nm, ?_, ?_, ?_⟩
            · rw [opText_n huk hsm]; first | done | rfl
            · rw [opText_n huk hsm, dText_n huk hsm, bump_0]; funext zz; by_cases zq3 : zz = o + 4; (rw [zq3, va_up_self]; exact zK40); by_cases zq2 : zz = o + 1; (rw [zq2, va_up_ne _ _ (show o + 1 ≠ o + 4 by omega), va_up_self]; exact zK41); by_cases zq1 : zz = o + 5; (rw [zq1, va_up_ne _ _ (show o + 5 ≠ o + 4 by omega), va_up_ne _ _ (show o + 5 ≠ o + 1 by omega), va_up_self]; exact zK42); by_cases zq0 : zz = o; (rw [zq0, va_up_ne _ _ (show o ≠ o + 4 by omega), va_up_ne _ _ (show o ≠ o + 1 by omega), va_up_ne _ _ (show o ≠ o + 5 by omega), va_up_self]; exact zK39); rw [va_up_ne _ _ zq3, va_up_ne _ _ zq2, va_up_ne _ _ zq1, va_up_ne _ _ zq0]; rw [ze38, he69, ze27, ze16, ze8]; simp only [va_up, if_neg zq0, if_neg zq1, if_neg zq2, if_neg zq3]
            · rfl
          · try replace zc36 := mt (nI_leI (a := nt) (b := k) (by omega) (by omega)).mpr zc36
            refine z_aload_n X 0 dX12_text_75 rfl ?_
            refine z_get X fl_X12_7_12 dX12_text_76 zK32 rfl ?_
            refine z_sipush (v := 180) X dX12_text_79 (by decide) ?_
            refine z_bipush (v := 50) X dX12_text_82 (by decide) ?_
            refine z_iload_n X 1 dX12_text_84 rfl ?_
            refine z_imul X dX12_text_85 ?_
            refine z_toe (y := nI (50 * uk)) (pk_mul (50) (uk)) ?_
            refine z_iadd X dX12_text_86 ?_
            refine z_toe (y := nI (180 + (50 * uk))) (nI_add (180) (50 * uk)) ?_
            refine z_iload X 3 dX12_text_87 rfl ?_
            refine z_iadd X dX12_text_89 ?_
            refine z_toe (y := nI ((180 + (50 * uk)) + k)) (nI_add (180 + (50 * uk)) (k)) ?_
            refine z_aload_n X 0 dX12_text_90 rfl ?_
            refine z_get X fl_X12_7_12 dX12_text_91 zK32 rfl ?_
            refine z_sipush (v := 280) X dX12_text_94 (by decide) ?_
            refine z_iload X 3 dX12_text_97 rfl ?_
            refine z_iadd X dX12_text_99 ?_
            refine z_toe (y := nI (280 + k)) (nI_add (280) (k)) ?_
            refine z_iald2 (v := d3 (280 + k)) X dX12_text_100 zK34 (vp_in_nI (n := 280 + k) (by omega) (by omega)) (congrArg d3 (nI_clamp (n := 280 + k) (by omega))) ?_
            refine z_toe (y := d (280 + k)) (by (rw [hd (280 + k), if_neg (by omega)]; exact (pk_un (by omega)).trans (pk_un (by omega)))) ?_
            refine z_iast X dX12_text_101 zK34 (vp_in_nI (n := (180 + (50 * uk)) + k) (by omega) (by omega)) (congrArg (fun z => va_up hh69 (o + 1) (arI κ 340 (upd d3 z (d (280 + k))))) (nI_clamp (n := (180 + (50 * uk)) + k) (by omega))) ?_
            obtain ⟨zh43, ze44⟩ : ∃ z : Mm, z = va_up hh69 (o + 1) (arI κ 340 (upd d3 ((180 + (50 * uk)) + k) (d (280 + k)))) := ⟨_, rfl⟩
            refine z_heap (h' := zh43) ze44.symm ?_
            have zK45 := up_off ze44 (show o ≠ o + 1 by omega) zK32
            have zK46 := up_off ze44 (show o + 4 ≠ o + 1 by omega) zK33
            have zK47 := up_at ze44
            have zK48 := up_off ze44 (show o + 5 ≠ o + 1 by omega) zK35
            refine z_iinc (v := nI (k + 1)) (ls' := [(4, .int (nI (k + 1))), (0, .ref o), (1, .int (nI uk)), (2, .int (nI nt))]) X 3 dX12_text_102 rfl (nI_1 (k)) (by decide) rfl ?_
            refine z_goto X 69 dX12_text_105 (by decide) ?_
            refine z_sub (ls' := [(0, .ref o), (1, .int (nI uk)), (2, .int (nI nt)), (4, .int (nI (k + 1)))]) [1, 2, 3, 0] rfl ?_
            exact ih69 _ (k + 1) (upd d3 ((180 + (50 * uk)) + k) (d (280 + k))) (by omega) (by rw [ze44, he69, up_up]) (by first | assumption | rfl | omega) (by intro q; by_cases hq : q = 180 + 50 * uk + k; (rw [hq, if_pos (by omega), show 180 + 50 * uk + k - (180 + 50 * uk) = k by omega]; exact pk_us); refine (pk_un hq).trans ?_; rw [hd q]; by_cases hr : 180 + 50 * uk ≤ q ∧ q < 180 + 50 * uk + k; (rw [if_pos hr, if_pos (show 180 + 50 * uk ≤ q ∧ q < 180 + 50 * uk + (k + 1) by omega)]); rw [if_neg hr, if_neg (show ¬ (180 + 50 * uk ≤ q ∧ q < 180 + 50 * uk + (k + 1)) by omega)])
      refine z_sub (ls' := [(0, .ref o), (1, .int (nI uk)), (2, .int (nI nt)), (4, .int 0)]) [3, 4, 2, 0] rfl ?_
      exact L69 _ _ 0 (upd (upd d 14 0) (60 + uk) (nI nt)) (Nat.lt_succ_self _) (by exact (up_same _ _ zK30).symm) (by first | assumption | rfl | omega) (by intro q; exact dTxt_z q)
    · replace zc25 := (faI_ge hfo).mp (Int32.not_lt.mp zc25)
      obtain ⟨fp, hfp⟩ := Option.ne_none_iff_exists'.mp zc25
      have hsm : (wkE (sh d 280) nt nm).2 = some fp := by rw [← hwk]; exact hfp
      refine z_bipush (v := -10) X dX12_text_48 (by decide) ?_
      refine z_aload_n X 2 dX12_text_50 rfl ?_
      refine z_get X fl_X12_113_12 dX12_text_51 zK21 rfl ?_
      refine z_isub X dX12_text_54 ?_
      refine z_toe (y := -10 - nI fp) (by rw [hfp]; rfl) ?_
      refine z_iret X E dX12_text_55 (by omega) (by omega) ⟨(nI 280), at'13, (nI nt), (faI (wkE (sh (upd d 14 0) 280) nt nm).2), op'14, nm, ?_, ?_, ?_⟩
      · rw [opText_s huk hsm]; first | done | rfl
      · rw [opText_s huk hsm, dText_s huk hsm, bump_0]; funext zz; by_cases zq3 : zz = o + 4; (rw [zq3, va_up_self]; exact zK22); by_cases zq2 : zz = o + 1; (rw [zq2, va_up_ne _ _ (show o + 1 ≠ o + 4 by omega), va_up_self]; exact zK23); by_cases zq1 : zz = o + 5; (rw [zq1, va_up_ne _ _ (show o + 5 ≠ o + 4 by omega), va_up_ne _ _ (show o + 5 ≠ o + 1 by omega), va_up_self]; exact zK24); by_cases zq0 : zz = o; (rw [zq0, va_up_ne _ _ (show o ≠ o + 4 by omega), va_up_ne _ _ (show o ≠ o + 1 by omega), va_up_ne _ _ (show o ≠ o + 5 by omega), va_up_self]; exact zK21); rw [va_up_ne _ _ zq3, va_up_ne _ _ zq2, va_up_ne _ _ zq1, va_up_ne _ _ zq0]; rw [ze16, ze8]; simp only [va_up, if_neg zq0, if_neg zq1, if_neg zq2, if_neg zq3]
      · rfl
  · replace zc6 := b2i_f zc6
    refine z_aload_n X 0 dX12_text_10 rfl ?_
    refine z_iconst (v := 1) X dX12_text_11 (by decide) ?_
    refine z_callV X (r_finds (κ := κ) (n := n) (o := (o)) (k := (1)) (fo := (fo)) (im := (im)) (ba := (ba)) (at_ := (at_)) (sz := (sz)) (fa := (fa)) (op := (op)) (rm := (rm)) (ti := (ti)) (tm := (tm)) (wh := (wh)) K0 K1 (by first | assumption | omega) (by first | assumption | omega)) mk_X12_finds dX12_text_12 wd_1018 wd_1020 wd_24 rfl K0 rfl rfl rfl (Nat.le_of_ble_eq_true rfl) (Nat.le_of_ble_eq_true rfl) (Nat.le_of_ble_eq_true rfl) (by omega) (by omega) (fun q zh49 zm51 zp52 => ?_)
    obtain ⟨rfl, ze50, zn53⟩ := zp52
    subst zm51
    refine z_st (st' := [.int (lowE 1)]) rfl ?_
    have zK54 : zh49 o = some (.inr (12, [.ref (o + 1), .ref (o + 2), .ref (o + 3), .int im, .ref (o + 4), .int ba, .int at_, .int sz, .int fa, .int op, .ref (o + 5), .ref (o + 6), .int rm, .ref (o + 7), .ref (o + 8), .int ti, .ref (o + 9), .int tm, .int wh, .ref (o + 10), .ref (o + 11), .ref (o + 12), .ref (o + 13)])) := by rw [ze50]; rw [va_up_ne _ _ (show o ≠ o + 4 by omega)]; exact K0
    have zK55 : zh49 (o + 4) = arI κ 6 (bmp fo 1) := by rw [ze50]; exact va_up_self _ _ _
    have zK56 : zh49 (o + 1) = arI κ 340 d := by rw [ze50]; rw [va_up_ne _ _ (show o + 1 ≠ o + 4 by omega)]; exact K2
    have zK57 : zh49 (o + 5) = arI κ 3 nm := by rw [ze50]; rw [va_up_ne _ _ (show o + 5 ≠ o + 4 by omega)]; exact K3
    refine z_iret X E dX12_text_15 (by omega) (by omega) ⟨ba, at_, sz, fa, op, nm, ?_, ?_, ?_⟩
    · unfold opText; rw [if_pos (by assumption)]; rfl
    · unfold opText dText; rw [if_pos (by assumption), if_pos (by assumption)]; funext zz; by_cases zq3 : zz = o + 4; (rw [zq3, va_up_self]; exact zK55); by_cases zq2 : zz = o + 1; (rw [zq2, va_up_ne _ _ (show o + 1 ≠ o + 4 by omega), va_up_self]; exact zK56); by_cases zq1 : zz = o + 5; (rw [zq1, va_up_ne _ _ (show o + 5 ≠ o + 4 by omega), va_up_ne _ _ (show o + 5 ≠ o + 1 by omega), va_up_self]; exact zK57); by_cases zq0 : zz = o; (rw [zq0, va_up_ne _ _ (show o ≠ o + 4 by omega), va_up_ne _ _ (show o ≠ o + 1 by omega), va_up_ne _ _ (show o ≠ o + 5 by omega), va_up_self]; exact zK54); rw [va_up_ne _ _ zq3, va_up_ne _ _ zq2, va_up_ne _ _ zq1, va_up_ne _ _ zq0]; rw [ze50]; simp only [va_up, if_neg zq0, if_neg zq1, if_neg zq2, if_neg zq3]
    · rfl
