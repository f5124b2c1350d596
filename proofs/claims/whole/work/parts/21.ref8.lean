def opPut (bi : Nat → Int32) (ss : Nat → Nat) (s i : Int32) : Nat × Int32 := if ¬ (0 ≤ s.toInt ∧ s.toInt ≤ 3) then (1, 0) else if (bi s.toNatClampNeg).toInt = 0 then (2, 0) else if ¬ (0 ≤ i.toInt ∧ i.toInt ≤ ((ss s.toNatClampNeg : Nat) : Int) - 1) then (1, 0) else (0, 1)
def nuPut (bi : Nat → Int32) (ss : Nat → Nat) (nu : Nat → Int32) (s i v : Int32) : Nat → Int32 := if ¬ (0 ≤ s.toInt ∧ s.toInt ≤ 3) then nu else if (bi s.toNatClampNeg).toInt = 0 then nu else if ¬ (0 ≤ i.toInt ∧ i.toInt ≤ ((ss s.toNatClampNeg : Nat) : Int) - 1) then nu else upd nu (40 * s.toNatClampNeg + i.toNatClampNeg) (narB (bi s.toNatClampNeg) v)
set_option maxHeartbeats 4000000 in
set_option maxRecDepth 100000 in
theorem r_put {κ : Wc} {l : Launch} {h : Mm} {n : Nat} {o : Nat} {fo : Nat → Int32} {bi : Nat → Int32} {si : Nat → Int32} {nu : Nat → Int32} {ss : Nat → Nat} {im : Int32} {ba : Int32} {at_ : Int32} {sz : Int32} {fa : Int32} {op : Int32} {rm : Int32} {ti : Int32} {tm : Int32} {wh : Int32} {s : Int32} {i : Int32} {v : Int32} (K0 : h o = some (.inr (12, [.ref (o + 1), .ref (o + 2), .ref (o + 3), .int im, .ref (o + 4), .int ba, .int at_, .int sz, .int fa, .int op, .ref (o + 5), .ref (o + 6), .int rm, .ref (o + 7), .ref (o + 8), .int ti, .ref (o + 9), .int tm, .int wh, .ref (o + 10), .ref (o + 11), .ref (o + 12), .ref (o + 13)]))) (K1 : h (o + 4) = arI κ 6 fo) (K2 : h (o + 10) = arI κ 4 bi) (K3 : h (o + 11) = arI κ 4 si) (K4 : h (o + 12) = arI κ 160 nu) (p1 : ∀ k, k < 4 → si k = nI (ss k) ∧ ss k ≤ 40) : Con κ l yX12_put cX12_put 4 (some .int) 3 0 0 [.ref o, .int s, .int i, .int v] h n (fun q h' n' => q = some (.int (ansOf (opPut bi ss s i))) ∧ h' = va_up (va_up h (o + 12) (arI κ 160 (nuPut bi ss nu s i v))) (o + 4) (arI κ 6 (bump (opPut bi ss s i) fo)) ∧ n' = n) := by
  refine Con.of mk_X12_put (Nat.le_of_ble_eq_true rfl) (fun G hG X E => ?_)
  subst hG
  refine z_ls (ls' := [(0, .ref o), (1, .int s), (2, .int i), (3, .int v)]) rfl ?_
  refine z_iload_n X 1 dX12_put_0 rfl ?_
  refine z_callS X (r_isSheet (κ := κ) (n := n) (v := (s))  ) mk_X12_isSheet dX12_put_1 wd_1036 wd_1037 rfl rfl (Nat.le_of_ble_eq_true rfl) (Nat.le_of_ble_eq_true rfl) (Nat.le_of_ble_eq_true rfl) (by omega) (by omega) (fun q zh1 zm3 zp4 => ?_)
  obtain ⟨rfl, ze2, zn5⟩ := zp4
  subst zm3
  subst zh1
  refine z_st (st' := [.int (b2i (0 ≤ (s : Int32).toInt ∧ (s : Int32).toInt ≤ 3))]) rfl ?_
  refine z_if_ne X 13 dX12_put_4 (by decide) (fun zc6 => ?_) (fun zc6 => ?_)
  · replace zc6 := b2i_t zc6
    obtain ⟨sk, hsk, rfl⟩ := ix_of (c := s) (len := 4) (by omega) (by omega)
    have hss := (p1 sk hsk).2
    refine z_aload_n X 0 dX12_put_13 rfl ?_
    refine z_get X fl_X12_37_12 dX12_put_14 K0 rfl ?_
    refine z_iload_n X 1 dX12_put_17 rfl ?_
    refine z_iald2 (v := bi sk) X dX12_put_18 K2 (vp_in_nI (n := sk) (by omega) (by omega)) (congrArg bi (nI_clamp (n := sk) (by omega))) ?_
    refine z_if_ne X 28 dX12_put_19 (by decide) (fun zc7 => ?_) (fun zc7 => ?_)
    · refine z_iload_n X 2 dX12_put_28 rfl ?_
      refine z_i2l X dX12_put_29 rfl ?_
      refine z_lconst (v := 0) X dX12_put_30 (by decide) ?_
      refine z_aload_n X 0 dX12_put_31 rfl ?_
      refine z_get X fl_X12_40_12 dX12_put_32 K0 rfl ?_
      refine z_iload_n X 1 dX12_put_35 rfl ?_
      refine z_iald2 (v := si sk) X dX12_put_36 K3 (vp_in_nI (n := sk) (by omega) (by omega)) (congrArg si (nI_clamp (n := sk) (by omega))) ?_
      refine z_toe (y := nI (ss sk)) ((p1 sk hsk).1) ?_
      refine z_iconst (v := 1) X dX12_put_37 (by decide) ?_
      refine z_isub X dX12_put_38 ?_
      refine z_i2l X dX12_put_39 rfl ?_
      refine z_callS X (r_in (κ := κ) (n := n) (v := (i.toInt64)) (lo := (0 : Int64)) (hi := (((nI (ss sk)) - 1).toInt64))  ) mk_X12_in dX12_put_40 wd_1014 wd_1015 rfl rfl (Nat.le_of_ble_eq_true rfl) (Nat.le_of_ble_eq_true rfl) (Nat.le_of_ble_eq_true rfl) (by omega) (by omega) (fun q zh8 zm10 zp11 => ?_)
      obtain ⟨rfl, ze9, zn12⟩ := zp11
      subst zm10
      subst zh8
      refine z_st (st' := [.int (b2i ((0 : Int64).toInt ≤ (i.toInt64 : Int64).toInt ∧ (i.toInt64 : Int64).toInt ≤ (((nI (ss sk)) - 1).toInt64 : Int64).toInt))]) rfl ?_
      refine z_toe (y := b2i (0 ≤ i.toInt ∧ i.toInt ≤ ((ss sk : Nat) : Int) - 1)) (by simp only [Int32.toInt_toInt64, i_m1 (n := ss sk) (by omega), show (0 : Int64).toInt = 0 by decide]) ?_
      refine z_if_ne X 52 dX12_put_43 (by decide) (fun zc13 => ?_) (fun zc13 => ?_)
      · replace zc13 := b2i_t zc13
        obtain ⟨ik, hik, rfl⟩ := ix_of (c := i) (len := ss sk) (by omega) (by omega)
        refine z_aload_n X 0 dX12_put_52 rfl ?_
        refine z_get X fl_X12_43_12 dX12_put_53 K0 rfl ?_
        refine z_bipush (v := 40) X dX12_put_56 (by decide) ?_
        refine z_iload_n X 1 dX12_put_58 rfl ?_
        refine z_imul X dX12_put_59 ?_
        refine z_toe (y := nI (40 * sk)) (pk_mul (40) (sk)) ?_
        refine z_iload_n X 2 dX12_put_60 rfl ?_
        refine z_iadd X dX12_put_61 ?_
        refine z_toe (y := nI ((40 * sk) + ik)) (nI_add (40 * sk) (ik)) ?_
        refine z_aload_n X 0 dX12_put_62 rfl ?_
        refine z_get X fl_X12_37_12 dX12_put_63 K0 rfl ?_
        refine z_iload_n X 1 dX12_put_66 rfl ?_
        refine z_iald2 (v := bi sk) X dX12_put_67 K2 (vp_in_nI (n := sk) (by omega) (by omega)) (congrArg bi (nI_clamp (n := sk) (by omega))) ?_
        refine z_bipush (v := 8) X dX12_put_68 (by decide) ?_
        refine z_icmp_ne X 78 dX12_put_70 (by decide) (fun zc14 => ?_) (fun zc14 => ?_)
        · refine z_aload_n X 0 dX12_put_78 rfl ?_
          refine z_get X fl_X12_37_12 dX12_put_79 K0 rfl ?_
          refine z_iload_n X 1 dX12_put_82 rfl ?_
          refine z_iald2 (v := bi sk) X dX12_put_83 K2 (vp_in_nI (n := sk) (by omega) (by omega)) (congrArg bi (nI_clamp (n := sk) (by omega))) ?_
          refine z_bipush (v := 16) X dX12_put_84 (by decide) ?_
          refine z_icmp_ne X 94 dX12_put_86 (by decide) (fun zc15 => ?_) (fun zc15 => ?_)
          · refine z_iload_n X 3 dX12_put_94 rfl ?_
            refine z_iast X dX12_put_95 K4 (vp_in_nI (n := (40 * sk) + ik) (by omega) (by omega)) (congrArg (fun z => va_up h (o + 12) (arI κ 160 (upd nu z v))) (nI_clamp (n := (40 * sk) + ik) (by omega))) ?_
            obtain ⟨zh16, ze17⟩ : ∃ z : Mm, z = va_up h (o + 12) (arI κ 160 (upd nu ((40 * sk) + ik) v)) := ⟨_, rfl⟩
            refine z_heap (h' := zh16) ze17.symm ?_
            have zK18 := up_off ze17 (show o ≠ o + 12 by omega) K0
            have zK19 := up_off ze17 (show o + 4 ≠ o + 12 by omega) K1
            have zK20 := up_off ze17 (show o + 10 ≠ o + 12 by omega) K2
            have zK21 := up_off ze17 (show o + 11 ≠ o + 12 by omega) K3
            have zK22 := up_at ze17
            refine z_iconst (v := 1) X dX12_put_96 (by decide) ?_
            refine z_iret X E dX12_put_97 (by omega) (by omega) ⟨?_, ?_, ?_⟩
            · generalize hz : opPut bi ss (nI sk) (nI ik) = z; unfold opPut at hz; (try simp only [i_nI (n := sk) (by omega), nI_clamp (n := sk) (by omega), i_nI (n := ik) (by omega), nI_clamp (n := ik) (by omega),  i_eq, i_lt, i_le, show (-1 : Int32).toInt = -1 by decide, show (0 : Int32).toInt = 0 by decide, show (1 : Int32).toInt = 1 by decide, show (2 : Int32).toInt = 2 by decide, show (3 : Int32).toInt = 3 by decide, show (4 : Int32).toInt = 4 by decide, show (5 : Int32).toInt = 5 by decide, show (6 : Int32).toInt = 6 by decide, show (7 : Int32).toInt = 7 by decide, show (8 : Int32).toInt = 8 by decide, show (9 : Int32).toInt = 9 by decide, show (10 : Int32).toInt = 10 by decide, show (11 : Int32).toInt = 11 by decide, show (12 : Int32).toInt = 12 by decide, show (13 : Int32).toInt = 13 by decide, show (14 : Int32).toInt = 14 by decide, show (15 : Int32).toInt = 15 by decide, show (16 : Int32).toInt = 16 by decide, show (20 : Int32).toInt = 20 by decide, show (39 : Int32).toInt = 39 by decide, show (40 : Int32).toInt = 40 by decide, show (50 : Int32).toInt = 50 by decide, show (60 : Int32).toInt = 60 by decide, show (99 : Int32).toInt = 99 by decide, show (100 : Int32).toInt = 100 by decide, show (999 : Int32).toInt = 999 by decide, show (9999 : Int32).toInt = 9999 by decide, show (99999 : Int32).toInt = 99999 by decide, show (999999 : Int32).toInt = 999999 by decide, show (9999999 : Int32).toInt = 9999999 by decide, show (-50 : Int32).toInt = -50 by decide, show (32 : Int32).toInt = 32 by decide] at *); (repeat first | rw [if_pos (by omega)] at hz | rw [if_neg (by omega)] at hz); subst hz; rfl
            · generalize hz : opPut bi ss (nI sk) (nI ik) = z; unfold opPut at hz; (try simp only [i_nI (n := sk) (by omega), nI_clamp (n := sk) (by omega), i_nI (n := ik) (by omega), nI_clamp (n := ik) (by omega),  i_eq, i_lt, i_le, show (-1 : Int32).toInt = -1 by decide, show (0 : Int32).toInt = 0 by decide, show (1 : Int32).toInt = 1 by decide, show (2 : Int32).toInt = 2 by decide, show (3 : Int32).toInt = 3 by decide, show (4 : Int32).toInt = 4 by decide, show (5 : Int32).toInt = 5 by decide, show (6 : Int32).toInt = 6 by decide, show (7 : Int32).toInt = 7 by decide, show (8 : Int32).toInt = 8 by decide, show (9 : Int32).toInt = 9 by decide, show (10 : Int32).toInt = 10 by decide, show (11 : Int32).toInt = 11 by decide, show (12 : Int32).toInt = 12 by decide, show (13 : Int32).toInt = 13 by decide, show (14 : Int32).toInt = 14 by decide, show (15 : Int32).toInt = 15 by decide, show (16 : Int32).toInt = 16 by decide, show (20 : Int32).toInt = 20 by decide, show (39 : Int32).toInt = 39 by decide, show (40 : Int32).toInt = 40 by decide, show (50 : Int32).toInt = 50 by decide, show (60 : Int32).toInt = 60 by decide, show (99 : Int32).toInt = 99 by decide, show (100 : Int32).toInt = 100 by decide, show (999 : Int32).toInt = 999 by decide, show (9999 : Int32).toInt = 9999 by decide, show (99999 : Int32).toInt = 99999 by decide, show (999999 : Int32).toInt = 999999 by decide, show (9999999 : Int32).toInt = 9999999 by decide, show (-50 : Int32).toInt = -50 by decide, show (32 : Int32).toInt = 32 by decide] at *); (repeat first | rw [if_pos (by omega)] at hz | rw [if_neg (by omega)] at hz); subst hz; unfold nuPut narB; (try simp only [i_nI (n := sk) (by omega), nI_clamp (n := sk) (by omega), i_nI (n := ik) (by omega), nI_clamp (n := ik) (by omega),  i_eq]); (repeat first | rw [if_pos (by omega)] | rw [if_neg (by omega)]); rw [ze17]; (first | rfl | (funext zz; simp only [va_up, bump, ↓reduceIte]; (repeat' split) <;> first | rfl | (exfalso; omega) | (simp_all; done)))
            · rfl
          · refine z_iload_n X 3 dX12_put_89 rfl ?_
            refine z_i2s X dX12_put_90 rfl ?_
            refine z_goto X 95 dX12_put_91 (by decide) ?_
            refine z_iast X dX12_put_95 K4 (vp_in_nI (n := (40 * sk) + ik) (by omega) (by omega)) (congrArg (fun z => va_up h (o + 12) (arI κ 160 (upd nu z v.toInt16.toInt32))) (nI_clamp (n := (40 * sk) + ik) (by omega))) ?_
            obtain ⟨zh23, ze24⟩ : ∃ z : Mm, z = va_up h (o + 12) (arI κ 160 (upd nu ((40 * sk) + ik) v.toInt16.toInt32)) := ⟨_, rfl⟩
            refine z_heap (h' := zh23) ze24.symm ?_
            have zK25 := up_off ze24 (show o ≠ o + 12 by omega) K0
            have zK26 := up_off ze24 (show o + 4 ≠ o + 12 by omega) K1
            have zK27 := up_off ze24 (show o + 10 ≠ o + 12 by omega) K2
            have zK28 := up_off ze24 (show o + 11 ≠ o + 12 by omega) K3
            have zK29 := up_at ze24
            refine z_iconst (v := 1) X dX12_put_96 (by decide) ?_
            refine z_iret X E dX12_put_97 (by omega) (by omega) ⟨?_, ?_, ?_⟩
            · generalize hz : opPut bi ss (nI sk) (nI ik) = z; unfold opPut at hz; (try simp only [i_nI (n := sk) (by omega), nI_clamp (n := sk) (by omega), i_nI (n := ik) (by omega), nI_clamp (n := ik) (by omega),  i_eq, i_lt, i_le, show (-1 : Int32).toInt = -1 by decide, show (0 : Int32).toInt = 0 by decide, show (1 : Int32).toInt = 1 by decide, show (2 : Int32).toInt = 2 by decide, show (3 : Int32).toInt = 3 by decide, show (4 : Int32).toInt = 4 by decide, show (5 : Int32).toInt = 5 by decide, show (6 : Int32).toInt = 6 by decide, show (7 : Int32).toInt = 7 by decide, show (8 : Int32).toInt = 8 by decide, show (9 : Int32).toInt = 9 by decide, show (10 : Int32).toInt = 10 by decide, show (11 : Int32).toInt = 11 by decide, show (12 : Int32).toInt = 12 by decide, show (13 : Int32).toInt = 13 by decide, show (14 : Int32).toInt = 14 by decide, show (15 : Int32).toInt = 15 by decide, show (16 : Int32).toInt = 16 by decide, show (20 : Int32).toInt = 20 by decide, show (39 : Int32).toInt = 39 by decide, show (40 : Int32).toInt = 40 by decide, show (50 : Int32).toInt = 50 by decide, show (60 : Int32).toInt = 60 by decide, show (99 : Int32).toInt = 99 by decide, show (100 : Int32).toInt = 100 by decide, show (999 : Int32).toInt = 999 by decide, show (9999 : Int32).toInt = 9999 by decide, show (99999 : Int32).toInt = 99999 by decide, show (999999 : Int32).toInt = 999999 by decide, show (9999999 : Int32).toInt = 9999999 by decide, show (-50 : Int32).toInt = -50 by decide, show (32 : Int32).toInt = 32 by decide] at *); (repeat first | rw [if_pos (by omega)] at hz | rw [if_neg (by omega)] at hz); subst hz; rfl
            · generalize hz : opPut bi ss (nI sk) (nI ik) = z; unfold opPut at hz; (try simp only [i_nI (n := sk) (by omega), nI_clamp (n := sk) (by omega), i_nI (n := ik) (by omega), nI_clamp (n := ik) (by omega),  i_eq, i_lt, i_le, show (-1 : Int32).toInt = -1 by decide, show (0 : Int32).toInt = 0 by decide, show (1 : Int32).toInt = 1 by decide, show (2 : Int32).toInt = 2 by decide, show (3 : Int32).toInt = 3 by decide, show (4 : Int32).toInt = 4 by decide, show (5 : Int32).toInt = 5 by decide, show (6 : Int32).toInt = 6 by decide, show (7 : Int32).toInt = 7 by decide, show (8 : Int32).toInt = 8 by decide, show (9 : Int32).toInt = 9 by decide, show (10 : Int32).toInt = 10 by decide, show (11 : Int32).toInt = 11 by decide, show (12 : Int32).toInt = 12 by decide, show (13 : Int32).toInt = 13 by decide, show (14 : Int32).toInt = 14 by decide, show (15 : Int32).toInt = 15 by decide, show (16 : Int32).toInt = 16 by decide, show (20 : Int32).toInt = 20 by decide, show (39 : Int32).toInt = 39 by decide, show (40 : Int32).toInt = 40 by decide, show (50 : Int32).toInt = 50 by decide, show (60 : Int32).toInt = 60 by decide, show (99 : Int32).toInt = 99 by decide, show (100 : Int32).toInt = 100 by decide, show (999 : Int32).toInt = 999 by decide, show (9999 : Int32).toInt = 9999 by decide, show (99999 : Int32).toInt = 99999 by decide, show (999999 : Int32).toInt = 999999 by decide, show (9999999 : Int32).toInt = 9999999 by decide, show (-50 : Int32).toInt = -50 by decide, show (32 : Int32).toInt = 32 by decide] at *); (repeat first | rw [if_pos (by omega)] at hz | rw [if_neg (by omega)] at hz); subst hz; unfold nuPut narB; (try simp only [i_nI (n := sk) (by omega), nI_clamp (n := sk) (by omega), i_nI (n := ik) (by omega), nI_clamp (n := ik) (by omega),  i_eq]); (repeat first | rw [if_pos (by omega)] | rw [if_neg (by omega)]); rw [ze24]; (first | rfl | (funext zz; simp only [va_up, bump, ↓reduceIte]; (repeat' split) <;> first | rfl | (exfalso; omega) | (simp_all; done)))
            · rfl
        · refine z_iload_n X 3 dX12_put_73 rfl ?_
          refine z_i2b X dX12_put_74 rfl ?_
          refine z_goto X 95 dX12_put_75 (by decide) ?_
          refine z_iast X dX12_put_95 K4 (vp_in_nI (n := (40 * sk) + ik) (by omega) (by omega)) (congrArg (fun z => va_up h (o + 12) (arI κ 160 (upd nu z v.toInt8.toInt32))) (nI_clamp (n := (40 * sk) + ik) (by omega))) ?_
          obtain ⟨zh30, ze31⟩ : ∃ z : Mm, z = va_up h (o + 12) (arI κ 160 (upd nu ((40 * sk) + ik) v.toInt8.toInt32)) := ⟨_, rfl⟩
          refine z_heap (h' := zh30) ze31.symm ?_
          have zK32 := up_off ze31 (show o ≠ o + 12 by omega) K0
          have zK33 := up_off ze31 (show o + 4 ≠ o + 12 by omega) K1
          have zK34 := up_off ze31 (show o + 10 ≠ o + 12 by omega) K2
          have zK35 := up_off ze31 (show o + 11 ≠ o + 12 by omega) K3
          have zK36 := up_at ze31
          refine z_iconst (v := 1) X dX12_put_96 (by decide) ?_
          refine z_iret X E dX12_put_97 (by omega) (by omega) ⟨?_, ?_, ?_⟩
          · generalize hz : opPut bi ss (nI sk) (nI ik) = z; unfold opPut at hz; (try simp only [i_nI (n := sk) (by omega), nI_clamp (n := sk) (by omega), i_nI (n := ik) (by omega), nI_clamp (n := ik) (by omega),  i_eq, i_lt, i_le, show (-1 : Int32).toInt = -1 by decide, show (0 : Int32).toInt = 0 by decide, show (1 : Int32).toInt = 1 by decide, show (2 : Int32).toInt = 2 by decide, show (3 : Int32).toInt = 3 by decide, show (4 : Int32).toInt = 4 by decide, show (5 : Int32).toInt = 5 by decide, show (6 : Int32).toInt = 6 by decide, show (7 : Int32).toInt = 7 by decide, show (8 : Int32).toInt = 8 by decide, show (9 : Int32).toInt = 9 by decide, show (10 : Int32).toInt = 10 by decide, show (11 : Int32).toInt = 11 by decide, show (12 : Int32).toInt = 12 by decide, show (13 : Int32).toInt = 13 by decide, show (14 : Int32).toInt = 14 by decide, show (15 : Int32).toInt = 15 by decide, show (16 : Int32).toInt = 16 by decide, show (20 : Int32).toInt = 20 by decide, show (39 : Int32).toInt = 39 by decide, show (40 : Int32).toInt = 40 by decide, show (50 : Int32).toInt = 50 by decide, show (60 : Int32).toInt = 60 by decide, show (99 : Int32).toInt = 99 by decide, show (100 : Int32).toInt = 100 by decide, show (999 : Int32).toInt = 999 by decide, show (9999 : Int32).toInt = 9999 by decide, show (99999 : Int32).toInt = 99999 by decide, show (999999 : Int32).toInt = 999999 by decide, show (9999999 : Int32).toInt = 9999999 by decide, show (-50 : Int32).toInt = -50 by decide, show (32 : Int32).toInt = 32 by decide] at *); (repeat first | rw [if_pos (by omega)] at hz | rw [if_neg (by omega)] at hz); subst hz; rfl
          · generalize hz : opPut bi ss (nI sk) (nI ik) = z; unfold opPut at hz; (try simp only [i_nI (n := sk) (by omega), nI_clamp (n := sk) (by omega), i_nI (n := ik) (by omega), nI_clamp (n := ik) (by omega),  i_eq, i_lt, i_le, show (-1 : Int32).toInt = -1 by decide, show (0 : Int32).toInt = 0 by decide, show (1 : Int32).toInt = 1 by decide, show (2 : Int32).toInt = 2 by decide, show (3 : Int32).toInt = 3 by decide, show (4 : Int32).toInt = 4 by decide, show (5 : Int32).toInt = 5 by decide, show (6 : Int32).toInt = 6 by decide, show (7 : Int32).toInt = 7 by decide, show (8 : Int32).toInt = 8 by decide, show (9 : Int32).toInt = 9 by decide, show (10 : Int32).toInt = 10 by decide, show (11 : Int32).toInt = 11 by decide, show (12 : Int32).toInt = 12 by decide, show (13 : Int32).toInt = 13 by decide, show (14 : Int32).toInt = 14 by decide, show (15 : Int32).toInt = 15 by decide, show (16 : Int32).toInt = 16 by decide, show (20 : Int32).toInt = 20 by decide, show (39 : Int32).toInt = 39 by decide, show (40 : Int32).toInt = 40 by decide, show (50 : Int32).toInt = 50 by decide, show (60 : Int32).toInt = 60 by decide, show (99 : Int32).toInt = 99 by decide, show (100 : Int32).toInt = 100 by decide, show (999 : Int32).toInt = 999 by decide, show (9999 : Int32).toInt = 9999 by decide, show (99999 : Int32).toInt = 99999 by decide, show (999999 : Int32).toInt = 999999 by decide, show (9999999 : Int32).toInt = 9999999 by decide, show (-50 : Int32).toInt = -50 by decide, show (32 : Int32).toInt = 32 by decide] at *); (repeat first | rw [if_pos (by omega)] at hz | rw [if_neg (by omega)] at hz); subst hz; unfold nuPut narB; (try simp only [i_nI (n := sk) (by omega), nI_clamp (n := sk) (by omega), i_nI (n := ik) (by omega), nI_clamp (n := ik) (by omega),  i_eq]); (repeat first | rw [if_pos (by omega)] | rw [if_neg (by omega)]); rw [ze31]; (first | rfl | (funext zz; simp only [va_up, bump, ↓reduceIte]; (repeat' split) <;> first | rfl | (exfalso; omega) | (simp_all; done)))
          · rfl
      · replace zc13 := b2i_f zc13
        refine z_aload_n X 0 dX12_put_46 rfl ?_
        refine z_iconst (v := 1) X dX12_put_47 (by decide) ?_
        refine z_callV X (r_finds (κ := κ) (n := n) (o := (o)) (k := (1)) (fo := (fo)) (im := (im)) (ba := (ba)) (at_ := (at_)) (sz := (sz)) (fa := (fa)) (op := (op)) (rm := (rm)) (ti := (ti)) (tm := (tm)) (wh := (wh)) K0 K1 (by first | assumption | omega) (by first | assumption | omega)) mk_X12_finds dX12_put_48 wd_1018 wd_1020 wd_24 rfl K0 rfl rfl rfl (Nat.le_of_ble_eq_true rfl) (Nat.le_of_ble_eq_true rfl) (Nat.le_of_ble_eq_true rfl) (by omega) (by omega) (fun q zh37 zm39 zp40 => ?_)
        obtain ⟨rfl, ze38, zn41⟩ := zp40
        subst zm39
        refine z_st (st' := [.int (lowE 1)]) rfl ?_
        have zK42 : zh37 o = some (.inr (12, [.ref (o + 1), .ref (o + 2), .ref (o + 3), .int im, .ref (o + 4), .int ba, .int at_, .int sz, .int fa, .int op, .ref (o + 5), .ref (o + 6), .int rm, .ref (o + 7), .ref (o + 8), .int ti, .ref (o + 9), .int tm, .int wh, .ref (o + 10), .ref (o + 11), .ref (o + 12), .ref (o + 13)])) := by rw [ze38]; rw [va_up_ne _ _ (show o ≠ o + 4 by omega)]; exact K0
        have zK43 : zh37 (o + 4) = arI κ 6 (bmp fo 1) := by rw [ze38]; exact va_up_self _ _ _
        have zK44 : zh37 (o + 10) = arI κ 4 bi := by rw [ze38]; rw [va_up_ne _ _ (show o + 10 ≠ o + 4 by omega)]; exact K2
        have zK45 : zh37 (o + 11) = arI κ 4 si := by rw [ze38]; rw [va_up_ne _ _ (show o + 11 ≠ o + 4 by omega)]; exact K3
        have zK46 : zh37 (o + 12) = arI κ 160 nu := by rw [ze38]; rw [va_up_ne _ _ (show o + 12 ≠ o + 4 by omega)]; exact K4
        refine z_iret X E dX12_put_51 (by omega) (by omega) ⟨?_, ?_, ?_⟩
        · generalize hz : opPut bi ss (nI sk) i = z; unfold opPut at hz; (try simp only [i_nI (n := sk) (by omega), nI_clamp (n := sk) (by omega),  i_eq, i_lt, i_le, show (-1 : Int32).toInt = -1 by decide, show (0 : Int32).toInt = 0 by decide, show (1 : Int32).toInt = 1 by decide, show (2 : Int32).toInt = 2 by decide, show (3 : Int32).toInt = 3 by decide, show (4 : Int32).toInt = 4 by decide, show (5 : Int32).toInt = 5 by decide, show (6 : Int32).toInt = 6 by decide, show (7 : Int32).toInt = 7 by decide, show (8 : Int32).toInt = 8 by decide, show (9 : Int32).toInt = 9 by decide, show (10 : Int32).toInt = 10 by decide, show (11 : Int32).toInt = 11 by decide, show (12 : Int32).toInt = 12 by decide, show (13 : Int32).toInt = 13 by decide, show (14 : Int32).toInt = 14 by decide, show (15 : Int32).toInt = 15 by decide, show (16 : Int32).toInt = 16 by decide, show (20 : Int32).toInt = 20 by decide, show (39 : Int32).toInt = 39 by decide, show (40 : Int32).toInt = 40 by decide, show (50 : Int32).toInt = 50 by decide, show (60 : Int32).toInt = 60 by decide, show (99 : Int32).toInt = 99 by decide, show (100 : Int32).toInt = 100 by decide, show (999 : Int32).toInt = 999 by decide, show (9999 : Int32).toInt = 9999 by decide, show (99999 : Int32).toInt = 99999 by decide, show (999999 : Int32).toInt = 999999 by decide, show (9999999 : Int32).toInt = 9999999 by decide, show (-50 : Int32).toInt = -50 by decide, show (32 : Int32).toInt = 32 by decide] at *); (repeat first | rw [if_pos (by omega)] at hz | rw [if_neg (by omega)] at hz); subst hz; rfl
        · generalize hz : opPut bi ss (nI sk) i = z; unfold opPut at hz; (try simp only [i_nI (n := sk) (by omega), nI_clamp (n := sk) (by omega),  i_eq, i_lt, i_le, show (-1 : Int32).toInt = -1 by decide, show (0 : Int32).toInt = 0 by decide, show (1 : Int32).toInt = 1 by decide, show (2 : Int32).toInt = 2 by decide, show (3 : Int32).toInt = 3 by decide, show (4 : Int32).toInt = 4 by decide, show (5 : Int32).toInt = 5 by decide, show (6 : Int32).toInt = 6 by decide, show (7 : Int32).toInt = 7 by decide, show (8 : Int32).toInt = 8 by decide, show (9 : Int32).toInt = 9 by decide, show (10 : Int32).toInt = 10 by decide, show (11 : Int32).toInt = 11 by decide, show (12 : Int32).toInt = 12 by decide, show (13 : Int32).toInt = 13 by decide, show (14 : Int32).toInt = 14 by decide, show (15 : Int32).toInt = 15 by decide, show (16 : Int32).toInt = 16 by decide, show (20 : Int32).toInt = 20 by decide, show (39 : Int32).toInt = 39 by decide, show (40 : Int32).toInt = 40 by decide, show (50 : Int32).toInt = 50 by decide, show (60 : Int32).toInt = 60 by decide, show (99 : Int32).toInt = 99 by decide, show (100 : Int32).toInt = 100 by decide, show (999 : Int32).toInt = 999 by decide, show (9999 : Int32).toInt = 9999 by decide, show (99999 : Int32).toInt = 99999 by decide, show (999999 : Int32).toInt = 999999 by decide, show (9999999 : Int32).toInt = 9999999 by decide, show (-50 : Int32).toInt = -50 by decide, show (32 : Int32).toInt = 32 by decide] at *); (repeat first | rw [if_pos (by omega)] at hz | rw [if_neg (by omega)] at hz); subst hz; unfold nuPut narB; (try simp only [i_nI (n := sk) (by omega), nI_clamp (n := sk) (by omega),  i_eq]); (repeat first | rw [if_pos (by omega)] | rw [if_neg (by omega)]); rw [ze38]; (first | rfl | (funext zz; simp only [va_up, bump, ↓reduceIte]; (repeat' split) <;> first | rfl | (exfalso; omega) | (simp_all; done)))
        · rfl
    · refine z_aload_n X 0 dX12_put_22 rfl ?_
      refine z_iconst (v := 2) X dX12_put_23 (by decide) ?_
      refine z_callV X (r_finds (κ := κ) (n := n) (o := (o)) (k := (2)) (fo := (fo)) (im := (im)) (ba := (ba)) (at_ := (at_)) (sz := (sz)) (fa := (fa)) (op := (op)) (rm := (rm)) (ti := (ti)) (tm := (tm)) (wh := (wh)) K0 K1 (by first | assumption | omega) (by first | assumption | omega)) mk_X12_finds dX12_put_24 wd_1018 wd_1020 wd_24 rfl K0 rfl rfl rfl (Nat.le_of_ble_eq_true rfl) (Nat.le_of_ble_eq_true rfl) (Nat.le_of_ble_eq_true rfl) (by omega) (by omega) (fun q zh47 zm49 zp50 => ?_)
      obtain ⟨rfl, ze48, zn51⟩ := zp50
      subst zm49
      refine z_st (st' := [.int (lowE 2)]) rfl ?_
      have zK52 : zh47 o = some (.inr (12, [.ref (o + 1), .ref (o + 2), .ref (o + 3), .int im, .ref (o + 4), .int ba, .int at_, .int sz, .int fa, .int op, .ref (o + 5), .ref (o + 6), .int rm, .ref (o + 7), .ref (o + 8), .int ti, .ref (o + 9), .int tm, .int wh, .ref (o + 10), .ref (o + 11), .ref (o + 12), .ref (o + 13)])) := by rw [ze48]; rw [va_up_ne _ _ (show o ≠ o + 4 by omega)]; exact K0
      have zK53 : zh47 (o + 4) = arI κ 6 (bmp fo 2) := by rw [ze48]; exact va_up_self _ _ _
      have zK54 : zh47 (o + 10) = arI κ 4 bi := by rw [ze48]; rw [va_up_ne _ _ (show o + 10 ≠ o + 4 by omega)]; exact K2
      have zK55 : zh47 (o + 11) = arI κ 4 si := by rw [ze48]; rw [va_up_ne _ _ (show o + 11 ≠ o + 4 by omega)]; exact K3
      have zK56 : zh47 (o + 12) = arI κ 160 nu := by rw [ze48]; rw [va_up_ne _ _ (show o + 12 ≠ o + 4 by omega)]; exact K4
      refine z_iret X E dX12_put_27 (by omega) (by omega) ⟨?_, ?_, ?_⟩
      · generalize hz : opPut bi ss (nI sk) i = z; unfold opPut at hz; (try simp only [i_nI (n := sk) (by omega), nI_clamp (n := sk) (by omega),  i_eq, i_lt, i_le, show (-1 : Int32).toInt = -1 by decide, show (0 : Int32).toInt = 0 by decide, show (1 : Int32).toInt = 1 by decide, show (2 : Int32).toInt = 2 by decide, show (3 : Int32).toInt = 3 by decide, show (4 : Int32).toInt = 4 by decide, show (5 : Int32).toInt = 5 by decide, show (6 : Int32).toInt = 6 by decide, show (7 : Int32).toInt = 7 by decide, show (8 : Int32).toInt = 8 by decide, show (9 : Int32).toInt = 9 by decide, show (10 : Int32).toInt = 10 by decide, show (11 : Int32).toInt = 11 by decide, show (12 : Int32).toInt = 12 by decide, show (13 : Int32).toInt = 13 by decide, show (14 : Int32).toInt = 14 by decide, show (15 : Int32).toInt = 15 by decide, show (16 : Int32).toInt = 16 by decide, show (20 : Int32).toInt = 20 by decide, show (39 : Int32).toInt = 39 by decide, show (40 : Int32).toInt = 40 by decide, show (50 : Int32).toInt = 50 by decide, show (60 : Int32).toInt = 60 by decide, show (99 : Int32).toInt = 99 by decide, show (100 : Int32).toInt = 100 by decide, show (999 : Int32).toInt = 999 by decide, show (9999 : Int32).toInt = 9999 by decide, show (99999 : Int32).toInt = 99999 by decide, show (999999 : Int32).toInt = 999999 by decide, show (9999999 : Int32).toInt = 9999999 by decide, show (-50 : Int32).toInt = -50 by decide, show (32 : Int32).toInt = 32 by decide] at *); (repeat first | rw [if_pos (by omega)] at hz | rw [if_neg (by omega)] at hz); subst hz; rfl
      · generalize hz : opPut bi ss (nI sk) i = z; unfold opPut at hz; (try simp only [i_nI (n := sk) (by omega), nI_clamp (n := sk) (by omega),  i_eq, i_lt, i_le, show (-1 : Int32).toInt = -1 by decide, show (0 : Int32).toInt = 0 by decide, show (1 : Int32).toInt = 1 by decide, show (2 : Int32).toInt = 2 by decide, show (3 : Int32).toInt = 3 by decide, show (4 : Int32).toInt = 4 by decide, show (5 : Int32).toInt = 5 by decide, show (6 : Int32).toInt = 6 by decide, show (7 : Int32).toInt = 7 by decide, show (8 : Int32).toInt = 8 by decide, show (9 : Int32).toInt = 9 by decide, show (10 : Int32).toInt = 10 by decide, show (11 : Int32).toInt = 11 by decide, show (12 : Int32).toInt = 12 by decide, show (13 : Int32).toInt = 13 by decide, show (14 : Int32).toInt = 14 by decide, show (15 : Int32).toInt = 15 by decide, show (16 : Int32).toInt = 16 by decide, show (20 : Int32).toInt = 20 by decide, show (39 : Int32).toInt = 39 by decide, show (40 : Int32).toInt = 40 by decide, show (50 : Int32).toInt = 50 by decide, show (60 : Int32).toInt = 60 by decide, show (99 : Int32).toInt = 99 by decide, show (100 : Int32).toInt = 100 by decide, show (999 : Int32).toInt = 999 by decide, show (9999 : Int32).toInt = 9999 by decide, show (99999 : Int32).toInt = 99999 by decide, show (999999 : Int32).toInt = 999999 by decide, show (9999999 : Int32).toInt = 9999999 by decide, show (-50 : Int32).toInt = -50 by decide, show (32 : Int32).toInt = 32 by decide] at *); (repeat first | rw [if_pos (by omega)] at hz | rw [if_neg (by omega)] at hz); subst hz; unfold nuPut narB; (try simp only [i_nI (n := sk) (by omega), nI_clamp (n := sk) (by omega),  i_eq]); (repeat first | rw [if_pos (by omega)] | rw [if_neg (by omega)]); rw [ze48]; (first | rfl | (funext zz; simp only [va_up, bump, ↓reduceIte]; (repeat' split) <;> first | rfl | (exfalso; omega) | (simp_all; done)))
      · rfl
  · replace zc6 := b2i_f zc6
    refine z_aload_n X 0 dX12_put_7 rfl ?_
    refine z_iconst (v := 1) X dX12_put_8 (by decide) ?_
    refine z_callV X (r_finds (κ := κ) (n := n) (o := (o)) (k := (1)) (fo := (fo)) (im := (im)) (ba := (ba)) (at_ := (at_)) (sz := (sz)) (fa := (fa)) (op := (op)) (rm := (rm)) (ti := (ti)) (tm := (tm)) (wh := (wh)) K0 K1 (by first | assumption | omega) (by first | assumption | omega)) mk_X12_finds dX12_put_9 wd_1018 wd_1020 wd_24 rfl K0 rfl rfl rfl (Nat.le_of_ble_eq_true rfl) (Nat.le_of_ble_eq_true rfl) (Nat.le_of_ble_eq_true rfl) (by omega) (by omega) (fun q zh57 zm59 zp60 => ?_)
    obtain ⟨rfl, ze58, zn61⟩ := zp60
    subst zm59
    refine z_st (st' := [.int (lowE 1)]) rfl ?_
    have zK62 : zh57 o = some (.inr (12, [.ref (o + 1), .ref (o + 2), .ref (o + 3), .int im, .ref (o + 4), .int ba, .int at_, .int sz, .int fa, .int op, .ref (o + 5), .ref (o + 6), .int rm, .ref (o + 7), .ref (o + 8), .int ti, .ref (o + 9), .int tm, .int wh, .ref (o + 10), .ref (o + 11), .ref (o + 12), .ref (o + 13)])) := by rw [ze58]; rw [va_up_ne _ _ (show o ≠ o + 4 by omega)]; exact K0
    have zK63 : zh57 (o + 4) = arI κ 6 (bmp fo 1) := by rw [ze58]; exact va_up_self _ _ _
    have zK64 : zh57 (o + 10) = arI κ 4 bi := by rw [ze58]; rw [va_up_ne _ _ (show o + 10 ≠ o + 4 by omega)]; exact K2
    have zK65 : zh57 (o + 11) = arI κ 4 si := by rw [ze58]; rw [va_up_ne _ _ (show o + 11 ≠ o + 4 by omega)]; exact K3
    have zK66 : zh57 (o + 12) = arI κ 160 nu := by rw [ze58]; rw [va_up_ne _ _ (show o + 12 ≠ o + 4 by omega)]; exact K4
    refine z_iret X E dX12_put_12 (by omega) (by omega) ⟨?_, ?_, ?_⟩
    · generalize hz : opPut bi ss s i = z; unfold opPut at hz; (try simp only [ i_eq, i_lt, i_le, show (-1 : Int32).toInt = -1 by decide, show (0 : Int32).toInt = 0 by decide, show (1 : Int32).toInt = 1 by decide, show (2 : Int32).toInt = 2 by decide, show (3 : Int32).toInt = 3 by decide, show (4 : Int32).toInt = 4 by decide, show (5 : Int32).toInt = 5 by decide, show (6 : Int32).toInt = 6 by decide, show (7 : Int32).toInt = 7 by decide, show (8 : Int32).toInt = 8 by decide, show (9 : Int32).toInt = 9 by decide, show (10 : Int32).toInt = 10 by decide, show (11 : Int32).toInt = 11 by decide, show (12 : Int32).toInt = 12 by decide, show (13 : Int32).toInt = 13 by decide, show (14 : Int32).toInt = 14 by decide, show (15 : Int32).toInt = 15 by decide, show (16 : Int32).toInt = 16 by decide, show (20 : Int32).toInt = 20 by decide, show (39 : Int32).toInt = 39 by decide, show (40 : Int32).toInt = 40 by decide, show (50 : Int32).toInt = 50 by decide, show (60 : Int32).toInt = 60 by decide, show (99 : Int32).toInt = 99 by decide, show (100 : Int32).toInt = 100 by decide, show (999 : Int32).toInt = 999 by decide, show (9999 : Int32).toInt = 9999 by decide, show (99999 : Int32).toInt = 99999 by decide, show (999999 : Int32).toInt = 999999 by decide, show (9999999 : Int32).toInt = 9999999 by decide, show (-50 : Int32).toInt = -50 by decide, show (32 : Int32).toInt = 32 by decide] at *); (repeat first | rw [if_pos (by omega)] at hz | rw [if_neg (by omega)] at hz); subst hz; rfl
    · generalize hz : opPut bi ss s i = z; unfold opPut at hz; (try simp only [ i_eq, i_lt, i_le, show (-1 : Int32).toInt = -1 by decide, show (0 : Int32).toInt = 0 by decide, show (1 : Int32).toInt = 1 by decide, show (2 : Int32).toInt = 2 by decide, show (3 : Int32).toInt = 3 by decide, show (4 : Int32).toInt = 4 by decide, show (5 : Int32).toInt = 5 by decide, show (6 : Int32).toInt = 6 by decide, show (7 : Int32).toInt = 7 by decide, show (8 : Int32).toInt = 8 by decide, show (9 : Int32).toInt = 9 by decide, show (10 : Int32).toInt = 10 by decide, show (11 : Int32).toInt = 11 by decide, show (12 : Int32).toInt = 12 by decide, show (13 : Int32).toInt = 13 by decide, show (14 : Int32).toInt = 14 by decide, show (15 : Int32).toInt = 15 by decide, show (16 : Int32).toInt = 16 by decide, show (20 : Int32).toInt = 20 by decide, show (39 : Int32).toInt = 39 by decide, show (40 : Int32).toInt = 40 by decide, show (50 : Int32).toInt = 50 by decide, show (60 : Int32).toInt = 60 by decide, show (99 : Int32).toInt = 99 by decide, show (100 : Int32).toInt = 100 by decide, show (999 : Int32).toInt = 999 by decide, show (9999 : Int32).toInt = 9999 by decide, show (99999 : Int32).toInt = 99999 by decide, show (999999 : Int32).toInt = 999999 by decide, show (9999999 : Int32).toInt = 9999999 by decide, show (-50 : Int32).toInt = -50 by decide, show (32 : Int32).toInt = 32 by decide] at *); (repeat first | rw [if_pos (by omega)] at hz | rw [if_neg (by omega)] at hz); subst hz; unfold nuPut narB; (try simp only [ i_eq]); (repeat first | rw [if_pos (by omega)] | rw [if_neg (by omega)]); rw [ze58]; (first | rfl | (funext zz; simp only [va_up, bump, ↓reduceIte]; (repeat' split) <;> first | rfl | (exfalso; omega) | (simp_all; done)))
    · rfl
def opSheet (s w j : Int32) : Nat × Int32 := if ¬ (0 ≤ s.toInt ∧ s.toInt ≤ 3 ∧ (w.toInt = 0 ∨ w.toInt = 8 ∨ w.toInt = 16 ∨ w.toInt = 32)) then (1, 0) else if w.toInt ≠ 0 ∧ j.toInt < 0 then (3, 0) else if w.toInt ≠ 0 ∧ 40 < j.toInt then (1, 0) else (0, 1)
def biSheet (bi : Nat → Int32) (s w j : Int32) : Nat → Int32 := if (opSheet s w j).1 = 0 then upd bi s.toNatClampNeg w else bi
def siSheet (si : Nat → Int32) (s w j : Int32) : Nat → Int32 := if (opSheet s w j).1 = 0 then upd si s.toNatClampNeg (if w.toInt = 0 then 0 else j) else si
def nuSheet (nu : Nat → Int32) (s w j : Int32) : Nat → Int32 := if (opSheet s w j).1 = 0 then (fun q => if 40 * s.toNatClampNeg ≤ q ∧ q < 40 * s.toNatClampNeg + 40 then 0 else nu q) else nu
set_option maxHeartbeats 4000000 in
set_option maxRecDepth 100000 in
theorem r_sheet {κ : Wc} {l : Launch} {h : Mm} {n : Nat} {o : Nat} {fo : Nat → Int32} {bi : Nat → Int32} {si : Nat → Int32} {nu : Nat → Int32} {ss : Nat → Nat} {im : Int32} {ba : Int32} {at_ : Int32} {sz : Int32} {fa : Int32} {op : Int32} {rm : Int32} {ti : Int32} {tm : Int32} {wh : Int32} {s : Int32} {w : Int32} {j : Int32} (K0 : h o = some (.inr (12, [.ref (o + 1), .ref (o + 2), .ref (o + 3), .int im, .ref (o + 4), .int ba, .int at_, .int sz, .int fa, .int op, .ref (o + 5), .ref (o + 6), .int rm, .ref (o + 7), .ref (o + 8), .int ti, .ref (o + 9), .int tm, .int wh, .ref (o + 10), .ref (o + 11), .ref (o + 12), .ref (o + 13)]))) (K1 : h (o + 4) = arI κ 6 fo) (K2 : h (o + 10) = arI κ 4 bi) (K3 : h (o + 11) = arI κ 4 si) (K4 : h (o + 12) = arI κ 160 nu)  : Con κ l yX12_sheet cX12_sheet 5 (some .int) 3 0 0 [.ref o, .int s, .int w, .int j] h n (fun q h' n' => q = some (.int (ansOf (opSheet s w j))) ∧ h' = va_up (va_up (va_up (va_up h (o + 10) (arI κ 4 (biSheet bi s w j))) (o + 11) (arI κ 4 (siSheet si s w j))) (o + 12) (arI κ 160 (nuSheet nu s w j))) (o + 4) (arI κ 6 (bump (opSheet s w j) fo)) ∧ n' = n) := by
  refine Con.of mk_X12_sheet (Nat.le_of_ble_eq_true rfl) (fun G hG X E => ?_)
  subst hG
  refine z_ls (ls' := [(0, .ref o), (1, .int s), (2, .int w), (3, .int j)]) rfl ?_
  refine z_iload_n X 1 dX12_sheet_0 rfl ?_
  refine z_callS X (r_isSheet (κ := κ) (n := n) (v := (s))  ) mk_X12_isSheet dX12_sheet_1 wd_1036 wd_1037 rfl rfl (Nat.le_of_ble_eq_true rfl) (Nat.le_of_ble_eq_true rfl) (Nat.le_of_ble_eq_true rfl) (by omega) (by omega) (fun q zh1 zm3 zp4 => ?_)
  obtain ⟨rfl, ze2, zn5⟩ := zp4
  subst zm3
  subst zh1
  refine z_st (st' := [.int (b2i (0 ≤ (s : Int32).toInt ∧ (s : Int32).toInt ≤ 3))]) rfl ?_
  refine z_if_eq X 29 dX12_sheet_4 (by decide) (fun zc6 => ?_) (fun zc6 => ?_)
  · replace zc6 := b2i_f zc6
    refine z_aload_n X 0 dX12_sheet_29 rfl ?_
    refine z_iconst (v := 1) X dX12_sheet_30 (by decide) ?_
    refine z_callV X (r_finds (κ := κ) (n := n) (o := (o)) (k := (1)) (fo := (fo)) (im := (im)) (ba := (ba)) (at_ := (at_)) (sz := (sz)) (fa := (fa)) (op := (op)) (rm := (rm)) (ti := (ti)) (tm := (tm)) (wh := (wh)) K0 K1 (by first | assumption | omega) (by first | assumption | omega)) mk_X12_finds dX12_sheet_31 wd_1018 wd_1020 wd_24 rfl K0 rfl rfl rfl (Nat.le_of_ble_eq_true rfl) (Nat.le_of_ble_eq_true rfl) (Nat.le_of_ble_eq_true rfl) (by omega) (by omega) (fun q zh7 zm9 zp10 => ?_)
    obtain ⟨rfl, ze8, zn11⟩ := zp10
    subst zm9
    refine z_st (st' := [.int (lowE 1)]) rfl ?_
    have zK12 : zh7 o = some (.inr (12, [.ref (o + 1), .ref (o + 2), .ref (o + 3), .int im, .ref (o + 4), .int ba, .int at_, .int sz, .int fa, .int op, .ref (o + 5), .ref (o + 6), .int rm, .ref (o + 7), .ref (o + 8), .int ti, .ref (o + 9), .int tm, .int wh, .ref (o + 10), .ref (o + 11), .ref (o + 12), .ref (o + 13)])) := by rw [ze8]; rw [va_up_ne _ _ (show o ≠ o + 4 by omega)]; exact K0
    have zK13 : zh7 (o + 4) = arI κ 6 (bmp fo 1) := by rw [ze8]; exact va_up_self _ _ _
    have zK14 : zh7 (o + 10) = arI κ 4 bi := by rw [ze8]; rw [va_up_ne _ _ (show o + 10 ≠ o + 4 by omega)]; exact K2
    have zK15 : zh7 (o + 11) = arI κ 4 si := by rw [ze8]; rw [va_up_ne _ _ (show o + 11 ≠ o + 4 by omega)]; exact K3
    have zK16 : zh7 (o + 12) = arI κ 160 nu := by rw [ze8]; rw [va_up_ne _ _ (show o + 12 ≠ o + 4 by omega)]; exact K4
    refine z_iret X E dX12_sheet_34 (by omega) (by omega) ⟨?_, ?_, ?_⟩
    · (have hop : opSheet s w j = (1, 0) := by (unfold opSheet; (try simp only [ i_eq, i_lt, i_le, show (-1 : Int32).toInt = -1 by decide, show (0 : Int32).toInt = 0 by decide, show (1 : Int32).toInt = 1 by decide, show (2 : Int32).toInt = 2 by decide, show (3 : Int32).toInt = 3 by decide, show (4 : Int32).toInt = 4 by decide, show (5 : Int32).toInt = 5 by decide, show (6 : Int32).toInt = 6 by decide, show (7 : Int32).toInt = 7 by decide, show (8 : Int32).toInt = 8 by decide, show (9 : Int32).toInt = 9 by decide, show (10 : Int32).toInt = 10 by decide, show (11 : Int32).toInt = 11 by decide, show (12 : Int32).toInt = 12 by decide, show (13 : Int32).toInt = 13 by decide, show (14 : Int32).toInt = 14 by decide, show (15 : Int32).toInt = 15 by decide, show (16 : Int32).toInt = 16 by decide, show (20 : Int32).toInt = 20 by decide, show (39 : Int32).toInt = 39 by decide, show (40 : Int32).toInt = 40 by decide, show (50 : Int32).toInt = 50 by decide, show (60 : Int32).toInt = 60 by decide, show (99 : Int32).toInt = 99 by decide, show (100 : Int32).toInt = 100 by decide, show (999 : Int32).toInt = 999 by decide, show (9999 : Int32).toInt = 9999 by decide, show (99999 : Int32).toInt = 99999 by decide, show (999999 : Int32).toInt = 999999 by decide, show (9999999 : Int32).toInt = 9999999 by decide, show (-50 : Int32).toInt = -50 by decide, show (32 : Int32).toInt = 32 by decide] at *); (repeat first | rw [if_pos (by omega)] | rw [if_neg (by omega)]))); rw [hop]; rfl
    · (have hop : opSheet s w j = (1, 0) := by (unfold opSheet; (try simp only [ i_eq, i_lt, i_le, show (-1 : Int32).toInt = -1 by decide, show (0 : Int32).toInt = 0 by decide, show (1 : Int32).toInt = 1 by decide, show (2 : Int32).toInt = 2 by decide, show (3 : Int32).toInt = 3 by decide, show (4 : Int32).toInt = 4 by decide, show (5 : Int32).toInt = 5 by decide, show (6 : Int32).toInt = 6 by decide, show (7 : Int32).toInt = 7 by decide, show (8 : Int32).toInt = 8 by decide, show (9 : Int32).toInt = 9 by decide, show (10 : Int32).toInt = 10 by decide, show (11 : Int32).toInt = 11 by decide, show (12 : Int32).toInt = 12 by decide, show (13 : Int32).toInt = 13 by decide, show (14 : Int32).toInt = 14 by decide, show (15 : Int32).toInt = 15 by decide, show (16 : Int32).toInt = 16 by decide, show (20 : Int32).toInt = 20 by decide, show (39 : Int32).toInt = 39 by decide, show (40 : Int32).toInt = 40 by decide, show (50 : Int32).toInt = 50 by decide, show (60 : Int32).toInt = 60 by decide, show (99 : Int32).toInt = 99 by decide, show (100 : Int32).toInt = 100 by decide, show (999 : Int32).toInt = 999 by decide, show (9999 : Int32).toInt = 9999 by decide, show (99999 : Int32).toInt = 99999 by decide, show (999999 : Int32).toInt = 999999 by decide, show (9999999 : Int32).toInt = 9999999 by decide, show (-50 : Int32).toInt = -50 by decide, show (32 : Int32).toInt = 32 by decide] at *); (repeat first | rw [if_pos (by omega)] | rw [if_neg (by omega)]))); unfold biSheet siSheet nuSheet; rw [hop]; rw [ze8]; (funext zz; simp only [va_up, bump, ↓reduceIte]; (repeat' split) <;> first | rfl | (exfalso; omega) | (simp_all; done))
    · rfl
  · replace zc6 := b2i_t zc6
    refine z_iload_n X 2 dX12_sheet_7 rfl ?_
    refine z_if_eq X 35 dX12_sheet_8 (by decide) (fun zc17 => ?_) (fun zc17 => ?_)
    · refine z_iload_n X 2 dX12_sheet_35 rfl ?_
      refine z_if_eq X 49 dX12_sheet_36 (by decide) (fun zc18 => ?_) (fun zc18 => ?_)
      · refine z_iload_n X 2 dX12_sheet_49 rfl ?_
        refine z_if_eq X 65 dX12_sheet_50 (by decide) (fun zc19 => ?_) (fun zc19 => ?_)
        · obtain ⟨sk, hsk, rfl⟩ := ix_of (c := s) (len := 4) (by omega) (by omega)
          refine z_aload_n X 0 dX12_sheet_65 rfl ?_
          refine z_get X fl_X12_37_12 dX12_sheet_66 K0 rfl ?_
          refine z_iload_n X 1 dX12_sheet_69 rfl ?_
          refine z_iload_n X 2 dX12_sheet_70 rfl ?_
          refine z_iast X dX12_sheet_71 K2 (vp_in_nI (n := sk) (by omega) (by omega)) (congrArg (fun z => va_up h (o + 10) (arI κ 4 (upd bi z w))) (nI_clamp (n := sk) (by omega))) ?_
          obtain ⟨zh20, ze21⟩ : ∃ z : Mm, z = va_up h (o + 10) (arI κ 4 (upd bi sk w)) := ⟨_, rfl⟩
          refine z_heap (h' := zh20) ze21.symm ?_
          have zK22 := up_off ze21 (show o ≠ o + 10 by omega) K0
          have zK23 := up_off ze21 (show o + 4 ≠ o + 10 by omega) K1
          have zK24 := up_at ze21
          have zK25 := up_off ze21 (show o + 11 ≠ o + 10 by omega) K3
          have zK26 := up_off ze21 (show o + 12 ≠ o + 10 by omega) K4
          refine z_aload_n X 0 dX12_sheet_72 rfl ?_
          refine z_get X fl_X12_40_12 dX12_sheet_73 zK22 rfl ?_
          refine z_iload_n X 1 dX12_sheet_76 rfl ?_
          refine z_iload_n X 2 dX12_sheet_77 rfl ?_
          refine z_if_ne X 85 dX12_sheet_78 (by decide) (fun zc27 => ?_) (fun zc27 => ?_)
          · first | exact absurd zc27 zc19 | exact absurd zc19 zc27 | (exfalso; omega) | (exfalso; simp only [i_eq, i_lt, i_le] at *; omega)
          · refine z_iconst (v := 0) X dX12_sheet_81 (by decide) ?_
            refine z_goto X 86 dX12_sheet_82 (by decide) ?_
            refine z_iast X dX12_sheet_86 zK25 (vp_in_nI (n := sk) (by omega) (by omega)) (congrArg (fun z => va_up zh20 (o + 11) (arI κ 4 (upd si z 0))) (nI_clamp (n := sk) (by omega))) ?_
            obtain ⟨zh28, ze29⟩ : ∃ z : Mm, z = va_up zh20 (o + 11) (arI κ 4 (upd si sk 0)) := ⟨_, rfl⟩
            refine z_heap (h' := zh28) ze29.symm ?_
            have zK30 := up_off ze29 (show o ≠ o + 11 by omega) zK22
            have zK31 := up_off ze29 (show o + 4 ≠ o + 11 by omega) zK23
            have zK32 := up_off ze29 (show o + 10 ≠ o + 11 by omega) zK24
            have zK33 := up_at ze29
            have zK34 := up_off ze29 (show o + 12 ≠ o + 11 by omega) zK26
            refine z_iconst (v := 0) X dX12_sheet_87 (by decide) ?_
            refine z_istore (ls' := [(4, .int 0), (0, .ref o), (1, .int (nI sk)), (2, .int w), (3, .int j)]) X dX12_sheet_88 (by decide) rfl ?_
            have L90 : ∀ (jj : Nat) (hh90 : Mm)  (i : Nat) (e : Nat → Int32), (40 - i < jj) → (hh90 = va_up (va_up (va_up h (o + 10) (arI κ 4 (upd bi sk w))) (o + 11) (arI κ 4 (upd si sk 0))) (o + 12) (arI κ 160 e)) → (hi : i ≤ 40) → (hg : ∀ q, e q = if 40 * sk ≤ q ∧ q < 40 * sk + i then 0 else nu q) → Z κ G 5 90 [(0, .ref o), (1, .int (nI sk)), (2, .int w), (3, .int j), (4, .int (nI i))] [] hh90 n 0 (0) := by
              intro jj
              induction jj with
              | zero => intro hh90 i e hmu; exact absurd hmu (Nat.not_lt_zero _)
              | succ jj ih90 =>
                intro hh90 i e hmu he90 hi hg
                have zK35 : hh90 o = some (.inr (12, [.ref (o + 1), .ref (o + 2), .ref (o + 3), .int im, .ref (o + 4), .int ba, .int at_, .int sz, .int fa, .int op, .ref (o + 5), .ref (o + 6), .int rm, .ref (o + 7), .ref (o + 8), .int ti, .ref (o + 9), .int tm, .int wh, .ref (o + 10), .ref (o + 11), .ref (o + 12), .ref (o + 13)])) := by rw [he90]; rw [va_up_ne _ _ (show o ≠ o + 12 by omega)]; rw [va_up_ne _ _ (show o ≠ o + 11 by omega)]; rw [va_up_ne _ _ (show o ≠ o + 10 by omega)]; exact K0
                have zK36 : hh90 (o + 4) = arI κ 6 fo := by rw [he90]; rw [va_up_ne _ _ (show o + 4 ≠ o + 12 by omega)]; rw [va_up_ne _ _ (show o + 4 ≠ o + 11 by omega)]; rw [va_up_ne _ _ (show o + 4 ≠ o + 10 by omega)]; exact K1
                have zK37 : hh90 (o + 10) = arI κ 4 (upd bi sk w) := by rw [he90]; rw [va_up_ne _ _ (show o + 10 ≠ o + 12 by omega)]; rw [va_up_ne _ _ (show o + 10 ≠ o + 11 by omega)]; exact va_up_self _ _ _
                have zK38 : hh90 (o + 11) = arI κ 4 (upd si sk 0) := by rw [he90]; rw [va_up_ne _ _ (show o + 11 ≠ o + 12 by omega)]; exact va_up_self _ _ _
                have zK39 : hh90 (o + 12) = arI κ 160 e := by rw [he90]; exact va_up_self _ _ _
                refine z_iload X 4 dX12_sheet_90 rfl ?_
                refine z_bipush (v := 40) X dX12_sheet_92 (by decide) ?_
                refine z_icmp_ge X 116 dX12_sheet_94 (by decide) (fun zc40 => ?_) (fun zc40 => ?_)
                · try replace zc40 := (nI_leI (a := 40) (b := i) (by omega) (by omega)).mp zc40
                  refine z_iconst (v := 1) X dX12_sheet_116 (by decide) ?_
                  refine z_ext (g := fun q => if 40 * sk ≤ q ∧ q < 40 * sk + 40 then 0 else nu q) zK39 (fun z hz => by rw [hg z, show i = 40 by omega]) ?_
                  obtain ⟨zh41, ze42⟩ : ∃ z : Mm, z = va_up hh90 (o + 12) (arI κ 160 (fun q => if 40 * sk ≤ q ∧ q < 40 * sk + 40 then 0 else nu q)) := ⟨_, rfl⟩
                  refine z_heap (h' := zh41) ze42.symm ?_
                  have zK43 := up_off ze42 (show o ≠ o + 12 by omega) zK35
                  have zK44 := up_off ze42 (show o + 4 ≠ o + 12 by omega) zK36
                  have zK45 := up_off ze42 (show o + 10 ≠ o + 12 by omega) zK37
                  have zK46 := up_off ze42 (show o + 11 ≠ o + 12 by omega) zK38
                  have zK47 := up_at ze42
                  refine z_iret X E dX12_sheet_117 (by omega) (by omega) ⟨?_, ?_, ?_⟩
                  · (have hop : opSheet (nI sk) w j = (0, 1) := by (unfold opSheet; (try simp only [i_nI (n := sk) (by omega), nI_clamp (n := sk) (by omega),  i_eq, i_lt, i_le, show (-1 : Int32).toInt = -1 by decide, show (0 : Int32).toInt = 0 by decide, show (1 : Int32).toInt = 1 by decide, show (2 : Int32).toInt = 2 by decide, show (3 : Int32).toInt = 3 by decide, show (4 : Int32).toInt = 4 by decide, show (5 : Int32).toInt = 5 by decide, show (6 : Int32).toInt = 6 by decide, show (7 : Int32).toInt = 7 by decide, show (8 : Int32).toInt = 8 by decide, show (9 : Int32).toInt = 9 by decide, show (10 : Int32).toInt = 10 by decide, show (11 : Int32).toInt = 11 by decide, show (12 : Int32).toInt = 12 by decide, show (13 : Int32).toInt = 13 by decide, show (14 : Int32).toInt = 14 by decide, show (15 : Int32).toInt = 15 by decide, show (16 : Int32).toInt = 16 by decide, show (20 : Int32).toInt = 20 by decide, show (39 : Int32).toInt = 39 by decide, show (40 : Int32).toInt = 40 by decide, show (50 : Int32).toInt = 50 by decide, show (60 : Int32).toInt = 60 by decide, show (99 : Int32).toInt = 99 by decide, show (100 : Int32).toInt = 100 by decide, show (999 : Int32).toInt = 999 by decide, show (9999 : Int32).toInt = 9999 by decide, show (99999 : Int32).toInt = 99999 by decide, show (999999 : Int32).toInt = 999999 by decide, show (9999999 : Int32).toInt = 9999999 by decide, show (-50 : Int32).toInt = -50 by decide, show (32 : Int32).toInt = 32 by decide] at *); (repeat first | rw [if_pos (by omega)] | rw [if_neg (by omega)]))); rw [hop]; rfl
                  · (have hop : opSheet (nI sk) w j = (0, 1) := by (unfold opSheet; (try simp only [i_nI (n := sk) (by omega), nI_clamp (n := sk) (by omega),  i_eq, i_lt, i_le, show (-1 : Int32).toInt = -1 by decide, show (0 : Int32).toInt = 0 by decide, show (1 : Int32).toInt = 1 by decide, show (2 : Int32).toInt = 2 by decide, show (3 : Int32).toInt = 3 by decide, show (4 : Int32).toInt = 4 by decide, show (5 : Int32).toInt = 5 by decide, show (6 : Int32).toInt = 6 by decide, show (7 : Int32).toInt = 7 by decide, show (8 : Int32).toInt = 8 by decide, show (9 : Int32).toInt = 9 by decide, show (10 : Int32).toInt = 10 by decide, show (11 : Int32).toInt = 11 by decide, show (12 : Int32).toInt = 12 by decide, show (13 : Int32).toInt = 13 by decide, show (14 : Int32).toInt = 14 by decide, show (15 : Int32).toInt = 15 by decide, show (16 : Int32).toInt = 16 by decide, show (20 : Int32).toInt = 20 by decide, show (39 : Int32).toInt = 39 by decide, show (40 : Int32).toInt = 40 by decide, show (50 : Int32).toInt = 50 by decide, show (60 : Int32).toInt = 60 by decide, show (99 : Int32).toInt = 99 by decide, show (100 : Int32).toInt = 100 by decide, show (999 : Int32).toInt = 999 by decide, show (9999 : Int32).toInt = 9999 by decide, show (99999 : Int32).toInt = 99999 by decide, show (999999 : Int32).toInt = 999999 by decide, show (9999999 : Int32).toInt = 9999999 by decide, show (-50 : Int32).toInt = -50 by decide, show (32 : Int32).toInt = 32 by decide] at *); (repeat first | rw [if_pos (by omega)] | rw [if_neg (by omega)]))); (have hwz : (if w.toInt = 0 then (0 : Int32) else j) = 0 := by ((try simp only [i_nI (n := sk) (by omega), nI_clamp (n := sk) (by omega),  i_eq, i_lt, i_le, show (-1 : Int32).toInt = -1 by decide, show (0 : Int32).toInt = 0 by decide, show (1 : Int32).toInt = 1 by decide, show (2 : Int32).toInt = 2 by decide, show (3 : Int32).toInt = 3 by decide, show (4 : Int32).toInt = 4 by decide, show (5 : Int32).toInt = 5 by decide, show (6 : Int32).toInt = 6 by decide, show (7 : Int32).toInt = 7 by decide, show (8 : Int32).toInt = 8 by decide, show (9 : Int32).toInt = 9 by decide, show (10 : Int32).toInt = 10 by decide, show (11 : Int32).toInt = 11 by decide, show (12 : Int32).toInt = 12 by decide, show (13 : Int32).toInt = 13 by decide, show (14 : Int32).toInt = 14 by decide, show (15 : Int32).toInt = 15 by decide, show (16 : Int32).toInt = 16 by decide, show (20 : Int32).toInt = 20 by decide, show (39 : Int32).toInt = 39 by decide, show (40 : Int32).toInt = 40 by decide, show (50 : Int32).toInt = 50 by decide, show (60 : Int32).toInt = 60 by decide, show (99 : Int32).toInt = 99 by decide, show (100 : Int32).toInt = 100 by decide, show (999 : Int32).toInt = 999 by decide, show (9999 : Int32).toInt = 9999 by decide, show (99999 : Int32).toInt = 99999 by decide, show (999999 : Int32).toInt = 999999 by decide, show (9999999 : Int32).toInt = 9999999 by decide, show (-50 : Int32).toInt = -50 by decide, show (32 : Int32).toInt = 32 by decide] at *); (first | rw [if_pos (by omega)] | rw [if_neg (by omega)]); try decide)); unfold biSheet siSheet nuSheet; rw [hop, hwz, nI_clamp (n := sk) (by omega)]; rw [ze42, he90]; (funext zz; simp only [va_up, bump, ↓reduceIte]; (repeat' split) <;> first | rfl | (exfalso; omega) | (simp_all; done))
                  · rfl
                · try replace zc40 := mt (nI_leI (a := 40) (b := i) (by omega) (by omega)).mpr zc40
                  refine z_aload_n X 0 dX12_sheet_97 rfl ?_
                  refine z_get X fl_X12_43_12 dX12_sheet_98 zK35 rfl ?_
                  refine z_bipush (v := 40) X dX12_sheet_101 (by decide) ?_
                  refine z_iload_n X 1 dX12_sheet_103 rfl ?_
                  refine z_imul X dX12_sheet_104 ?_
                  refine z_toe (y := nI (40 * sk)) (pk_mul (40) (sk)) ?_
                  refine z_iload X 4 dX12_sheet_105 rfl ?_
                  refine z_iadd X dX12_sheet_107 ?_
                  refine z_toe (y := nI ((40 * sk) + i)) (nI_add (40 * sk) (i)) ?_
                  refine z_iconst (v := 0) X dX12_sheet_108 (by decide) ?_
                  refine z_iast X dX12_sheet_109 zK39 (vp_in_nI (n := (40 * sk) + i) (by omega) (by omega)) (congrArg (fun z => va_up hh90 (o + 12) (arI κ 160 (upd e z 0))) (nI_clamp (n := (40 * sk) + i) (by omega))) ?_
                  obtain ⟨zh48, ze49⟩ : ∃ z : Mm, z = va_up hh90 (o + 12) (arI κ 160 (upd e ((40 * sk) + i) 0)) := ⟨_, rfl⟩
                  refine z_heap (h' := zh48) ze49.symm ?_
                  have zK50 := up_off ze49 (show o ≠ o + 12 by omega) zK35
                  have zK51 := up_off ze49 (show o + 4 ≠ o + 12 by omega) zK36
                  have zK52 := up_off ze49 (show o + 10 ≠ o + 12 by omega) zK37
                  have zK53 := up_off ze49 (show o + 11 ≠ o + 12 by omega) zK38
                  have zK54 := up_at ze49
                  refine z_iinc (v := nI (i + 1)) (ls' := [(4, .int (nI (i + 1))), (0, .ref o), (1, .int (nI sk)), (2, .int w), (3, .int j)]) X 4 dX12_sheet_110 rfl (nI_1 (i)) (by decide) rfl ?_
                  refine z_goto X 90 dX12_sheet_113 (by decide) ?_
                  refine z_sub (ls' := [(0, .ref o), (1, .int (nI sk)), (2, .int w), (3, .int j), (4, .int (nI (i + 1)))]) [1, 2, 3, 4, 0] rfl ?_
                  exact ih90 _ (i + 1) (upd e ((40 * sk) + i) 0) (by omega) (by first | (rw [ze49, he90]; done) | (rw [ze49, he90]; simp only [up_up]; done) | (rw [ze49, he90]; funext zz; simp only [va_up]; (repeat' split) <;> first | rfl | (exfalso; omega) | simp_all)) (by first | assumption | rfl | omega) (by intro q; unfold upd; by_cases hq : q = 40 * sk + i; (rw [if_pos hq, if_pos (by omega)]); rw [if_neg hq, hg q]; by_cases hr : 40 * sk ≤ q ∧ q < 40 * sk + i; (rw [if_pos hr, if_pos (by omega)]); rw [if_neg hr, if_neg (by omega)])
            refine z_sub (ls' := [(0, .ref o), (1, .int (nI sk)), (2, .int w), (3, .int j), (4, .int 0)]) [1, 2, 3, 4, 0] rfl ?_
            exact L90 _ _ 0 nu (Nat.lt_succ_self _) (by first | (rw [ze29, ze21]; done) | (rw [ze29, ze21]; simp only [up_up]; done) | (rw [ze29, ze21]; funext zz; simp only [va_up]; (repeat' split) <;> first | rfl | (exfalso; omega) | simp_all)) (by first | assumption | rfl | omega) (by intro q; rw [if_neg (by omega)])
        · first | exact absurd zc19 zc18 | exact absurd zc18 zc19 | (exfalso; omega) | (exfalso; simp only [i_eq, i_lt, i_le] at *; omega)
      · first | exact absurd zc18 zc17 | exact absurd zc17 zc18 | (exfalso; omega) | (exfalso; simp only [i_eq, i_lt, i_le] at *; omega)
    · refine z_iload_n X 2 dX12_sheet_11 rfl ?_
      refine z_bipush (v := 8) X dX12_sheet_12 (by decide) ?_
      refine z_icmp_eq X 35 dX12_sheet_14 (by decide) (fun zc55 => ?_) (fun zc55 => ?_)
      · refine z_iload_n X 2 dX12_sheet_35 rfl ?_
        refine z_if_eq X 49 dX12_sheet_36 (by decide) (fun zc56 => ?_) (fun zc56 => ?_)
        · first | exact absurd zc56 zc17 | exact absurd zc17 zc56 | (exfalso; omega) | (exfalso; simp only [i_eq, i_lt, i_le] at *; omega)
        · refine z_iload_n X 3 dX12_sheet_39 rfl ?_
          refine z_if_ge X 49 dX12_sheet_40 (by decide) (fun zc57 => ?_) (fun zc57 => ?_)
          · refine z_iload_n X 2 dX12_sheet_49 rfl ?_
            refine z_if_eq X 65 dX12_sheet_50 (by decide) (fun zc58 => ?_) (fun zc58 => ?_)
            · first | exact absurd zc58 zc56 | exact absurd zc56 zc58 | (exfalso; omega) | (exfalso; simp only [i_eq, i_lt, i_le] at *; omega)
            · refine z_iload_n X 3 dX12_sheet_53 rfl ?_
              refine z_bipush (v := 40) X dX12_sheet_54 (by decide) ?_
              refine z_icmp_le X 65 dX12_sheet_56 (by decide) (fun zc59 => ?_) (fun zc59 => ?_)
              · obtain ⟨sk, hsk, rfl⟩ := ix_of (c := s) (len := 4) (by omega) (by omega)
                refine z_aload_n X 0 dX12_sheet_65 rfl ?_
                refine z_get X fl_X12_37_12 dX12_sheet_66 K0 rfl ?_
                refine z_iload_n X 1 dX12_sheet_69 rfl ?_
                refine z_iload_n X 2 dX12_sheet_70 rfl ?_
                refine z_iast X dX12_sheet_71 K2 (vp_in_nI (n := sk) (by omega) (by omega)) (congrArg (fun z => va_up h (o + 10) (arI κ 4 (upd bi z w))) (nI_clamp (n := sk) (by omega))) ?_
                obtain ⟨zh60, ze61⟩ : ∃ z : Mm, z = va_up h (o + 10) (arI κ 4 (upd bi sk w)) := ⟨_, rfl⟩
                refine z_heap (h' := zh60) ze61.symm ?_
                have zK62 := up_off ze61 (show o ≠ o + 10 by omega) K0
                have zK63 := up_off ze61 (show o + 4 ≠ o + 10 by omega) K1
                have zK64 := up_at ze61
                have zK65 := up_off ze61 (show o + 11 ≠ o + 10 by omega) K3
                have zK66 := up_off ze61 (show o + 12 ≠ o + 10 by omega) K4
                refine z_aload_n X 0 dX12_sheet_72 rfl ?_
                refine z_get X fl_X12_40_12 dX12_sheet_73 zK62 rfl ?_
                refine z_iload_n X 1 dX12_sheet_76 rfl ?_
                refine z_iload_n X 2 dX12_sheet_77 rfl ?_
                refine z_if_ne X 85 dX12_sheet_78 (by decide) (fun zc67 => ?_) (fun zc67 => ?_)
                · refine z_iload_n X 3 dX12_sheet_85 rfl ?_
                  refine z_iast X dX12_sheet_86 zK65 (vp_in_nI (n := sk) (by omega) (by omega)) (congrArg (fun z => va_up zh60 (o + 11) (arI κ 4 (upd si z j))) (nI_clamp (n := sk) (by omega))) ?_
                  obtain ⟨zh68, ze69⟩ : ∃ z : Mm, z = va_up zh60 (o + 11) (arI κ 4 (upd si sk j)) := ⟨_, rfl⟩
                  refine z_heap (h' := zh68) ze69.symm ?_
                  have zK70 := up_off ze69 (show o ≠ o + 11 by omega) zK62
                  have zK71 := up_off ze69 (show o + 4 ≠ o + 11 by omega) zK63
                  have zK72 := up_off ze69 (show o + 10 ≠ o + 11 by omega) zK64
                  have zK73 := up_at ze69
                  have zK74 := up_off ze69 (show o + 12 ≠ o + 11 by omega) zK66
                  refine z_iconst (v := 0) X dX12_sheet_87 (by decide) ?_
                  refine z_istore (ls' := [(4, .int 0), (0, .ref o), (1, .int (nI sk)), (2, .int w), (3, .int j)]) X dX12_sheet_88 (by decide) rfl ?_
                  have L90 : ∀ (jj : Nat) (hh90 : Mm)  (i : Nat) (e : Nat → Int32), (40 - i < jj) → (hh90 = va_up (va_up (va_up h (o + 10) (arI κ 4 (upd bi sk w))) (o + 11) (arI κ 4 (upd si sk j))) (o + 12) (arI κ 160 e)) → (hi : i ≤ 40) → (hg : ∀ q, e q = if 40 * sk ≤ q ∧ q < 40 * sk + i then 0 else nu q) → Z κ G 5 90 [(0, .ref o), (1, .int (nI sk)), (2, .int w), (3, .int j), (4, .int (nI i))] [] hh90 n 0 (0) := by
                    intro jj
                    induction jj with
                    | zero => intro hh90 i e hmu; exact absurd hmu (Nat.not_lt_zero _)
                    | succ jj ih90 =>
                      intro hh90 i e hmu he90 hi hg
                      have zK75 : hh90 o = some (.inr (12, [.ref (o + 1), .ref (o + 2), .ref (o + 3), .int im, .ref (o + 4), .int ba, .int at_, .int sz, .int fa, .int op, .ref (o + 5), .ref (o + 6), .int rm, .ref (o + 7), .ref (o + 8), .int ti, .ref (o + 9), .int tm, .int wh, .ref (o + 10), .ref (o + 11), .ref (o + 12), .ref (o + 13)])) := by rw [he90]; rw [va_up_ne _ _ (show o ≠ o + 12 by omega)]; rw [va_up_ne _ _ (show o ≠ o + 11 by omega)]; rw [va_up_ne _ _ (show o ≠ o + 10 by omega)]; exact K0
                      have zK76 : hh90 (o + 4) = arI κ 6 fo := by rw [he90]; rw [va_up_ne _ _ (show o + 4 ≠ o + 12 by omega)]; rw [va_up_ne _ _ (show o + 4 ≠ o + 11 by omega)]; rw [va_up_ne _ _ (show o + 4 ≠ o + 10 by omega)]; exact K1
                      have zK77 : hh90 (o + 10) = arI κ 4 (upd bi sk w) := by rw [he90]; rw [va_up_ne _ _ (show o + 10 ≠ o + 12 by omega)]; rw [va_up_ne _ _ (show o + 10 ≠ o + 11 by omega)]; exact va_up_self _ _ _
                      have zK78 : hh90 (o + 11) = arI κ 4 (upd si sk j) := by rw [he90]; rw [va_up_ne _ _ (show o + 11 ≠ o + 12 by omega)]; exact va_up_self _ _ _
                      have zK79 : hh90 (o + 12) = arI κ 160 e := by rw [he90]; exact va_up_self _ _ _
                      refine z_iload X 4 dX12_sheet_90 rfl ?_
                      refine z_bipush (v := 40) X dX12_sheet_92 (by decide) ?_
                      refine z_icmp_ge X 116 dX12_sheet_94 (by decide) (fun zc80 => ?_) (fun zc80 => ?_)
                      · try replace zc80 := (nI_leI (a := 40) (b := i) (by omega) (by omega)).mp zc80
                        refine z_iconst (v := 1) X dX12_sheet_116 (by decide) ?_
                        refine z_ext (g := fun q => if 40 * sk ≤ q ∧ q < 40 * sk + 40 then 0 else nu q) zK79 (fun z hz => by rw [hg z, show i = 40 by omega]) ?_
                        obtain ⟨zh81, ze82⟩ : ∃ z : Mm, z = va_up hh90 (o + 12) (arI κ 160 (fun q => if 40 * sk ≤ q ∧ q < 40 * sk + 40 then 0 else nu q)) := ⟨_, rfl⟩
                        refine z_heap (h' := zh81) ze82.symm ?_
                        have zK83 := up_off ze82 (show o ≠ o + 12 by omega) zK75
                        have zK84 := up_off ze82 (show o + 4 ≠ o + 12 by omega) zK76
                        have zK85 := up_off ze82 (show o + 10 ≠ o + 12 by omega) zK77
                        have zK86 := up_off ze82 (show o + 11 ≠ o + 12 by omega) zK78
                        have zK87 := up_at ze82
                        refine z_iret X E dX12_sheet_117 (by omega) (by omega) ⟨?_, ?_, ?_⟩
                        · (have hop : opSheet (nI sk) w j = (0, 1) := by (unfold opSheet; (try simp only [i_nI (n := sk) (by omega), nI_clamp (n := sk) (by omega),  i_eq, i_lt, i_le, show (-1 : Int32).toInt = -1 by decide, show (0 : Int32).toInt = 0 by decide, show (1 : Int32).toInt = 1 by decide, show (2 : Int32).toInt = 2 by decide, show (3 : Int32).toInt = 3 by decide, show (4 : Int32).toInt = 4 by decide, show (5 : Int32).toInt = 5 by decide, show (6 : Int32).toInt = 6 by decide, show (7 : Int32).toInt = 7 by decide, show (8 : Int32).toInt = 8 by decide, show (9 : Int32).toInt = 9 by decide, show (10 : Int32).toInt = 10 by decide, show (11 : Int32).toInt = 11 by decide, show (12 : Int32).toInt = 12 by decide, show (13 : Int32).toInt = 13 by decide, show (14 : Int32).toInt = 14 by decide, show (15 : Int32).toInt = 15 by decide, show (16 : Int32).toInt = 16 by decide, show (20 : Int32).toInt = 20 by decide, show (39 : Int32).toInt = 39 by decide, show (40 : Int32).toInt = 40 by decide, show (50 : Int32).toInt = 50 by decide, show (60 : Int32).toInt = 60 by decide, show (99 : Int32).toInt = 99 by decide, show (100 : Int32).toInt = 100 by decide, show (999 : Int32).toInt = 999 by decide, show (9999 : Int32).toInt = 9999 by decide, show (99999 : Int32).toInt = 99999 by decide, show (999999 : Int32).toInt = 999999 by decide, show (9999999 : Int32).toInt = 9999999 by decide, show (-50 : Int32).toInt = -50 by decide, show (32 : Int32).toInt = 32 by decide] at *); (repeat first | rw [if_pos (by omega)] | rw [if_neg (by omega)]))); rw [hop]; rfl
                        · (have hop : opSheet (nI sk) w j = (0, 1) := by (unfold opSheet; (try simp only [i_nI (n := sk) (by omega), nI_clamp (n := sk) (by omega),  i_eq, i_lt, i_le, show (-1 : Int32).toInt = -1 by decide, show (0 : Int32).toInt = 0 by decide, show (1 : Int32).toInt = 1 by decide, show (2 : Int32).toInt = 2 by decide, show (3 : Int32).toInt = 3 by decide, show (4 : Int32).toInt = 4 by decide, show (5 : Int32).toInt = 5 by decide, show (6 : Int32).toInt = 6 by decide, show (7 : Int32).toInt = 7 by decide, show (8 : Int32).toInt = 8 by decide, show (9 : Int32).toInt = 9 by decide, show (10 : Int32).toInt = 10 by decide, show (11 : Int32).toInt = 11 by decide, show (12 : Int32).toInt = 12 by decide, show (13 : Int32).toInt = 13 by decide, show (14 : Int32).toInt = 14 by decide, show (15 : Int32).toInt = 15 by decide, show (16 : Int32).toInt = 16 by decide, show (20 : Int32).toInt = 20 by decide, show (39 : Int32).toInt = 39 by decide, show (40 : Int32).toInt = 40 by decide, show (50 : Int32).toInt = 50 by decide, show (60 : Int32).toInt = 60 by decide, show (99 : Int32).toInt = 99 by decide, show (100 : Int32).toInt = 100 by decide, show (999 : Int32).toInt = 999 by decide, show (9999 : Int32).toInt = 9999 by decide, show (99999 : Int32).toInt = 99999 by decide, show (999999 : Int32).toInt = 999999 by decide, show (9999999 : Int32).toInt = 9999999 by decide, show (-50 : Int32).toInt = -50 by decide, show (32 : Int32).toInt = 32 by decide] at *); (repeat first | rw [if_pos (by omega)] | rw [if_neg (by omega)]))); (have hwz : (if w.toInt = 0 then (0 : Int32) else j) = j := by ((try simp only [i_nI (n := sk) (by omega), nI_clamp (n := sk) (by omega),  i_eq, i_lt, i_le, show (-1 : Int32).toInt = -1 by decide, show (0 : Int32).toInt = 0 by decide, show (1 : Int32).toInt = 1 by decide, show (2 : Int32).toInt = 2 by decide, show (3 : Int32).toInt = 3 by decide, show (4 : Int32).toInt = 4 by decide, show (5 : Int32).toInt = 5 by decide, show (6 : Int32).toInt = 6 by decide, show (7 : Int32).toInt = 7 by decide, show (8 : Int32).toInt = 8 by decide, show (9 : Int32).toInt = 9 by decide, show (10 : Int32).toInt = 10 by decide, show (11 : Int32).toInt = 11 by decide, show (12 : Int32).toInt = 12 by decide, show (13 : Int32).toInt = 13 by decide, show (14 : Int32).toInt = 14 by decide, show (15 : Int32).toInt = 15 by decide, show (16 : Int32).toInt = 16 by decide, show (20 : Int32).toInt = 20 by decide, show (39 : Int32).toInt = 39 by decide, show (40 : Int32).toInt = 40 by decide, show (50 : Int32).toInt = 50 by decide, show (60 : Int32).toInt = 60 by decide, show (99 : Int32).toInt = 99 by decide, show (100 : Int32).toInt = 100 by decide, show (999 : Int32).toInt = 999 by decide, show (9999 : Int32).toInt = 9999 by decide, show (99999 : Int32).toInt = 99999 by decide, show (999999 : Int32).toInt = 999999 by decide, show (9999999 : Int32).toInt = 9999999 by decide, show (-50 : Int32).toInt = -50 by decide, show (32 : Int32).toInt = 32 by decide] at *); (first | rw [if_pos (by omega)] | rw [if_neg (by omega)]); try decide)); unfold biSheet siSheet nuSheet; rw [hop, hwz, nI_clamp (n := sk) (by omega)]; rw [ze82, he90]; (funext zz; simp only [va_up, bump, ↓reduceIte]; (repeat' split) <;> first | rfl | (exfalso; omega) | (simp_all; done))
                        · rfl
                      · try replace zc80 := mt (nI_leI (a := 40) (b := i) (by omega) (by omega)).mpr zc80
                        refine z_aload_n X 0 dX12_sheet_97 rfl ?_
                        refine z_get X fl_X12_43_12 dX12_sheet_98 zK75 rfl ?_
                        refine z_bipush (v := 40) X dX12_sheet_101 (by decide) ?_
                        refine z_iload_n X 1 dX12_sheet_103 rfl ?_
                        refine z_imul X dX12_sheet_104 ?_
                        refine z_toe (y := nI (40 * sk)) (pk_mul (40) (sk)) ?_
                        refine z_iload X 4 dX12_sheet_105 rfl ?_
                        refine z_iadd X dX12_sheet_107 ?_
                        refine z_toe (y := nI ((40 * sk) + i)) (nI_add (40 * sk) (i)) ?_
                        refine z_iconst (v := 0) X dX12_sheet_108 (by decide) ?_
                        refine z_iast X dX12_sheet_109 zK79 (vp_in_nI (n := (40 * sk) + i) (by omega) (by omega)) (congrArg (fun z => va_up hh90 (o + 12) (arI κ 160 (upd e z 0))) (nI_clamp (n := (40 * sk) + i) (by omega))) ?_
                        obtain ⟨zh88, ze89⟩ : ∃ z : Mm, z = va_up hh90 (o + 12) (arI κ 160 (upd e ((40 * sk) + i) 0)) := ⟨_, rfl⟩
                        refine z_heap (h' := zh88) ze89.symm ?_
                        have zK90 := up_off ze89 (show o ≠ o + 12 by omega) zK75
                        have zK91 := up_off ze89 (show o + 4 ≠ o + 12 by omega) zK76
                        have zK92 := up_off ze89 (show o + 10 ≠ o + 12 by omega) zK77
                        have zK93 := up_off ze89 (show o + 11 ≠ o + 12 by omega) zK78
                        have zK94 := up_at ze89
                        refine z_iinc (v := nI (i + 1)) (ls' := [(4, .int (nI (i + 1))), (0, .ref o), (1, .int (nI sk)), (2, .int w), (3, .int j)]) X 4 dX12_sheet_110 rfl (nI_1 (i)) (by decide) rfl ?_
                        refine z_goto X 90 dX12_sheet_113 (by decide) ?_
                        refine z_sub (ls' := [(0, .ref o), (1, .int (nI sk)), (2, .int w), (3, .int j), (4, .int (nI (i + 1)))]) [1, 2, 3, 4, 0] rfl ?_
                        exact ih90 _ (i + 1) (upd e ((40 * sk) + i) 0) (by omega) (by first | (rw [ze89, he90]; done) | (rw [ze89, he90]; simp only [up_up]; done) | (rw [ze89, he90]; funext zz; simp only [va_up]; (repeat' split) <;> first | rfl | (exfalso; omega) | simp_all)) (by first | assumption | rfl | omega) (by intro q; unfold upd; by_cases hq : q = 40 * sk + i; (rw [if_pos hq, if_pos (by omega)]); rw [if_neg hq, hg q]; by_cases hr : 40 * sk ≤ q ∧ q < 40 * sk + i; (rw [if_pos hr, if_pos (by omega)]); rw [if_neg hr, if_neg (by omega)])
                  refine z_sub (ls' := [(0, .ref o), (1, .int (nI sk)), (2, .int w), (3, .int j), (4, .int 0)]) [1, 2, 3, 4, 0] rfl ?_
                  exact L90 _ _ 0 nu (Nat.lt_succ_self _) (by first | (rw [ze69, ze61]; done) | (rw [ze69, ze61]; simp only [up_up]; done) | (rw [ze69, ze61]; funext zz; simp only [va_up]; (repeat' split) <;> first | rfl | (exfalso; omega) | simp_all)) (by first | assumption | rfl | omega) (by intro q; rw [if_neg (by omega)])
                · first | exact absurd zc67 zc58 | exact absurd zc58 zc67 | (exfalso; omega) | (exfalso; simp only [i_eq, i_lt, i_le] at *; omega)
              · refine z_aload_n X 0 dX12_sheet_59 rfl ?_
                refine z_iconst (v := 1) X dX12_sheet_60 (by decide) ?_
                refine z_callV X (r_finds (κ := κ) (n := n) (o := (o)) (k := (1)) (fo := (fo)) (im := (im)) (ba := (ba)) (at_ := (at_)) (sz := (sz)) (fa := (fa)) (op := (op)) (rm := (rm)) (ti := (ti)) (tm := (tm)) (wh := (wh)) K0 K1 (by first | assumption | omega) (by first | assumption | omega)) mk_X12_finds dX12_sheet_61 wd_1018 wd_1020 wd_24 rfl K0 rfl rfl rfl (Nat.le_of_ble_eq_true rfl) (Nat.le_of_ble_eq_true rfl) (Nat.le_of_ble_eq_true rfl) (by omega) (by omega) (fun q zh95 zm97 zp98 => ?_)
                obtain ⟨rfl, ze96, zn99⟩ := zp98
                subst zm97
                refine z_st (st' := [.int (lowE 1)]) rfl ?_
                have zK100 : zh95 o = some (.inr (12, [.ref (o + 1), .ref (o + 2), .ref (o + 3), .int im, .ref (o + 4), .int ba, .int at_, .int sz, .int fa, .int op, .ref (o + 5), .ref (o + 6), .int rm, .ref (o + 7), .ref (o + 8), .int ti, .ref (o + 9), .int tm, .int wh, .ref (o + 10), .ref (o + 11), .ref (o + 12), .ref (o + 13)])) := by rw [ze96]; rw [va_up_ne _ _ (show o ≠ o + 4 by omega)]; exact K0
                have zK101 : zh95 (o + 4) = arI κ 6 (bmp fo 1) := by rw [ze96]; exact va_up_self _ _ _
                have zK102 : zh95 (o + 10) = arI κ 4 bi := by rw [ze96]; rw [va_up_ne _ _ (show o + 10 ≠ o + 4 by omega)]; exact K2
                have zK103 : zh95 (o + 11) = arI κ 4 si := by rw [ze96]; rw [va_up_ne _ _ (show o + 11 ≠ o + 4 by omega)]; exact K3
                have zK104 : zh95 (o + 12) = arI κ 160 nu := by rw [ze96]; rw [va_up_ne _ _ (show o + 12 ≠ o + 4 by omega)]; exact K4
                refine z_iret X E dX12_sheet_64 (by omega) (by omega) ⟨?_, ?_, ?_⟩
                · (have hop : opSheet s w j = (1, 0) := by (unfold opSheet; (try simp only [ i_eq, i_lt, i_le, show (-1 : Int32).toInt = -1 by decide, show (0 : Int32).toInt = 0 by decide, show (1 : Int32).toInt = 1 by decide, show (2 : Int32).toInt = 2 by decide, show (3 : Int32).toInt = 3 by decide, show (4 : Int32).toInt = 4 by decide, show (5 : Int32).toInt = 5 by decide, show (6 : Int32).toInt = 6 by decide, show (7 : Int32).toInt = 7 by decide, show (8 : Int32).toInt = 8 by decide, show (9 : Int32).toInt = 9 by decide, show (10 : Int32).toInt = 10 by decide, show (11 : Int32).toInt = 11 by decide, show (12 : Int32).toInt = 12 by decide, show (13 : Int32).toInt = 13 by decide, show (14 : Int32).toInt = 14 by decide, show (15 : Int32).toInt = 15 by decide, show (16 : Int32).toInt = 16 by decide, show (20 : Int32).toInt = 20 by decide, show (39 : Int32).toInt = 39 by decide, show (40 : Int32).toInt = 40 by decide, show (50 : Int32).toInt = 50 by decide, show (60 : Int32).toInt = 60 by decide, show (99 : Int32).toInt = 99 by decide, show (100 : Int32).toInt = 100 by decide, show (999 : Int32).toInt = 999 by decide, show (9999 : Int32).toInt = 9999 by decide, show (99999 : Int32).toInt = 99999 by decide, show (999999 : Int32).toInt = 999999 by decide, show (9999999 : Int32).toInt = 9999999 by decide, show (-50 : Int32).toInt = -50 by decide, show (32 : Int32).toInt = 32 by decide] at *); (repeat first | rw [if_pos (by omega)] | rw [if_neg (by omega)]))); rw [hop]; rfl
                · (have hop : opSheet s w j = (1, 0) := by (unfold opSheet; (try simp only [ i_eq, i_lt, i_le, show (-1 : Int32).toInt = -1 by decide, show (0 : Int32).toInt = 0 by decide, show (1 : Int32).toInt = 1 by decide, show (2 : Int32).toInt = 2 by decide, show (3 : Int32).toInt = 3 by decide, show (4 : Int32).toInt = 4 by decide, show (5 : Int32).toInt = 5 by decide, show (6 : Int32).toInt = 6 by decide, show (7 : Int32).toInt = 7 by decide, show (8 : Int32).toInt = 8 by decide, show (9 : Int32).toInt = 9 by decide, show (10 : Int32).toInt = 10 by decide, show (11 : Int32).toInt = 11 by decide, show (12 : Int32).toInt = 12 by decide, show (13 : Int32).toInt = 13 by decide, show (14 : Int32).toInt = 14 by decide, show (15 : Int32).toInt = 15 by decide, show (16 : Int32).toInt = 16 by decide, show (20 : Int32).toInt = 20 by decide, show (39 : Int32).toInt = 39 by decide, show (40 : Int32).toInt = 40 by decide, show (50 : Int32).toInt = 50 by decide, show (60 : Int32).toInt = 60 by decide, show (99 : Int32).toInt = 99 by decide, show (100 : Int32).toInt = 100 by decide, show (999 : Int32).toInt = 999 by decide, show (9999 : Int32).toInt = 9999 by decide, show (99999 : Int32).toInt = 99999 by decide, show (999999 : Int32).toInt = 999999 by decide, show (9999999 : Int32).toInt = 9999999 by decide, show (-50 : Int32).toInt = -50 by decide, show (32 : Int32).toInt = 32 by decide] at *); (repeat first | rw [if_pos (by omega)] | rw [if_neg (by omega)]))); unfold biSheet siSheet nuSheet; rw [hop]; rw [ze96]; (funext zz; simp only [va_up, bump, ↓reduceIte]; (repeat' split) <;> first | rfl | (exfalso; omega) | (simp_all; done))
                · rfl
          · refine z_aload_n X 0 dX12_sheet_43 rfl ?_
            refine z_iconst (v := 3) X dX12_sheet_44 (by decide) ?_
            refine z_callV X (r_finds (κ := κ) (n := n) (o := (o)) (k := (3)) (fo := (fo)) (im := (im)) (ba := (ba)) (at_ := (at_)) (sz := (sz)) (fa := (fa)) (op := (op)) (rm := (rm)) (ti := (ti)) (tm := (tm)) (wh := (wh)) K0 K1 (by first | assumption | omega) (by first | assumption | omega)) mk_X12_finds dX12_sheet_45 wd_1018 wd_1020 wd_24 rfl K0 rfl rfl rfl (Nat.le_of_ble_eq_true rfl) (Nat.le_of_ble_eq_true rfl) (Nat.le_of_ble_eq_true rfl) (by omega) (by omega) (fun q zh105 zm107 zp108 => ?_)
            obtain ⟨rfl, ze106, zn109⟩ := zp108
            subst zm107
            refine z_st (st' := [.int (lowE 3)]) rfl ?_
            have zK110 : zh105 o = some (.inr (12, [.ref (o + 1), .ref (o + 2), .ref (o + 3), .int im, .ref (o + 4), .int ba, .int at_, .int sz, .int fa, .int op, .ref (o + 5), .ref (o + 6), .int rm, .ref (o + 7), .ref (o + 8), .int ti, .ref (o + 9), .int tm, .int wh, .ref (o + 10), .ref (o + 11), .ref (o + 12), .ref (o + 13)])) := by rw [ze106]; rw [va_up_ne _ _ (show o ≠ o + 4 by omega)]; exact K0
            have zK111 : zh105 (o + 4) = arI κ 6 (bmp fo 3) := by rw [ze106]; exact va_up_self _ _ _
            have zK112 : zh105 (o + 10) = arI κ 4 bi := by rw [ze106]; rw [va_up_ne _ _ (show o + 10 ≠ o + 4 by omega)]; exact K2
            have zK113 : zh105 (o + 11) = arI κ 4 si := by rw [ze106]; rw [va_up_ne _ _ (show o + 11 ≠ o + 4 by omega)]; exact K3
            have zK114 : zh105 (o + 12) = arI κ 160 nu := by rw [ze106]; rw [va_up_ne _ _ (show o + 12 ≠ o + 4 by omega)]; exact K4
            refine z_iret X E dX12_sheet_48 (by omega) (by omega) ⟨?_, ?_, ?_⟩
            · (have hop : opSheet s w j = (3, 0) := by (unfold opSheet; (try simp only [ i_eq, i_lt, i_le, show (-1 : Int32).toInt = -1 by decide, show (0 : Int32).toInt = 0 by decide, show (1 : Int32).toInt = 1 by decide, show (2 : Int32).toInt = 2 by decide, show (3 : Int32).toInt = 3 by decide, show (4 : Int32).toInt = 4 by decide, show (5 : Int32).toInt = 5 by decide, show (6 : Int32).toInt = 6 by decide, show (7 : Int32).toInt = 7 by decide, show (8 : Int32).toInt = 8 by decide, show (9 : Int32).toInt = 9 by decide, show (10 : Int32).toInt = 10 by decide, show (11 : Int32).toInt = 11 by decide, show (12 : Int32).toInt = 12 by decide, show (13 : Int32).toInt = 13 by decide, show (14 : Int32).toInt = 14 by decide, show (15 : Int32).toInt = 15 by decide, show (16 : Int32).toInt = 16 by decide, show (20 : Int32).toInt = 20 by decide, show (39 : Int32).toInt = 39 by decide, show (40 : Int32).toInt = 40 by decide, show (50 : Int32).toInt = 50 by decide, show (60 : Int32).toInt = 60 by decide, show (99 : Int32).toInt = 99 by decide, show (100 : Int32).toInt = 100 by decide, show (999 : Int32).toInt = 999 by decide, show (9999 : Int32).toInt = 9999 by decide, show (99999 : Int32).toInt = 99999 by decide, show (999999 : Int32).toInt = 999999 by decide, show (9999999 : Int32).toInt = 9999999 by decide, show (-50 : Int32).toInt = -50 by decide, show (32 : Int32).toInt = 32 by decide] at *); (repeat first | rw [if_pos (by omega)] | rw [if_neg (by omega)]))); rw [hop]; rfl
            · (have hop : opSheet s w j = (3, 0) := by (unfold opSheet; (try simp only [ i_eq, i_lt, i_le, show (-1 : Int32).toInt = -1 by decide, show (0 : Int32).toInt = 0 by decide, show (1 : Int32).toInt = 1 by decide, show (2 : Int32).toInt = 2 by decide, show (3 : Int32).toInt = 3 by decide, show (4 : Int32).toInt = 4 by decide, show (5 : Int32).toInt = 5 by decide, show (6 : Int32).toInt = 6 by decide, show (7 : Int32).toInt = 7 by decide, show (8 : Int32).toInt = 8 by decide, show (9 : Int32).toInt = 9 by decide, show (10 : Int32).toInt = 10 by decide, show (11 : Int32).toInt = 11 by decide, show (12 : Int32).toInt = 12 by decide, show (13 : Int32).toInt = 13 by decide, show (14 : Int32).toInt = 14 by decide, show (15 : Int32).toInt = 15 by decide, show (16 : Int32).toInt = 16 by decide, show (20 : Int32).toInt = 20 by decide, show (39 : Int32).toInt = 39 by decide, show (40 : Int32).toInt = 40 by decide, show (50 : Int32).toInt = 50 by decide, show (60 : Int32).toInt = 60 by decide, show (99 : Int32).toInt = 99 by decide, show (100 : Int32).toInt = 100 by decide, show (999 : Int32).toInt = 999 by decide, show (9999 : Int32).toInt = 9999 by decide, show (99999 : Int32).toInt = 99999 by decide, show (999999 : Int32).toInt = 999999 by decide, show (9999999 : Int32).toInt = 9999999 by decide, show (-50 : Int32).toInt = -50 by decide, show (32 : Int32).toInt = 32 by decide] at *); (repeat first | rw [if_pos (by omega)] | rw [if_neg (by omega)]))); unfold biSheet siSheet nuSheet; rw [hop]; rw [ze106]; (funext zz; simp only [va_up, bump, ↓reduceIte]; (repeat' split) <;> first | rfl | (exfalso; omega) | (simp_all; done))
            · rfl
      · refine z_iload_n X 2 dX12_sheet_17 rfl ?_
        refine z_bipush (v := 16) X dX12_sheet_18 (by decide) ?_
        refine z_icmp_eq X 35 dX12_sheet_20 (by decide) (fun zc115 => ?_) (fun zc115 => ?_)
        · refine z_iload_n X 2 dX12_sheet_35 rfl ?_
          refine z_if_eq X 49 dX12_sheet_36 (by decide) (fun zc116 => ?_) (fun zc116 => ?_)
          · first | exact absurd zc116 zc17 | exact absurd zc17 zc116 | (exfalso; omega) | (exfalso; simp only [i_eq, i_lt, i_le] at *; omega)
          · refine z_iload_n X 3 dX12_sheet_39 rfl ?_
            refine z_if_ge X 49 dX12_sheet_40 (by decide) (fun zc117 => ?_) (fun zc117 => ?_)
            · refine z_iload_n X 2 dX12_sheet_49 rfl ?_
              refine z_if_eq X 65 dX12_sheet_50 (by decide) (fun zc118 => ?_) (fun zc118 => ?_)
              · first | exact absurd zc118 zc116 | exact absurd zc116 zc118 | (exfalso; omega) | (exfalso; simp only [i_eq, i_lt, i_le] at *; omega)
              · refine z_iload_n X 3 dX12_sheet_53 rfl ?_
                refine z_bipush (v := 40) X dX12_sheet_54 (by decide) ?_
                refine z_icmp_le X 65 dX12_sheet_56 (by decide) (fun zc119 => ?_) (fun zc119 => ?_)
                · obtain ⟨sk, hsk, rfl⟩ := ix_of (c := s) (len := 4) (by omega) (by omega)
                  refine z_aload_n X 0 dX12_sheet_65 rfl ?_
                  refine z_get X fl_X12_37_12 dX12_sheet_66 K0 rfl ?_
                  refine z_iload_n X 1 dX12_sheet_69 rfl ?_
                  refine z_iload_n X 2 dX12_sheet_70 rfl ?_
                  refine z_iast X dX12_sheet_71 K2 (vp_in_nI (n := sk) (by omega) (by omega)) (congrArg (fun z => va_up h (o + 10) (arI κ 4 (upd bi z w))) (nI_clamp (n := sk) (by omega))) ?_
                  obtain ⟨zh120, ze121⟩ : ∃ z : Mm, z = va_up h (o + 10) (arI κ 4 (upd bi sk w)) := ⟨_, rfl⟩
                  refine z_heap (h' := zh120) ze121.symm ?_
                  have zK122 := up_off ze121 (show o ≠ o + 10 by omega) K0
                  have zK123 := up_off ze121 (show o + 4 ≠ o + 10 by omega) K1
                  have zK124 := up_at ze121
                  have zK125 := up_off ze121 (show o + 11 ≠ o + 10 by omega) K3
                  have zK126 := up_off ze121 (show o + 12 ≠ o + 10 by omega) K4
                  refine z_aload_n X 0 dX12_sheet_72 rfl ?_
                  refine z_get X fl_X12_40_12 dX12_sheet_73 zK122 rfl ?_
                  refine z_iload_n X 1 dX12_sheet_76 rfl ?_
                  refine z_iload_n X 2 dX12_sheet_77 rfl ?_
                  refine z_if_ne X 85 dX12_sheet_78 (by decide) (fun zc127 => ?_) (fun zc127 => ?_)
                  · refine z_iload_n X 3 dX12_sheet_85 rfl ?_
                    refine z_iast X dX12_sheet_86 zK125 (vp_in_nI (n := sk) (by omega) (by omega)) (congrArg (fun z => va_up zh120 (o + 11) (arI κ 4 (upd si z j))) (nI_clamp (n := sk) (by omega))) ?_
                    obtain ⟨zh128, ze129⟩ : ∃ z : Mm, z = va_up zh120 (o + 11) (arI κ 4 (upd si sk j)) := ⟨_, rfl⟩
                    refine z_heap (h' := zh128) ze129.symm ?_
                    have zK130 := up_off ze129 (show o ≠ o + 11 by omega) zK122
                    have zK131 := up_off ze129 (show o + 4 ≠ o + 11 by omega) zK123
                    have zK132 := up_off ze129 (show o + 10 ≠ o + 11 by omega) zK124
                    have zK133 := up_at ze129
                    have zK134 := up_off ze129 (show o + 12 ≠ o + 11 by omega) zK126
                    refine z_iconst (v := 0) X dX12_sheet_87 (by decide) ?_
                    refine z_istore (ls' := [(4, .int 0), (0, .ref o), (1, .int (nI sk)), (2, .int w), (3, .int j)]) X dX12_sheet_88 (by decide) rfl ?_
                    have L90 : ∀ (jj : Nat) (hh90 : Mm)  (i : Nat) (e : Nat → Int32), (40 - i < jj) → (hh90 = va_up (va_up (va_up h (o + 10) (arI κ 4 (upd bi sk w))) (o + 11) (arI κ 4 (upd si sk j))) (o + 12) (arI κ 160 e)) → (hi : i ≤ 40) → (hg : ∀ q, e q = if 40 * sk ≤ q ∧ q < 40 * sk + i then 0 else nu q) → Z κ G 5 90 [(0, .ref o), (1, .int (nI sk)), (2, .int w), (3, .int j), (4, .int (nI i))] [] hh90 n 0 (0) := by
                      intro jj
                      induction jj with
                      | zero => intro hh90 i e hmu; exact absurd hmu (Nat.not_lt_zero _)
                      | succ jj ih90 =>
                        intro hh90 i e hmu he90 hi hg
                        have zK135 : hh90 o = some (.inr (12, [.ref (o + 1), .ref (o + 2), .ref (o + 3), .int im, .ref (o + 4), .int ba, .int at_, .int sz, .int fa, .int op, .ref (o + 5), .ref (o + 6), .int rm, .ref (o + 7), .ref (o + 8), .int ti, .ref (o + 9), .int tm, .int wh, .ref (o + 10), .ref (o + 11), .ref (o + 12), .ref (o + 13)])) := by rw [he90]; rw [va_up_ne _ _ (show o ≠ o + 12 by omega)]; rw [va_up_ne _ _ (show o ≠ o + 11 by omega)]; rw [va_up_ne _ _ (show o ≠ o + 10 by omega)]; exact K0
                        have zK136 : hh90 (o + 4) = arI κ 6 fo := by rw [he90]; rw [va_up_ne _ _ (show o + 4 ≠ o + 12 by omega)]; rw [va_up_ne _ _ (show o + 4 ≠ o + 11 by omega)]; rw [va_up_ne _ _ (show o + 4 ≠ o + 10 by omega)]; exact K1
                        have zK137 : hh90 (o + 10) = arI κ 4 (upd bi sk w) := by rw [he90]; rw [va_up_ne _ _ (show o + 10 ≠ o + 12 by omega)]; rw [va_up_ne _ _ (show o + 10 ≠ o + 11 by omega)]; exact va_up_self _ _ _
                        have zK138 : hh90 (o + 11) = arI κ 4 (upd si sk j) := by rw [he90]; rw [va_up_ne _ _ (show o + 11 ≠ o + 12 by omega)]; exact va_up_self _ _ _
                        have zK139 : hh90 (o + 12) = arI κ 160 e := by rw [he90]; exact va_up_self _ _ _
                        refine z_iload X 4 dX12_sheet_90 rfl ?_
                        refine z_bipush (v := 40) X dX12_sheet_92 (by decide) ?_
                        refine z_icmp_ge X 116 dX12_sheet_94 (by decide) (fun zc140 => ?_) (fun zc140 => ?_)
                        · try replace zc140 := (nI_leI (a := 40) (b := i) (by omega) (by omega)).mp zc140
                          refine z_iconst (v := 1) X dX12_sheet_116 (by decide) ?_
                          refine z_ext (g := fun q => if 40 * sk ≤ q ∧ q < 40 * sk + 40 then 0 else nu q) zK139 (fun z hz => by rw [hg z, show i = 40 by omega]) ?_
                          obtain ⟨zh141, ze142⟩ : ∃ z : Mm, z = va_up hh90 (o + 12) (arI κ 160 (fun q => if 40 * sk ≤ q ∧ q < 40 * sk + 40 then 0 else nu q)) := ⟨_, rfl⟩
                          refine z_heap (h' := zh141) ze142.symm ?_
                          have zK143 := up_off ze142 (show o ≠ o + 12 by omega) zK135
                          have zK144 := up_off ze142 (show o + 4 ≠ o + 12 by omega) zK136
                          have zK145 := up_off ze142 (show o + 10 ≠ o + 12 by omega) zK137
                          have zK146 := up_off ze142 (show o + 11 ≠ o + 12 by omega) zK138
                          have zK147 := up_at ze142
                          refine z_iret X E dX12_sheet_117 (by omega) (by omega) ⟨?_, ?_, ?_⟩
                          · (have hop : opSheet (nI sk) w j = (0, 1) := by (unfold opSheet; (try simp only [i_nI (n := sk) (by omega), nI_clamp (n := sk) (by omega),  i_eq, i_lt, i_le, show (-1 : Int32).toInt = -1 by decide, show (0 : Int32).toInt = 0 by decide, show (1 : Int32).toInt = 1 by decide, show (2 : Int32).toInt = 2 by decide, show (3 : Int32).toInt = 3 by decide, show (4 : Int32).toInt = 4 by decide, show (5 : Int32).toInt = 5 by decide, show (6 : Int32).toInt = 6 by decide, show (7 : Int32).toInt = 7 by decide, show (8 : Int32).toInt = 8 by decide, show (9 : Int32).toInt = 9 by decide, show (10 : Int32).toInt = 10 by decide, show (11 : Int32).toInt = 11 by decide, show (12 : Int32).toInt = 12 by decide, show (13 : Int32).toInt = 13 by decide, show (14 : Int32).toInt = 14 by decide, show (15 : Int32).toInt = 15 by decide, show (16 : Int32).toInt = 16 by decide, show (20 : Int32).toInt = 20 by decide, show (39 : Int32).toInt = 39 by decide, show (40 : Int32).toInt = 40 by decide, show (50 : Int32).toInt = 50 by decide, show (60 : Int32).toInt = 60 by decide, show (99 : Int32).toInt = 99 by decide, show (100 : Int32).toInt = 100 by decide, show (999 : Int32).toInt = 999 by decide, show (9999 : Int32).toInt = 9999 by decide, show (99999 : Int32).toInt = 99999 by decide, show (999999 : Int32).toInt = 999999 by decide, show (9999999 : Int32).toInt = 9999999 by decide, show (-50 : Int32).toInt = -50 by decide, show (32 : Int32).toInt = 32 by decide] at *); (repeat first | rw [if_pos (by omega)] | rw [if_neg (by omega)]))); rw [hop]; rfl
                          · (have hop : opSheet (nI sk) w j = (0, 1) := by (unfold opSheet; (try simp only [i_nI (n := sk) (by omega), nI_clamp (n := sk) (by omega),  i_eq, i_lt, i_le, show (-1 : Int32).toInt = -1 by decide, show (0 : Int32).toInt = 0 by decide, show (1 : Int32).toInt = 1 by decide, show (2 : Int32).toInt = 2 by decide, show (3 : Int32).toInt = 3 by decide, show (4 : Int32).toInt = 4 by decide, show (5 : Int32).toInt = 5 by decide, show (6 : Int32).toInt = 6 by decide, show (7 : Int32).toInt = 7 by decide, show (8 : Int32).toInt = 8 by decide, show (9 : Int32).toInt = 9 by decide, show (10 : Int32).toInt = 10 by decide, show (11 : Int32).toInt = 11 by decide, show (12 : Int32).toInt = 12 by decide, show (13 : Int32).toInt = 13 by decide, show (14 : Int32).toInt = 14 by decide, show (15 : Int32).toInt = 15 by decide, show (16 : Int32).toInt = 16 by decide, show (20 : Int32).toInt = 20 by decide, show (39 : Int32).toInt = 39 by decide, show (40 : Int32).toInt = 40 by decide, show (50 : Int32).toInt = 50 by decide, show (60 : Int32).toInt = 60 by decide, show (99 : Int32).toInt = 99 by decide, show (100 : Int32).toInt = 100 by decide, show (999 : Int32).toInt = 999 by decide, show (9999 : Int32).toInt = 9999 by decide, show (99999 : Int32).toInt = 99999 by decide, show (999999 : Int32).toInt = 999999 by decide, show (9999999 : Int32).toInt = 9999999 by decide, show (-50 : Int32).toInt = -50 by decide, show (32 : Int32).toInt = 32 by decide] at *); (repeat first | rw [if_pos (by omega)] | rw [if_neg (by omega)]))); (have hwz : (if w.toInt = 0 then (0 : Int32) else j) = j := by ((try simp only [i_nI (n := sk) (by omega), nI_clamp (n := sk) (by omega),  i_eq, i_lt, i_le, show (-1 : Int32).toInt = -1 by decide, show (0 : Int32).toInt = 0 by decide, show (1 : Int32).toInt = 1 by decide, show (2 : Int32).toInt = 2 by decide, show (3 : Int32).toInt = 3 by decide, show (4 : Int32).toInt = 4 by decide, show (5 : Int32).toInt = 5 by decide, show (6 : Int32).toInt = 6 by decide, show (7 : Int32).toInt = 7 by decide, show (8 : Int32).toInt = 8 by decide, show (9 : Int32).toInt = 9 by decide, show (10 : Int32).toInt = 10 by decide, show (11 : Int32).toInt = 11 by decide, show (12 : Int32).toInt = 12 by decide, show (13 : Int32).toInt = 13 by decide, show (14 : Int32).toInt = 14 by decide, show (15 : Int32).toInt = 15 by decide, show (16 : Int32).toInt = 16 by decide, show (20 : Int32).toInt = 20 by decide, show (39 : Int32).toInt = 39 by decide, show (40 : Int32).toInt = 40 by decide, show (50 : Int32).toInt = 50 by decide, show (60 : Int32).toInt = 60 by decide, show (99 : Int32).toInt = 99 by decide, show (100 : Int32).toInt = 100 by decide, show (999 : Int32).toInt = 999 by decide, show (9999 : Int32).toInt = 9999 by decide, show (99999 : Int32).toInt = 99999 by decide, show (999999 : Int32).toInt = 999999 by decide, show (9999999 : Int32).toInt = 9999999 by decide, show (-50 : Int32).toInt = -50 by decide, show (32 : Int32).toInt = 32 by decide] at *); (first | rw [if_pos (by omega)] | rw [if_neg (by omega)]); try decide)); unfold biSheet siSheet nuSheet; rw [hop, hwz, nI_clamp (n := sk) (by omega)]; rw [ze142, he90]; (funext zz; simp only [va_up, bump, ↓reduceIte]; (repeat' split) <;> first | rfl | (exfalso; omega) | (simp_all; done))
                          · rfl
                        · try replace zc140 := mt (nI_leI (a := 40) (b := i) (by omega) (by omega)).mpr zc140
                          refine z_aload_n X 0 dX12_sheet_97 rfl ?_
                          refine z_get X fl_X12_43_12 dX12_sheet_98 zK135 rfl ?_
                          refine z_bipush (v := 40) X dX12_sheet_101 (by decide) ?_
                          refine z_iload_n X 1 dX12_sheet_103 rfl ?_
                          refine z_imul X dX12_sheet_104 ?_
                          refine z_toe (y := nI (40 * sk)) (pk_mul (40) (sk)) ?_
                          refine z_iload X 4 dX12_sheet_105 rfl ?_
                          refine z_iadd X dX12_sheet_107 ?_
                          refine z_toe (y := nI ((40 * sk) + i)) (nI_add (40 * sk) (i)) ?_
                          refine z_iconst (v := 0) X dX12_sheet_108 (by decide) ?_
                          refine z_iast X dX12_sheet_109 zK139 (vp_in_nI (n := (40 * sk) + i) (by omega) (by omega)) (congrArg (fun z => va_up hh90 (o + 12) (arI κ 160 (upd e z 0))) (nI_clamp (n := (40 * sk) + i) (by omega))) ?_
                          obtain ⟨zh148, ze149⟩ : ∃ z : Mm, z = va_up hh90 (o + 12) (arI κ 160 (upd e ((40 * sk) + i) 0)) := ⟨_, rfl⟩
                          refine z_heap (h' := zh148) ze149.symm ?_
                          have zK150 := up_off ze149 (show o ≠ o + 12 by omega) zK135
                          have zK151 := up_off ze149 (show o + 4 ≠ o + 12 by omega) zK136
                          have zK152 := up_off ze149 (show o + 10 ≠ o + 12 by omega) zK137
                          have zK153 := up_off ze149 (show o + 11 ≠ o + 12 by omega) zK138
                          have zK154 := up_at ze149
                          refine z_iinc (v := nI (i + 1)) (ls' := [(4, .int (nI (i + 1))), (0, .ref o), (1, .int (nI sk)), (2, .int w), (3, .int j)]) X 4 dX12_sheet_110 rfl (nI_1 (i)) (by decide) rfl ?_
                          refine z_goto X 90 dX12_sheet_113 (by decide) ?_
                          refine z_sub (ls' := [(0, .ref o), (1, .int (nI sk)), (2, .int w), (3, .int j), (4, .int (nI (i + 1)))]) [1, 2, 3, 4, 0] rfl ?_
                          exact ih90 _ (i + 1) (upd e ((40 * sk) + i) 0) (by omega) (by first | (rw [ze149, he90]; done) | (rw [ze149, he90]; simp only [up_up]; done) | (rw [ze149, he90]; funext zz; simp only [va_up]; (repeat' split) <;> first | rfl | (exfalso; omega) | simp_all)) (by first | assumption | rfl | omega) (by intro q; unfold upd; by_cases hq : q = 40 * sk + i; (rw [if_pos hq, if_pos (by omega)]); rw [if_neg hq, hg q]; by_cases hr : 40 * sk ≤ q ∧ q < 40 * sk + i; (rw [if_pos hr, if_pos (by omega)]); rw [if_neg hr, if_neg (by omega)])
                    refine z_sub (ls' := [(0, .ref o), (1, .int (nI sk)), (2, .int w), (3, .int j), (4, .int 0)]) [1, 2, 3, 4, 0] rfl ?_
                    exact L90 _ _ 0 nu (Nat.lt_succ_self _) (by first | (rw [ze129, ze121]; done) | (rw [ze129, ze121]; simp only [up_up]; done) | (rw [ze129, ze121]; funext zz; simp only [va_up]; (repeat' split) <;> first | rfl | (exfalso; omega) | simp_all)) (by first | assumption | rfl | omega) (by intro q; rw [if_neg (by omega)])
                  · first | exact absurd zc127 zc118 | exact absurd zc118 zc127 | (exfalso; omega) | (exfalso; simp only [i_eq, i_lt, i_le] at *; omega)
                · refine z_aload_n X 0 dX12_sheet_59 rfl ?_
                  refine z_iconst (v := 1) X dX12_sheet_60 (by decide) ?_
                  refine z_callV X (r_finds (κ := κ) (n := n) (o := (o)) (k := (1)) (fo := (fo)) (im := (im)) (ba := (ba)) (at_ := (at_)) (sz := (sz)) (fa := (fa)) (op := (op)) (rm := (rm)) (ti := (ti)) (tm := (tm)) (wh := (wh)) K0 K1 (by first | assumption | omega) (by first | assumption | omega)) mk_X12_finds dX12_sheet_61 wd_1018 wd_1020 wd_24 rfl K0 rfl rfl rfl (Nat.le_of_ble_eq_true rfl) (Nat.le_of_ble_eq_true rfl) (Nat.le_of_ble_eq_true rfl) (by omega) (by omega) (fun q zh155 zm157 zp158 => ?_)
                  obtain ⟨rfl, ze156, zn159⟩ := zp158
                  subst zm157
                  refine z_st (st' := [.int (lowE 1)]) rfl ?_
                  have zK160 : zh155 o = some (.inr (12, [.ref (o + 1), .ref (o + 2), .ref (o + 3), .int im, .ref (o + 4), .int ba, .int at_, .int sz, .int fa, .int op, .ref (o + 5), .ref (o + 6), .int rm, .ref (o + 7), .ref (o + 8), .int ti, .ref (o + 9), .int tm, .int wh, .ref (o + 10), .ref (o + 11), .ref (o + 12), .ref (o + 13)])) := by rw [ze156]; rw [va_up_ne _ _ (show o ≠ o + 4 by omega)]; exact K0
                  have zK161 : zh155 (o + 4) = arI κ 6 (bmp fo 1) := by rw [ze156]; exact va_up_self _ _ _
                  have zK162 : zh155 (o + 10) = arI κ 4 bi := by rw [ze156]; rw [va_up_ne _ _ (show o + 10 ≠ o + 4 by omega)]; exact K2
                  have zK163 : zh155 (o + 11) = arI κ 4 si := by rw [ze156]; rw [va_up_ne _ _ (show o + 11 ≠ o + 4 by omega)]; exact K3
                  have zK164 : zh155 (o + 12) = arI κ 160 nu := by rw [ze156]; rw [va_up_ne _ _ (show o + 12 ≠ o + 4 by omega)]; exact K4
                  refine z_iret X E dX12_sheet_64 (by omega) (by omega) ⟨?_, ?_, ?_⟩
                  · (have hop : opSheet s w j = (1, 0) := by (unfold opSheet; (try simp only [ i_eq, i_lt, i_le, show (-1 : Int32).toInt = -1 by decide, show (0 : Int32).toInt = 0 by decide, show (1 : Int32).toInt = 1 by decide, show (2 : Int32).toInt = 2 by decide, show (3 : Int32).toInt = 3 by decide, show (4 : Int32).toInt = 4 by decide, show (5 : Int32).toInt = 5 by decide, show (6 : Int32).toInt = 6 by decide, show (7 : Int32).toInt = 7 by decide, show (8 : Int32).toInt = 8 by decide, show (9 : Int32).toInt = 9 by decide, show (10 : Int32).toInt = 10 by decide, show (11 : Int32).toInt = 11 by decide, show (12 : Int32).toInt = 12 by decide, show (13 : Int32).toInt = 13 by decide, show (14 : Int32).toInt = 14 by decide, show (15 : Int32).toInt = 15 by decide, show (16 : Int32).toInt = 16 by decide, show (20 : Int32).toInt = 20 by decide, show (39 : Int32).toInt = 39 by decide, show (40 : Int32).toInt = 40 by decide, show (50 : Int32).toInt = 50 by decide, show (60 : Int32).toInt = 60 by decide, show (99 : Int32).toInt = 99 by decide, show (100 : Int32).toInt = 100 by decide, show (999 : Int32).toInt = 999 by decide, show (9999 : Int32).toInt = 9999 by decide, show (99999 : Int32).toInt = 99999 by decide, show (999999 : Int32).toInt = 999999 by decide, show (9999999 : Int32).toInt = 9999999 by decide, show (-50 : Int32).toInt = -50 by decide, show (32 : Int32).toInt = 32 by decide] at *); (repeat first | rw [if_pos (by omega)] | rw [if_neg (by omega)]))); rw [hop]; rfl
                  · (have hop : opSheet s w j = (1, 0) := by (unfold opSheet; (try simp only [ i_eq, i_lt, i_le, show (-1 : Int32).toInt = -1 by decide, show (0 : Int32).toInt = 0 by decide, show (1 : Int32).toInt = 1 by decide, show (2 : Int32).toInt = 2 by decide, show (3 : Int32).toInt = 3 by decide, show (4 : Int32).toInt = 4 by decide, show (5 : Int32).toInt = 5 by decide, show (6 : Int32).toInt = 6 by decide, show (7 : Int32).toInt = 7 by decide, show (8 : Int32).toInt = 8 by decide, show (9 : Int32).toInt = 9 by decide, show (10 : Int32).toInt = 10 by decide, show (11 : Int32).toInt = 11 by decide, show (12 : Int32).toInt = 12 by decide, show (13 : Int32).toInt = 13 by decide, show (14 : Int32).toInt = 14 by decide, show (15 : Int32).toInt = 15 by decide, show (16 : Int32).toInt = 16 by decide, show (20 : Int32).toInt = 20 by decide, show (39 : Int32).toInt = 39 by decide, show (40 : Int32).toInt = 40 by decide, show (50 : Int32).toInt = 50 by decide, show (60 : Int32).toInt = 60 by decide, show (99 : Int32).toInt = 99 by decide, show (100 : Int32).toInt = 100 by decide, show (999 : Int32).toInt = 999 by decide, show (9999 : Int32).toInt = 9999 by decide, show (99999 : Int32).toInt = 99999 by decide, show (999999 : Int32).toInt = 999999 by decide, show (9999999 : Int32).toInt = 9999999 by decide, show (-50 : Int32).toInt = -50 by decide, show (32 : Int32).toInt = 32 by decide] at *); (repeat first | rw [if_pos (by omega)] | rw [if_neg (by omega)]))); unfold biSheet siSheet nuSheet; rw [hop]; rw [ze156]; (funext zz; simp only [va_up, bump, ↓reduceIte]; (repeat' split) <;> first | rfl | (exfalso; omega) | (simp_all; done))
                  · rfl
            · refine z_aload_n X 0 dX12_sheet_43 rfl ?_
              refine z_iconst (v := 3) X dX12_sheet_44 (by decide) ?_
              refine z_callV X (r_finds (κ := κ) (n := n) (o := (o)) (k := (3)) (fo := (fo)) (im := (im)) (ba := (ba)) (at_ := (at_)) (sz := (sz)) (fa := (fa)) (op := (op)) (rm := (rm)) (ti := (ti)) (tm := (tm)) (wh := (wh)) K0 K1 (by first | assumption | omega) (by first | assumption | omega)) mk_X12_finds dX12_sheet_45 wd_1018 wd_1020 wd_24 rfl K0 rfl rfl rfl (Nat.le_of_ble_eq_true rfl) (Nat.le_of_ble_eq_true rfl) (Nat.le_of_ble_eq_true rfl) (by omega) (by omega) (fun q zh165 zm167 zp168 => ?_)
              obtain ⟨rfl, ze166, zn169⟩ := zp168
              subst zm167
              refine z_st (st' := [.int (lowE 3)]) rfl ?_
              have zK170 : zh165 o = some (.inr (12, [.ref (o + 1), .ref (o + 2), .ref (o + 3), .int im, .ref (o + 4), .int ba, .int at_, .int sz, .int fa, .int op, .ref (o + 5), .ref (o + 6), .int rm, .ref (o + 7), .ref (o + 8), .int ti, .ref (o + 9), .int tm, .int wh, .ref (o + 10), .ref (o + 11), .ref (o + 12), .ref (o + 13)])) := by rw [ze166]; rw [va_up_ne _ _ (show o ≠ o + 4 by omega)]; exact K0
              have zK171 : zh165 (o + 4) = arI κ 6 (bmp fo 3) := by rw [ze166]; exact va_up_self _ _ _
              have zK172 : zh165 (o + 10) = arI κ 4 bi := by rw [ze166]; rw [va_up_ne _ _ (show o + 10 ≠ o + 4 by omega)]; exact K2
              have zK173 : zh165 (o + 11) = arI κ 4 si := by rw [ze166]; rw [va_up_ne _ _ (show o + 11 ≠ o + 4 by omega)]; exact K3
              have zK174 : zh165 (o + 12) = arI κ 160 nu := by rw [ze166]; rw [va_up_ne _ _ (show o + 12 ≠ o + 4 by omega)]; exact K4
              refine z_iret X E dX12_sheet_48 (by omega) (by omega) ⟨?_, ?_, ?_⟩
              · (have hop : opSheet s w j = (3, 0) := by (unfold opSheet; (try simp only [ i_eq, i_lt, i_le, show (-1 : Int32).toInt = -1 by decide, show (0 : Int32).toInt = 0 by decide, show (1 : Int32).toInt = 1 by decide, show (2 : Int32).toInt = 2 by decide, show (3 : Int32).toInt = 3 by decide, show (4 : Int32).toInt = 4 by decide, show (5 : Int32).toInt = 5 by decide, show (6 : Int32).toInt = 6 by decide, show (7 : Int32).toInt = 7 by decide, show (8 : Int32).toInt = 8 by decide, show (9 : Int32).toInt = 9 by decide, show (10 : Int32).toInt = 10 by decide, show (11 : Int32).toInt = 11 by decide, show (12 : Int32).toInt = 12 by decide, show (13 : Int32).toInt = 13 by decide, show (14 : Int32).toInt = 14 by decide, show (15 : Int32).toInt = 15 by decide, show (16 : Int32).toInt = 16 by decide, show (20 : Int32).toInt = 20 by decide, show (39 : Int32).toInt = 39 by decide, show (40 : Int32).toInt = 40 by decide, show (50 : Int32).toInt = 50 by decide, show (60 : Int32).toInt = 60 by decide, show (99 : Int32).toInt = 99 by decide, show (100 : Int32).toInt = 100 by decide, show (999 : Int32).toInt = 999 by decide, show (9999 : Int32).toInt = 9999 by decide, show (99999 : Int32).toInt = 99999 by decide, show (999999 : Int32).toInt = 999999 by decide, show (9999999 : Int32).toInt = 9999999 by decide, show (-50 : Int32).toInt = -50 by decide, show (32 : Int32).toInt = 32 by decide] at *); (repeat first | rw [if_pos (by omega)] | rw [if_neg (by omega)]))); rw [hop]; rfl
              · (have hop : opSheet s w j = (3, 0) := by (unfold opSheet; (try simp only [ i_eq, i_lt, i_le, show (-1 : Int32).toInt = -1 by decide, show (0 : Int32).toInt = 0 by decide, show (1 : Int32).toInt = 1 by decide, show (2 : Int32).toInt = 2 by decide, show (3 : Int32).toInt = 3 by decide, show (4 : Int32).toInt = 4 by decide, show (5 : Int32).toInt = 5 by decide, show (6 : Int32).toInt = 6 by decide, show (7 : Int32).toInt = 7 by decide, show (8 : Int32).toInt = 8 by decide, show (9 : Int32).toInt = 9 by decide, show (10 : Int32).toInt = 10 by decide, show (11 : Int32).toInt = 11 by decide, show (12 : Int32).toInt = 12 by decide, show (13 : Int32).toInt = 13 by decide, show (14 : Int32).toInt = 14 by decide, show (15 : Int32).toInt = 15 by decide, show (16 : Int32).toInt = 16 by decide, show (20 : Int32).toInt = 20 by decide, show (39 : Int32).toInt = 39 by decide, show (40 : Int32).toInt = 40 by decide, show (50 : Int32).toInt = 50 by decide, show (60 : Int32).toInt = 60 by decide, show (99 : Int32).toInt = 99 by decide, show (100 : Int32).toInt = 100 by decide, show (999 : Int32).toInt = 999 by decide, show (9999 : Int32).toInt = 9999 by decide, show (99999 : Int32).toInt = 99999 by decide, show (999999 : Int32).toInt = 999999 by decide, show (9999999 : Int32).toInt = 9999999 by decide, show (-50 : Int32).toInt = -50 by decide, show (32 : Int32).toInt = 32 by decide] at *); (repeat first | rw [if_pos (by omega)] | rw [if_neg (by omega)]))); unfold biSheet siSheet nuSheet; rw [hop]; rw [ze166]; (funext zz; simp only [va_up, bump, ↓reduceIte]; (repeat' split) <;> first | rfl | (exfalso; omega) | (simp_all; done))
              · rfl
        · refine z_iload_n X 2 dX12_sheet_23 rfl ?_
          refine z_bipush (v := 32) X dX12_sheet_24 (by decide) ?_
          refine z_icmp_eq X 35 dX12_sheet_26 (by decide) (fun zc175 => ?_) (fun zc175 => ?_)
          · refine z_iload_n X 2 dX12_sheet_35 rfl ?_
            refine z_if_eq X 49 dX12_sheet_36 (by decide) (fun zc176 => ?_) (fun zc176 => ?_)
            · first | exact absurd zc176 zc17 | exact absurd zc17 zc176 | (exfalso; omega) | (exfalso; simp only [i_eq, i_lt, i_le] at *; omega)
            · refine z_iload_n X 3 dX12_sheet_39 rfl ?_
              refine z_if_ge X 49 dX12_sheet_40 (by decide) (fun zc177 => ?_) (fun zc177 => ?_)
              · refine z_iload_n X 2 dX12_sheet_49 rfl ?_
                refine z_if_eq X 65 dX12_sheet_50 (by decide) (fun zc178 => ?_) (fun zc178 => ?_)
                · first | exact absurd zc178 zc176 | exact absurd zc176 zc178 | (exfalso; omega) | (exfalso; simp only [i_eq, i_lt, i_le] at *; omega)
                · refine z_iload_n X 3 dX12_sheet_53 rfl ?_
                  refine z_bipush (v := 40) X dX12_sheet_54 (by decide) ?_
                  refine z_icmp_le X 65 dX12_sheet_56 (by decide) (fun zc179 => ?_) (fun zc179 => ?_)
                  · obtain ⟨sk, hsk, rfl⟩ := ix_of (c := s) (len := 4) (by omega) (by omega)
                    refine z_aload_n X 0 dX12_sheet_65 rfl ?_
                    refine z_get X fl_X12_37_12 dX12_sheet_66 K0 rfl ?_
                    refine z_iload_n X 1 dX12_sheet_69 rfl ?_
                    refine z_iload_n X 2 dX12_sheet_70 rfl ?_
                    refine z_iast X dX12_sheet_71 K2 (vp_in_nI (n := sk) (by omega) (by omega)) (congrArg (fun z => va_up h (o + 10) (arI κ 4 (upd bi z w))) (nI_clamp (n := sk) (by omega))) ?_
                    obtain ⟨zh180, ze181⟩ : ∃ z : Mm, z = va_up h (o + 10) (arI κ 4 (upd bi sk w)) := ⟨_, rfl⟩
                    refine z_heap (h' := zh180) ze181.symm ?_
                    have zK182 := up_off ze181 (show o ≠ o + 10 by omega) K0
                    have zK183 := up_off ze181 (show o + 4 ≠ o + 10 by omega) K1
                    have zK184 := up_at ze181
                    have zK185 := up_off ze181 (show o + 11 ≠ o + 10 by omega) K3
                    have zK186 := up_off ze181 (show o + 12 ≠ o + 10 by omega) K4
                    refine z_aload_n X 0 dX12_sheet_72 rfl ?_
                    refine z_get X fl_X12_40_12 dX12_sheet_73 zK182 rfl ?_
                    refine z_iload_n X 1 dX12_sheet_76 rfl ?_
                    refine z_iload_n X 2 dX12_sheet_77 rfl ?_
                    refine z_if_ne X 85 dX12_sheet_78 (by decide) (fun zc187 => ?_) (fun zc187 => ?_)
                    · refine z_iload_n X 3 dX12_sheet_85 rfl ?_
                      refine z_iast X dX12_sheet_86 zK185 (vp_in_nI (n := sk) (by omega) (by omega)) (congrArg (fun z => va_up zh180 (o + 11) (arI κ 4 (upd si z j))) (nI_clamp (n := sk) (by omega))) ?_
                      obtain ⟨zh188, ze189⟩ : ∃ z : Mm, z = va_up zh180 (o + 11) (arI κ 4 (upd si sk j)) := ⟨_, rfl⟩
                      refine z_heap (h' := zh188) ze189.symm ?_
                      have zK190 := up_off ze189 (show o ≠ o + 11 by omega) zK182
                      have zK191 := up_off ze189 (show o + 4 ≠ o + 11 by omega) zK183
                      have zK192 := up_off ze189 (show o + 10 ≠ o + 11 by omega) zK184
                      have zK193 := up_at ze189
                      have zK194 := up_off ze189 (show o + 12 ≠ o + 11 by omega) zK186
                      refine z_iconst (v := 0) X dX12_sheet_87 (by decide) ?_
                      refine z_istore (ls' := [(4, .int 0), (0, .ref o), (1, .int (nI sk)), (2, .int w), (3, .int j)]) X dX12_sheet_88 (by decide) rfl ?_
                      have L90 : ∀ (jj : Nat) (hh90 : Mm)  (i : Nat) (e : Nat → Int32), (40 - i < jj) → (hh90 = va_up (va_up (va_up h (o + 10) (arI κ 4 (upd bi sk w))) (o + 11) (arI κ 4 (upd si sk j))) (o + 12) (arI κ 160 e)) → (hi : i ≤ 40) → (hg : ∀ q, e q = if 40 * sk ≤ q ∧ q < 40 * sk + i then 0 else nu q) → Z κ G 5 90 [(0, .ref o), (1, .int (nI sk)), (2, .int w), (3, .int j), (4, .int (nI i))] [] hh90 n 0 (0) := by
                        intro jj
                        induction jj with
                        | zero => intro hh90 i e hmu; exact absurd hmu (Nat.not_lt_zero _)
                        | succ jj ih90 =>
                          intro hh90 i e hmu he90 hi hg
                          have zK195 : hh90 o = some (.inr (12, [.ref (o + 1), .ref (o + 2), .ref (o + 3), .int im, .ref (o + 4), .int ba, .int at_, .int sz, .int fa, .int op, .ref (o + 5), .ref (o + 6), .int rm, .ref (o + 7), .ref (o + 8), .int ti, .ref (o + 9), .int tm, .int wh, .ref (o + 10), .ref (o + 11), .ref (o + 12), .ref (o + 13)])) := by rw [he90]; rw [va_up_ne _ _ (show o ≠ o + 12 by omega)]; rw [va_up_ne _ _ (show o ≠ o + 11 by omega)]; rw [va_up_ne _ _ (show o ≠ o + 10 by omega)]; exact K0
                          have zK196 : hh90 (o + 4) = arI κ 6 fo := by rw [he90]; rw [va_up_ne _ _ (show o + 4 ≠ o + 12 by omega)]; rw [va_up_ne _ _ (show o + 4 ≠ o + 11 by omega)]; rw [va_up_ne _ _ (show o + 4 ≠ o + 10 by omega)]; exact K1
                          have zK197 : hh90 (o + 10) = arI κ 4 (upd bi sk w) := by rw [he90]; rw [va_up_ne _ _ (show o + 10 ≠ o + 12 by omega)]; rw [va_up_ne _ _ (show o + 10 ≠ o + 11 by omega)]; exact va_up_self _ _ _
                          have zK198 : hh90 (o + 11) = arI κ 4 (upd si sk j) := by rw [he90]; rw [va_up_ne _ _ (show o + 11 ≠ o + 12 by omega)]; exact va_up_self _ _ _
                          have zK199 : hh90 (o + 12) = arI κ 160 e := by rw [he90]; exact va_up_self _ _ _
                          refine z_iload X 4 dX12_sheet_90 rfl ?_
                          refine z_bipush (v := 40) X dX12_sheet_92 (by decide) ?_
                          refine z_icmp_ge X 116 dX12_sheet_94 (by decide) (fun zc200 => ?_) (fun zc200 => ?_)
                          · try replace zc200 := (nI_leI (a := 40) (b := i) (by omega) (by omega)).mp zc200
                            refine z_iconst (v := 1) X dX12_sheet_116 (by decide) ?_
                            refine z_ext (g := fun q => if 40 * sk ≤ q ∧ q < 40 * sk + 40 then 0 else nu q) zK199 (fun z hz => by rw [hg z, show i = 40 by omega]) ?_
                            obtain ⟨zh201, ze202⟩ : ∃ z : Mm, z = va_up hh90 (o + 12) (arI κ 160 (fun q => if 40 * sk ≤ q ∧ q < 40 * sk + 40 then 0 else nu q)) := ⟨_, rfl⟩
                            refine z_heap (h' := zh201) ze202.symm ?_
                            have zK203 := up_off ze202 (show o ≠ o + 12 by omega) zK195
                            have zK204 := up_off ze202 (show o + 4 ≠ o + 12 by omega) zK196
                            have zK205 := up_off ze202 (show o + 10 ≠ o + 12 by omega) zK197
                            have zK206 := up_off ze202 (show o + 11 ≠ o + 12 by omega) zK198
                            have zK207 := up_at ze202
                            refine z_iret X E dX12_sheet_117 (by omega) (by omega) ⟨?_, ?_, ?_⟩
                            · (have hop : opSheet (nI sk) w j = (0, 1) := by (unfold opSheet; (try simp only [i_nI (n := sk) (by omega), nI_clamp (n := sk) (by omega),  i_eq, i_lt, i_le, show (-1 : Int32).toInt = -1 by decide, show (0 : Int32).toInt = 0 by decide, show (1 : Int32).toInt = 1 by decide, show (2 : Int32).toInt = 2 by decide, show (3 : Int32).toInt = 3 by decide, show (4 : Int32).toInt = 4 by decide, show (5 : Int32).toInt = 5 by decide, show (6 : Int32).toInt = 6 by decide, show (7 : Int32).toInt = 7 by decide, show (8 : Int32).toInt = 8 by decide, show (9 : Int32).toInt = 9 by decide, show (10 : Int32).toInt = 10 by decide, show (11 : Int32).toInt = 11 by decide, show (12 : Int32).toInt = 12 by decide, show (13 : Int32).toInt = 13 by decide, show (14 : Int32).toInt = 14 by decide, show (15 : Int32).toInt = 15 by decide, show (16 : Int32).toInt = 16 by decide, show (20 : Int32).toInt = 20 by decide, show (39 : Int32).toInt = 39 by decide, show (40 : Int32).toInt = 40 by decide, show (50 : Int32).toInt = 50 by decide, show (60 : Int32).toInt = 60 by decide, show (99 : Int32).toInt = 99 by decide, show (100 : Int32).toInt = 100 by decide, show (999 : Int32).toInt = 999 by decide, show (9999 : Int32).toInt = 9999 by decide, show (99999 : Int32).toInt = 99999 by decide, show (999999 : Int32).toInt = 999999 by decide, show (9999999 : Int32).toInt = 9999999 by decide, show (-50 : Int32).toInt = -50 by decide, show (32 : Int32).toInt = 32 by decide] at *); (repeat first | rw [if_pos (by omega)] | rw [if_neg (by omega)]))); rw [hop]; rfl
                            · (have hop : opSheet (nI sk) w j = (0, 1) := by (unfold opSheet; (try simp only [i_nI (n := sk) (by omega), nI_clamp (n := sk) (by omega),  i_eq, i_lt, i_le, show (-1 : Int32).toInt = -1 by decide, show (0 : Int32).toInt = 0 by decide, show (1 : Int32).toInt = 1 by decide, show (2 : Int32).toInt = 2 by decide, show (3 : Int32).toInt = 3 by decide, show (4 : Int32).toInt = 4 by decide, show (5 : Int32).toInt = 5 by decide, show (6 : Int32).toInt = 6 by decide, show (7 : Int32).toInt = 7 by decide, show (8 : Int32).toInt = 8 by decide, show (9 : Int32).toInt = 9 by decide, show (10 : Int32).toInt = 10 by decide, show (11 : Int32).toInt = 11 by decide, show (12 : Int32).toInt = 12 by decide, show (13 : Int32).toInt = 13 by decide, show (14 : Int32).toInt = 14 by decide, show (15 : Int32).toInt = 15 by decide, show (16 : Int32).toInt = 16 by decide, show (20 : Int32).toInt = 20 by decide, show (39 : Int32).toInt = 39 by decide, show (40 : Int32).toInt = 40 by decide, show (50 : Int32).toInt = 50 by decide, show (60 : Int32).toInt = 60 by decide, show (99 : Int32).toInt = 99 by decide, show (100 : Int32).toInt = 100 by decide, show (999 : Int32).toInt = 999 by decide, show (9999 : Int32).toInt = 9999 by decide, show (99999 : Int32).toInt = 99999 by decide, show (999999 : Int32).toInt = 999999 by decide, show (9999999 : Int32).toInt = 9999999 by decide, show (-50 : Int32).toInt = -50 by decide, show (32 : Int32).toInt = 32 by decide] at *); (repeat first | rw [if_pos (by omega)] | rw [if_neg (by omega)]))); (have hwz : (if w.toInt = 0 then (0 : Int32) else j) = j := by ((try simp only [i_nI (n := sk) (by omega), nI_clamp (n := sk) (by omega),  i_eq, i_lt, i_le, show (-1 : Int32).toInt = -1 by decide, show (0 : Int32).toInt = 0 by decide, show (1 : Int32).toInt = 1 by decide, show (2 : Int32).toInt = 2 by decide, show (3 : Int32).toInt = 3 by decide, show (4 : Int32).toInt = 4 by decide, show (5 : Int32).toInt = 5 by decide, show (6 : Int32).toInt = 6 by decide, show (7 : Int32).toInt = 7 by decide, show (8 : Int32).toInt = 8 by decide, show (9 : Int32).toInt = 9 by decide, show (10 : Int32).toInt = 10 by decide, show (11 : Int32).toInt = 11 by decide, show (12 : Int32).toInt = 12 by decide, show (13 : Int32).toInt = 13 by decide, show (14 : Int32).toInt = 14 by decide, show (15 : Int32).toInt = 15 by decide, show (16 : Int32).toInt = 16 by decide, show (20 : Int32).toInt = 20 by decide, show (39 : Int32).toInt = 39 by decide, show (40 : Int32).toInt = 40 by decide, show (50 : Int32).toInt = 50 by decide, show (60 : Int32).toInt = 60 by decide, show (99 : Int32).toInt = 99 by decide, show (100 : Int32).toInt = 100 by decide, show (999 : Int32).toInt = 999 by decide, show (9999 : Int32).toInt = 9999 by decide, show (99999 : Int32).toInt = 99999 by decide, show (999999 : Int32).toInt = 999999 by decide, show (9999999 : Int32).toInt = 9999999 by decide, show (-50 : Int32).toInt = -50 by decide, show (32 : Int32).toInt = 32 by decide] at *); (first | rw [if_pos (by omega)] | rw [if_neg (by omega)]); try decide)); unfold biSheet siSheet nuSheet; rw [hop, hwz, nI_clamp (n := sk) (by omega)]; rw [ze202, he90]; (funext zz; simp only [va_up, bump, ↓reduceIte]; (repeat' split) <;> first | rfl | (exfalso; omega) | (simp_all; done))
                            · rfl
                          · try replace zc200 := mt (nI_leI (a := 40) (b := i) (by omega) (by omega)).mpr zc200
                            refine z_aload_n X 0 dX12_sheet_97 rfl ?_
                            refine z_get X fl_X12_43_12 dX12_sheet_98 zK195 rfl ?_
                            refine z_bipush (v := 40) X dX12_sheet_101 (by decide) ?_
                            refine z_iload_n X 1 dX12_sheet_103 rfl ?_
                            refine z_imul X dX12_sheet_104 ?_
                            refine z_toe (y := nI (40 * sk)) (pk_mul (40) (sk)) ?_
                            refine z_iload X 4 dX12_sheet_105 rfl ?_
                            refine z_iadd X dX12_sheet_107 ?_
                            refine z_toe (y := nI ((40 * sk) + i)) (nI_add (40 * sk) (i)) ?_
                            refine z_iconst (v := 0) X dX12_sheet_108 (by decide) ?_
                            refine z_iast X dX12_sheet_109 zK199 (vp_in_nI (n := (40 * sk) + i) (by omega) (by omega)) (congrArg (fun z => va_up hh90 (o + 12) (arI κ 160 (upd e z 0))) (nI_clamp (n := (40 * sk) + i) (by omega))) ?_
                            obtain ⟨zh208, ze209⟩ : ∃ z : Mm, z = va_up hh90 (o + 12) (arI κ 160 (upd e ((40 * sk) + i) 0)) := ⟨_, rfl⟩
                            refine z_heap (h' := zh208) ze209.symm ?_
                            have zK210 := up_off ze209 (show o ≠ o + 12 by omega) zK195
                            have zK211 := up_off ze209 (show o + 4 ≠ o + 12 by omega) zK196
                            have zK212 := up_off ze209 (show o + 10 ≠ o + 12 by omega) zK197
                            have zK213 := up_off ze209 (show o + 11 ≠ o + 12 by omega) zK198
                            have zK214 := up_at ze209
                            refine z_iinc (v := nI (i + 1)) (ls' := [(4, .int (nI (i + 1))), (0, .ref o), (1, .int (nI sk)), (2, .int w), (3, .int j)]) X 4 dX12_sheet_110 rfl (nI_1 (i)) (by decide) rfl ?_
                            refine z_goto X 90 dX12_sheet_113 (by decide) ?_
                            refine z_sub (ls' := [(0, .ref o), (1, .int (nI sk)), (2, .int w), (3, .int j), (4, .int (nI (i + 1)))]) [1, 2, 3, 4, 0] rfl ?_
                            exact ih90 _ (i + 1) (upd e ((40 * sk) + i) 0) (by omega) (by first | (rw [ze209, he90]; done) | (rw [ze209, he90]; simp only [up_up]; done) | (rw [ze209, he90]; funext zz; simp only [va_up]; (repeat' split) <;> first | rfl | (exfalso; omega) | simp_all)) (by first | assumption | rfl | omega) (by intro q; unfold upd; by_cases hq : q = 40 * sk + i; (rw [if_pos hq, if_pos (by omega)]); rw [if_neg hq, hg q]; by_cases hr : 40 * sk ≤ q ∧ q < 40 * sk + i; (rw [if_pos hr, if_pos (by omega)]); rw [if_neg hr, if_neg (by omega)])
                      refine z_sub (ls' := [(0, .ref o), (1, .int (nI sk)), (2, .int w), (3, .int j), (4, .int 0)]) [1, 2, 3, 4, 0] rfl ?_
                      exact L90 _ _ 0 nu (Nat.lt_succ_self _) (by first | (rw [ze189, ze181]; done) | (rw [ze189, ze181]; simp only [up_up]; done) | (rw [ze189, ze181]; funext zz; simp only [va_up]; (repeat' split) <;> first | rfl | (exfalso; omega) | simp_all)) (by first | assumption | rfl | omega) (by intro q; rw [if_neg (by omega)])
                    · first | exact absurd zc187 zc178 | exact absurd zc178 zc187 | (exfalso; omega) | (exfalso; simp only [i_eq, i_lt, i_le] at *; omega)
                  · refine z_aload_n X 0 dX12_sheet_59 rfl ?_
                    refine z_iconst (v := 1) X dX12_sheet_60 (by decide) ?_
                    refine z_callV X (r_finds (κ := κ) (n := n) (o := (o)) (k := (1)) (fo := (fo)) (im := (im)) (ba := (ba)) (at_ := (at_)) (sz := (sz)) (fa := (fa)) (op := (op)) (rm := (rm)) (ti := (ti)) (tm := (tm)) (wh := (wh)) K0 K1 (by first | assumption | omega) (by first | assumption | omega)) mk_X12_finds dX12_sheet_61 wd_1018 wd_1020 wd_24 rfl K0 rfl rfl rfl (Nat.le_of_ble_eq_true rfl) (Nat.le_of_ble_eq_true rfl) (Nat.le_of_ble_eq_true rfl) (by omega) (by omega) (fun q zh215 zm217 zp218 => ?_)
                    obtain ⟨rfl, ze216, zn219⟩ := zp218
                    subst zm217
                    refine z_st (st' := [.int (lowE 1)]) rfl ?_
                    have zK220 : zh215 o = some (.inr (12, [.ref (o + 1), .ref (o + 2), .ref (o + 3), .int im, .ref (o + 4), .int ba, .int at_, .int sz, .int fa, .int op, .ref (o + 5), .ref (o + 6), .int rm, .ref (o + 7), .ref (o + 8), .int ti, .ref (o + 9), .int tm, .int wh, .ref (o + 10), .ref (o + 11), .ref (o + 12), .ref (o + 13)])) := by rw [ze216]; rw [va_up_ne _ _ (show o ≠ o + 4 by omega)]; exact K0
                    have zK221 : zh215 (o + 4) = arI κ 6 (bmp fo 1) := by rw [ze216]; exact va_up_self _ _ _
                    have zK222 : zh215 (o + 10) = arI κ 4 bi := by rw [ze216]; rw [va_up_ne _ _ (show o + 10 ≠ o + 4 by omega)]; exact K2
                    have zK223 : zh215 (o + 11) = arI κ 4 si := by rw [ze216]; rw [va_up_ne _ _ (show o + 11 ≠ o + 4 by omega)]; exact K3
                    have zK224 : zh215 (o + 12) = arI κ 160 nu := by rw [ze216]; rw [va_up_ne _ _ (show o + 12 ≠ o + 4 by omega)]; exact K4
                    refine z_iret X E dX12_sheet_64 (by omega) (by omega) ⟨?_, ?_, ?_⟩
                    · (have hop : opSheet s w j = (1, 0) := by (unfold opSheet; (try simp only [ i_eq, i_lt, i_le, show (-1 : Int32).toInt = -1 by decide, show (0 : Int32).toInt = 0 by decide, show (1 : Int32).toInt = 1 by decide, show (2 : Int32).toInt = 2 by decide, show (3 : Int32).toInt = 3 by decide, show (4 : Int32).toInt = 4 by decide, show (5 : Int32).toInt = 5 by decide, show (6 : Int32).toInt = 6 by decide, show (7 : Int32).toInt = 7 by decide, show (8 : Int32).toInt = 8 by decide, show (9 : Int32).toInt = 9 by decide, show (10 : Int32).toInt = 10 by decide, show (11 : Int32).toInt = 11 by decide, show (12 : Int32).toInt = 12 by decide, show (13 : Int32).toInt = 13 by decide, show (14 : Int32).toInt = 14 by decide, show (15 : Int32).toInt = 15 by decide, show (16 : Int32).toInt = 16 by decide, show (20 : Int32).toInt = 20 by decide, show (39 : Int32).toInt = 39 by decide, show (40 : Int32).toInt = 40 by decide, show (50 : Int32).toInt = 50 by decide, show (60 : Int32).toInt = 60 by decide, show (99 : Int32).toInt = 99 by decide, show (100 : Int32).toInt = 100 by decide, show (999 : Int32).toInt = 999 by decide, show (9999 : Int32).toInt = 9999 by decide, show (99999 : Int32).toInt = 99999 by decide, show (999999 : Int32).toInt = 999999 by decide, show (9999999 : Int32).toInt = 9999999 by decide, show (-50 : Int32).toInt = -50 by decide, show (32 : Int32).toInt = 32 by decide] at *); (repeat first | rw [if_pos (by omega)] | rw [if_neg (by omega)]))); rw [hop]; rfl
                    · (have hop : opSheet s w j = (1, 0) := by (unfold opSheet; (try simp only [ i_eq, i_lt, i_le, show (-1 : Int32).toInt = -1 by decide, show (0 : Int32).toInt = 0 by decide, show (1 : Int32).toInt = 1 by decide, show (2 : Int32).toInt = 2 by decide, show (3 : Int32).toInt = 3 by decide, show (4 : Int32).toInt = 4 by decide, show (5 : Int32).toInt = 5 by decide, show (6 : Int32).toInt = 6 by decide, show (7 : Int32).toInt = 7 by decide, show (8 : Int32).toInt = 8 by decide, show (9 : Int32).toInt = 9 by decide, show (10 : Int32).toInt = 10 by decide, show (11 : Int32).toInt = 11 by decide, show (12 : Int32).toInt = 12 by decide, show (13 : Int32).toInt = 13 by decide, show (14 : Int32).toInt = 14 by decide, show (15 : Int32).toInt = 15 by decide, show (16 : Int32).toInt = 16 by decide, show (20 : Int32).toInt = 20 by decide, show (39 : Int32).toInt = 39 by decide, show (40 : Int32).toInt = 40 by decide, show (50 : Int32).toInt = 50 by decide, show (60 : Int32).toInt = 60 by decide, show (99 : Int32).toInt = 99 by decide, show (100 : Int32).toInt = 100 by decide, show (999 : Int32).toInt = 999 by decide, show (9999 : Int32).toInt = 9999 by decide, show (99999 : Int32).toInt = 99999 by decide, show (999999 : Int32).toInt = 999999 by decide, show (9999999 : Int32).toInt = 9999999 by decide, show (-50 : Int32).toInt = -50 by decide, show (32 : Int32).toInt = 32 by decide] at *); (repeat first | rw [if_pos (by omega)] | rw [if_neg (by omega)]))); unfold biSheet siSheet nuSheet; rw [hop]; rw [ze216]; (funext zz; simp only [va_up, bump, ↓reduceIte]; (repeat' split) <;> first | rfl | (exfalso; omega) | (simp_all; done))
                    · rfl
              · refine z_aload_n X 0 dX12_sheet_43 rfl ?_
                refine z_iconst (v := 3) X dX12_sheet_44 (by decide) ?_
                refine z_callV X (r_finds (κ := κ) (n := n) (o := (o)) (k := (3)) (fo := (fo)) (im := (im)) (ba := (ba)) (at_ := (at_)) (sz := (sz)) (fa := (fa)) (op := (op)) (rm := (rm)) (ti := (ti)) (tm := (tm)) (wh := (wh)) K0 K1 (by first | assumption | omega) (by first | assumption | omega)) mk_X12_finds dX12_sheet_45 wd_1018 wd_1020 wd_24 rfl K0 rfl rfl rfl (Nat.le_of_ble_eq_true rfl) (Nat.le_of_ble_eq_true rfl) (Nat.le_of_ble_eq_true rfl) (by omega) (by omega) (fun q zh225 zm227 zp228 => ?_)
                obtain ⟨rfl, ze226, zn229⟩ := zp228
                subst zm227
                refine z_st (st' := [.int (lowE 3)]) rfl ?_
                have zK230 : zh225 o = some (.inr (12, [.ref (o + 1), .ref (o + 2), .ref (o + 3), .int im, .ref (o + 4), .int ba, .int at_, .int sz, .int fa, .int op, .ref (o + 5), .ref (o + 6), .int rm, .ref (o + 7), .ref (o + 8), .int ti, .ref (o + 9), .int tm, .int wh, .ref (o + 10), .ref (o + 11), .ref (o + 12), .ref (o + 13)])) := by rw [ze226]; rw [va_up_ne _ _ (show o ≠ o + 4 by omega)]; exact K0
                have zK231 : zh225 (o + 4) = arI κ 6 (bmp fo 3) := by rw [ze226]; exact va_up_self _ _ _
                have zK232 : zh225 (o + 10) = arI κ 4 bi := by rw [ze226]; rw [va_up_ne _ _ (show o + 10 ≠ o + 4 by omega)]; exact K2
                have zK233 : zh225 (o + 11) = arI κ 4 si := by rw [ze226]; rw [va_up_ne _ _ (show o + 11 ≠ o + 4 by omega)]; exact K3
                have zK234 : zh225 (o + 12) = arI κ 160 nu := by rw [ze226]; rw [va_up_ne _ _ (show o + 12 ≠ o + 4 by omega)]; exact K4
                refine z_iret X E dX12_sheet_48 (by omega) (by omega) ⟨?_, ?_, ?_⟩
                · (have hop : opSheet s w j = (3, 0) := by (unfold opSheet; (try simp only [ i_eq, i_lt, i_le, show (-1 : Int32).toInt = -1 by decide, show (0 : Int32).toInt = 0 by decide, show (1 : Int32).toInt = 1 by decide, show (2 : Int32).toInt = 2 by decide, show (3 : Int32).toInt = 3 by decide, show (4 : Int32).toInt = 4 by decide, show (5 : Int32).toInt = 5 by decide, show (6 : Int32).toInt = 6 by decide, show (7 : Int32).toInt = 7 by decide, show (8 : Int32).toInt = 8 by decide, show (9 : Int32).toInt = 9 by decide, show (10 : Int32).toInt = 10 by decide, show (11 : Int32).toInt = 11 by decide, show (12 : Int32).toInt = 12 by decide, show (13 : Int32).toInt = 13 by decide, show (14 : Int32).toInt = 14 by decide, show (15 : Int32).toInt = 15 by decide, show (16 : Int32).toInt = 16 by decide, show (20 : Int32).toInt = 20 by decide, show (39 : Int32).toInt = 39 by decide, show (40 : Int32).toInt = 40 by decide, show (50 : Int32).toInt = 50 by decide, show (60 : Int32).toInt = 60 by decide, show (99 : Int32).toInt = 99 by decide, show (100 : Int32).toInt = 100 by decide, show (999 : Int32).toInt = 999 by decide, show (9999 : Int32).toInt = 9999 by decide, show (99999 : Int32).toInt = 99999 by decide, show (999999 : Int32).toInt = 999999 by decide, show (9999999 : Int32).toInt = 9999999 by decide, show (-50 : Int32).toInt = -50 by decide, show (32 : Int32).toInt = 32 by decide] at *); (repeat first | rw [if_pos (by omega)] | rw [if_neg (by omega)]))); rw [hop]; rfl
                · (have hop : opSheet s w j = (3, 0) := by (unfold opSheet; (try simp only [ i_eq, i_lt, i_le, show (-1 : Int32).toInt = -1 by decide, show (0 : Int32).toInt = 0 by decide, show (1 : Int32).toInt = 1 by decide, show (2 : Int32).toInt = 2 by decide, show (3 : Int32).toInt = 3 by decide, show (4 : Int32).toInt = 4 by decide, show (5 : Int32).toInt = 5 by decide, show (6 : Int32).toInt = 6 by decide, show (7 : Int32).toInt = 7 by decide, show (8 : Int32).toInt = 8 by decide, show (9 : Int32).toInt = 9 by decide, show (10 : Int32).toInt = 10 by decide, show (11 : Int32).toInt = 11 by decide, show (12 : Int32).toInt = 12 by decide, show (13 : Int32).toInt = 13 by decide, show (14 : Int32).toInt = 14 by decide, show (15 : Int32).toInt = 15 by decide, show (16 : Int32).toInt = 16 by decide, show (20 : Int32).toInt = 20 by decide, show (39 : Int32).toInt = 39 by decide, show (40 : Int32).toInt = 40 by decide, show (50 : Int32).toInt = 50 by decide, show (60 : Int32).toInt = 60 by decide, show (99 : Int32).toInt = 99 by decide, show (100 : Int32).toInt = 100 by decide, show (999 : Int32).toInt = 999 by decide, show (9999 : Int32).toInt = 9999 by decide, show (99999 : Int32).toInt = 99999 by decide, show (999999 : Int32).toInt = 999999 by decide, show (9999999 : Int32).toInt = 9999999 by decide, show (-50 : Int32).toInt = -50 by decide, show (32 : Int32).toInt = 32 by decide] at *); (repeat first | rw [if_pos (by omega)] | rw [if_neg (by omega)]))); unfold biSheet siSheet nuSheet; rw [hop]; rw [ze226]; (funext zz; simp only [va_up, bump, ↓reduceIte]; (repeat' split) <;> first | rfl | (exfalso; omega) | (simp_all; done))
                · rfl
          · refine z_aload_n X 0 dX12_sheet_29 rfl ?_
            refine z_iconst (v := 1) X dX12_sheet_30 (by decide) ?_
            refine z_callV X (r_finds (κ := κ) (n := n) (o := (o)) (k := (1)) (fo := (fo)) (im := (im)) (ba := (ba)) (at_ := (at_)) (sz := (sz)) (fa := (fa)) (op := (op)) (rm := (rm)) (ti := (ti)) (tm := (tm)) (wh := (wh)) K0 K1 (by first | assumption | omega) (by first | assumption | omega)) mk_X12_finds dX12_sheet_31 wd_1018 wd_1020 wd_24 rfl K0 rfl rfl rfl (Nat.le_of_ble_eq_true rfl) (Nat.le_of_ble_eq_true rfl) (Nat.le_of_ble_eq_true rfl) (by omega) (by omega) (fun q zh235 zm237 zp238 => ?_)
            obtain ⟨rfl, ze236, zn239⟩ := zp238
            subst zm237
            refine z_st (st' := [.int (lowE 1)]) rfl ?_
            have zK240 : zh235 o = some (.inr (12, [.ref (o + 1), .ref (o + 2), .ref (o + 3), .int im, .ref (o + 4), .int ba, .int at_, .int sz, .int fa, .int op, .ref (o + 5), .ref (o + 6), .int rm, .ref (o + 7), .ref (o + 8), .int ti, .ref (o + 9), .int tm, .int wh, .ref (o + 10), .ref (o + 11), .ref (o + 12), .ref (o + 13)])) := by rw [ze236]; rw [va_up_ne _ _ (show o ≠ o + 4 by omega)]; exact K0
            have zK241 : zh235 (o + 4) = arI κ 6 (bmp fo 1) := by rw [ze236]; exact va_up_self _ _ _
            have zK242 : zh235 (o + 10) = arI κ 4 bi := by rw [ze236]; rw [va_up_ne _ _ (show o + 10 ≠ o + 4 by omega)]; exact K2
            have zK243 : zh235 (o + 11) = arI κ 4 si := by rw [ze236]; rw [va_up_ne _ _ (show o + 11 ≠ o + 4 by omega)]; exact K3
            have zK244 : zh235 (o + 12) = arI κ 160 nu := by rw [ze236]; rw [va_up_ne _ _ (show o + 12 ≠ o + 4 by omega)]; exact K4
            refine z_iret X E dX12_sheet_34 (by omega) (by omega) ⟨?_, ?_, ?_⟩
            · (have hop : opSheet s w j = (1, 0) := by (unfold opSheet; (try simp only [ i_eq, i_lt, i_le, show (-1 : Int32).toInt = -1 by decide, show (0 : Int32).toInt = 0 by decide, show (1 : Int32).toInt = 1 by decide, show (2 : Int32).toInt = 2 by decide, show (3 : Int32).toInt = 3 by decide, show (4 : Int32).toInt = 4 by decide, show (5 : Int32).toInt = 5 by decide, show (6 : Int32).toInt = 6 by decide, show (7 : Int32).toInt = 7 by decide, show (8 : Int32).toInt = 8 by decide, show (9 : Int32).toInt = 9 by decide, show (10 : Int32).toInt = 10 by decide, show (11 : Int32).toInt = 11 by decide, show (12 : Int32).toInt = 12 by decide, show (13 : Int32).toInt = 13 by decide, show (14 : Int32).toInt = 14 by decide, show (15 : Int32).toInt = 15 by decide, show (16 : Int32).toInt = 16 by decide, show (20 : Int32).toInt = 20 by decide, show (39 : Int32).toInt = 39 by decide, show (40 : Int32).toInt = 40 by decide, show (50 : Int32).toInt = 50 by decide, show (60 : Int32).toInt = 60 by decide, show (99 : Int32).toInt = 99 by decide, show (100 : Int32).toInt = 100 by decide, show (999 : Int32).toInt = 999 by decide, show (9999 : Int32).toInt = 9999 by decide, show (99999 : Int32).toInt = 99999 by decide, show (999999 : Int32).toInt = 999999 by decide, show (9999999 : Int32).toInt = 9999999 by decide, show (-50 : Int32).toInt = -50 by decide, show (32 : Int32).toInt = 32 by decide] at *); (repeat first | rw [if_pos (by omega)] | rw [if_neg (by omega)]))); rw [hop]; rfl
            · (have hop : opSheet s w j = (1, 0) := by (unfold opSheet; (try simp only [ i_eq, i_lt, i_le, show (-1 : Int32).toInt = -1 by decide, show (0 : Int32).toInt = 0 by decide, show (1 : Int32).toInt = 1 by decide, show (2 : Int32).toInt = 2 by decide, show (3 : Int32).toInt = 3 by decide, show (4 : Int32).toInt = 4 by decide, show (5 : Int32).toInt = 5 by decide, show (6 : Int32).toInt = 6 by decide, show (7 : Int32).toInt = 7 by decide, show (8 : Int32).toInt = 8 by decide, show (9 : Int32).toInt = 9 by decide, show (10 : Int32).toInt = 10 by decide, show (11 : Int32).toInt = 11 by decide, show (12 : Int32).toInt = 12 by decide, show (13 : Int32).toInt = 13 by decide, show (14 : Int32).toInt = 14 by decide, show (15 : Int32).toInt = 15 by decide, show (16 : Int32).toInt = 16 by decide, show (20 : Int32).toInt = 20 by decide, show (39 : Int32).toInt = 39 by decide, show (40 : Int32).toInt = 40 by decide, show (50 : Int32).toInt = 50 by decide, show (60 : Int32).toInt = 60 by decide, show (99 : Int32).toInt = 99 by decide, show (100 : Int32).toInt = 100 by decide, show (999 : Int32).toInt = 999 by decide, show (9999 : Int32).toInt = 9999 by decide, show (99999 : Int32).toInt = 99999 by decide, show (999999 : Int32).toInt = 999999 by decide, show (9999999 : Int32).toInt = 9999999 by decide, show (-50 : Int32).toInt = -50 by decide, show (32 : Int32).toInt = 32 by decide] at *); (repeat first | rw [if_pos (by omega)] | rw [if_neg (by omega)]))); unfold biSheet siSheet nuSheet; rw [hop]; rw [ze236]; (funext zz; simp only [va_up, bump, ↓reduceIte]; (repeat' split) <;> first | rfl | (exfalso; omega) | (simp_all; done))
            · rfl
def ctk (nu : Nat → Int32) (s a b : Nat) : Nat → Nat → Nat
  | 0, i => i
  | f + 1, i => if i < a ∧ i < b ∧ 0 ≤ (nu (40 * s + i)).toInt ∧ (nu (40 * s + i)).toInt ≤ 99999 then ctk nu s a b f (i + 1) else i
def dTake (d nu : Nat → Int32) (s n : Nat) : Nat → Int32 := fun q => if 100 ≤ q ∧ q < 100 + n then nu (40 * s + (q - 100)) else d q
