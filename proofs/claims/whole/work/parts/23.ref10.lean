def nuDraw (nu d bi : Nat → Int32) (s n : Nat) : Nat → Int32 := fun q => if 40 * s ≤ q ∧ q < 40 * s + n then narB (bi s) (d (100 + (q - 40 * s))) else nu q
theorem nuDraw_0 (nu d bi : Nat → Int32) (s : Nat) : nuDraw nu d bi s 0 = nu := by
  funext q
  exact if_neg (by omega)
theorem nuDraw_s (nu d bi : Nat → Int32) (s i : Nat) : upd (nuDraw nu d bi s i) (40 * s + i) (narB (bi s) (d (100 + i))) = nuDraw nu d bi s (i + 1) := by
  funext q
  unfold upd nuDraw
  by_cases h : q = 40 * s + i
  · rw [if_pos h, if_pos (by omega), show q - 40 * s = i by omega]
  · rw [if_neg h]
    by_cases h2 : 40 * s ≤ q ∧ q < 40 * s + i
    · rw [if_pos h2, if_pos (by omega)]
    · rw [if_neg h2, if_neg (by omega)]
def opDraw (bi : Nat → Int32) (ss : Nat → Nat) (len : Nat) (s : Int32) : Nat × Int32 := if ¬ (0 ≤ s.toInt ∧ s.toInt ≤ 3) then (1, 0) else if (bi s.toNatClampNeg).toInt = 0 then (2, 0) else (0, nI (min len (ss s.toNatClampNeg)))
def nuDr (nu d bi : Nat → Int32) (ss : Nat → Nat) (len : Nat) (s : Int32) : Nat → Int32 := if ¬ (0 ≤ s.toInt ∧ s.toInt ≤ 3) then nu else if (bi s.toNatClampNeg).toInt = 0 then nu else nuDraw nu d bi s.toNatClampNeg (min len (ss s.toNatClampNeg))
set_option maxHeartbeats 4000000 in
set_option maxRecDepth 100000 in
theorem r_draw {κ : Wc} {l : Launch} {h : Mm} {n : Nat} {o : Nat} {fo : Nat → Int32} {bi : Nat → Int32} {si : Nat → Int32} {nu : Nat → Int32} {ss : Nat → Nat} {d : Nat → Int32} {len : Nat} {im : Int32} {ba : Int32} {at_ : Int32} {sz : Int32} {fa : Int32} {op : Int32} {rm : Int32} {ti : Int32} {tm : Int32} {wh : Int32} {s : Int32} (K0 : h o = some (.inr (12, [.ref (o + 1), .ref (o + 2), .ref (o + 3), .int im, .ref (o + 4), .int ba, .int at_, .int sz, .int fa, .int op, .ref (o + 5), .ref (o + 6), .int rm, .ref (o + 7), .ref (o + 8), .int ti, .ref (o + 9), .int tm, .int wh, .ref (o + 10), .ref (o + 11), .ref (o + 12), .ref (o + 13)]))) (K1 : h (o + 4) = arI κ 6 fo) (K2 : h (o + 10) = arI κ 4 bi) (K3 : h (o + 11) = arI κ 4 si) (K4 : h (o + 12) = arI κ 160 nu) (K5 : h (o + 1) = arI κ 340 d) (p1 : ∀ k, k < 4 → si k = nI (ss k) ∧ ss k ≤ 40) (q1 : d 1 = nI len) (q2 : 1 ≤ len) (q3 : len ≤ 40) : Con κ l yX12_draw cX12_draw 5 (some .int) 3 0 0 [.ref o, .int s] h n (fun q h' n' => q = some (.int (ansOf (opDraw bi ss len s))) ∧ h' = va_up (va_up h (o + 12) (arI κ 160 (nuDr nu d bi ss len s))) (o + 4) (arI κ 6 (bump (opDraw bi ss len s) fo)) ∧ n' = n) := by
  refine Con.of mk_X12_draw (Nat.le_of_ble_eq_true rfl) (fun G hG X E => ?_)
  subst hG
  refine z_ls (ls' := [(0, .ref o), (1, .int s)]) rfl ?_
  refine z_iload_n X 1 dX12_draw_0 rfl ?_
  refine z_callS X (r_isSheet (κ := κ) (n := n) (v := (s))  ) mk_X12_isSheet dX12_draw_1 wd_1036 wd_1037 rfl rfl (Nat.le_of_ble_eq_true rfl) (Nat.le_of_ble_eq_true rfl) (Nat.le_of_ble_eq_true rfl) (by omega) (by omega) (fun q zh1 zm3 zp4 => ?_)
  obtain ⟨rfl, ze2, zn5⟩ := zp4
  subst zm3
  subst zh1
  refine z_st (st' := [.int (b2i (0 ≤ (s : Int32).toInt ∧ (s : Int32).toInt ≤ 3))]) rfl ?_
  refine z_if_ne X 13 dX12_draw_4 (by decide) (fun zc6 => ?_) (fun zc6 => ?_)
  · replace zc6 := b2i_t zc6
    obtain ⟨sk, hsk, rfl⟩ := ix_of (c := s) (len := 4) (by omega) (by omega)
    have hss := (p1 sk hsk).2
    refine z_aload_n X 0 dX12_draw_13 rfl ?_
    refine z_get X fl_X12_37_12 dX12_draw_14 K0 rfl ?_
    refine z_iload_n X 1 dX12_draw_17 rfl ?_
    refine z_iald2 (v := bi sk) X dX12_draw_18 K2 (vp_in_nI (n := sk) (by omega) (by omega)) (congrArg bi (nI_clamp (n := sk) (by omega))) ?_
    refine z_if_ne X 28 dX12_draw_19 (by decide) (fun zc7 => ?_) (fun zc7 => ?_)
    · refine z_aload_n X 0 dX12_draw_28 rfl ?_
      refine z_get X fl_X12_7_12 dX12_draw_29 K0 rfl ?_
      refine z_iconst (v := 1) X dX12_draw_32 (by decide) ?_
      refine z_iald2 (v := d 1) X dX12_draw_33 K5 (vp_in_nI (n := 1) (by omega) (by omega)) (congrArg d (nI_clamp (n := 1) (by omega))) ?_
      refine z_toe (y := nI len) (q1) ?_
      refine z_aload_n X 0 dX12_draw_34 rfl ?_
      refine z_get X fl_X12_40_12 dX12_draw_35 K0 rfl ?_
      refine z_iload_n X 1 dX12_draw_38 rfl ?_
      refine z_iald2 (v := si sk) X dX12_draw_39 K3 (vp_in_nI (n := sk) (by omega) (by omega)) (congrArg si (nI_clamp (n := sk) (by omega))) ?_
      refine z_toe (y := nI (ss sk)) ((p1 sk hsk).1) ?_
      refine z_icmp_ge X 52 dX12_draw_40 (by decide) (fun zc8 => ?_) (fun zc8 => ?_)
      · try replace zc8 := (nI_leI (a := ss sk) (b := len) (by omega) (by omega)).mp zc8
        refine z_aload_n X 0 dX12_draw_52 rfl ?_
        refine z_get X fl_X12_40_12 dX12_draw_53 K0 rfl ?_
        refine z_iload_n X 1 dX12_draw_56 rfl ?_
        refine z_iald2 (v := si sk) X dX12_draw_57 K3 (vp_in_nI (n := sk) (by omega) (by omega)) (congrArg si (nI_clamp (n := sk) (by omega))) ?_
        refine z_toe (y := nI (min len (ss sk))) (((p1 sk hsk).1).trans (congrArg nI (by omega))) ?_
        refine z_istore_n (ls' := [(2, .int (nI (min len (ss sk)))), (0, .ref o), (1, .int (nI sk))]) X dX12_draw_58 (by decide) rfl ?_
        refine z_iconst (v := 0) X dX12_draw_59 (by decide) ?_
        refine z_istore_n (ls' := [(3, .int 0), (2, .int (nI (min len (ss sk)))), (0, .ref o), (1, .int (nI sk))]) X dX12_draw_60 (by decide) rfl ?_
        have L61 : ∀ (jj : Nat) (hh61 : Mm)  (i : Nat), (40 - i < jj) → (hh61 = va_up h (o + 12) (arI κ 160 (nuDraw nu d bi sk i))) → (hi : i ≤ min len (ss sk)) → Z κ G 5 61 [(0, .ref o), (1, .int (nI sk)), (2, .int (nI (min len (ss sk)))), (3, .int (nI i))] [] hh61 n 0 (0) := by
          intro jj
          induction jj with
          | zero => intro hh61 i hmu; exact absurd hmu (Nat.not_lt_zero _)
          | succ jj ih61 =>
            intro hh61 i hmu he61 hi
            have zK9 : hh61 o = some (.inr (12, [.ref (o + 1), .ref (o + 2), .ref (o + 3), .int im, .ref (o + 4), .int ba, .int at_, .int sz, .int fa, .int op, .ref (o + 5), .ref (o + 6), .int rm, .ref (o + 7), .ref (o + 8), .int ti, .ref (o + 9), .int tm, .int wh, .ref (o + 10), .ref (o + 11), .ref (o + 12), .ref (o + 13)])) := by rw [he61]; rw [va_up_ne _ _ (show o ≠ o + 12 by omega)]; exact K0
            have zK10 : hh61 (o + 4) = arI κ 6 fo := by rw [he61]; rw [va_up_ne _ _ (show o + 4 ≠ o + 12 by omega)]; exact K1
            have zK11 : hh61 (o + 10) = arI κ 4 bi := by rw [he61]; rw [va_up_ne _ _ (show o + 10 ≠ o + 12 by omega)]; exact K2
            have zK12 : hh61 (o + 11) = arI κ 4 si := by rw [he61]; rw [va_up_ne _ _ (show o + 11 ≠ o + 12 by omega)]; exact K3
            have zK13 : hh61 (o + 12) = arI κ 160 (nuDraw nu d bi sk i) := by rw [he61]; exact va_up_self _ _ _
            have zK14 : hh61 (o + 1) = arI κ 340 d := by rw [he61]; rw [va_up_ne _ _ (show o + 1 ≠ o + 12 by omega)]; exact K5
            refine z_iload_n X 3 dX12_draw_61 rfl ?_
            refine z_iload_n X 2 dX12_draw_62 rfl ?_
            refine z_icmp_ge X 130 dX12_draw_63 (by decide) (fun zc15 => ?_) (fun zc15 => ?_)
            · try replace zc15 := (nI_leI (a := min len (ss sk)) (b := i) (by omega) (by omega)).mp zc15
              refine z_iload_n X 2 dX12_draw_130 rfl ?_
              refine z_iret X E dX12_draw_131 (by omega) (by omega) ⟨?_, ?_, ?_⟩
              · (have hop : opDraw bi ss len (nI sk) = (0, nI (min len (ss sk))) := by (unfold opDraw; simp only [nI_clamp (n := sk) (by omega), i_nI (n := sk) (by omega)]; rw [if_neg (by omega), if_neg (by simp only [i_eq, show (-1 : Int32).toInt = -1 by decide, show (0 : Int32).toInt = 0 by decide, show (1 : Int32).toInt = 1 by decide, show (2 : Int32).toInt = 2 by decide, show (3 : Int32).toInt = 3 by decide, show (4 : Int32).toInt = 4 by decide, show (5 : Int32).toInt = 5 by decide, show (6 : Int32).toInt = 6 by decide, show (7 : Int32).toInt = 7 by decide, show (8 : Int32).toInt = 8 by decide, show (9 : Int32).toInt = 9 by decide, show (10 : Int32).toInt = 10 by decide, show (11 : Int32).toInt = 11 by decide, show (12 : Int32).toInt = 12 by decide, show (13 : Int32).toInt = 13 by decide, show (14 : Int32).toInt = 14 by decide, show (15 : Int32).toInt = 15 by decide, show (16 : Int32).toInt = 16 by decide, show (20 : Int32).toInt = 20 by decide, show (39 : Int32).toInt = 39 by decide, show (40 : Int32).toInt = 40 by decide, show (50 : Int32).toInt = 50 by decide, show (60 : Int32).toInt = 60 by decide, show (99 : Int32).toInt = 99 by decide, show (100 : Int32).toInt = 100 by decide, show (999 : Int32).toInt = 999 by decide, show (9999 : Int32).toInt = 9999 by decide, show (99999 : Int32).toInt = 99999 by decide, show (999999 : Int32).toInt = 999999 by decide, show (9999999 : Int32).toInt = 9999999 by decide, show (-50 : Int32).toInt = -50 by decide, show (32 : Int32).toInt = 32 by decide] at *; omega)])); rw [hop]; rfl
              · (have hct : i = min len (ss sk) := by omega); (have hop : opDraw bi ss len (nI sk) = (0, nI (min len (ss sk))) := by (unfold opDraw; simp only [nI_clamp (n := sk) (by omega), i_nI (n := sk) (by omega)]; rw [if_neg (by omega), if_neg (by simp only [i_eq, show (-1 : Int32).toInt = -1 by decide, show (0 : Int32).toInt = 0 by decide, show (1 : Int32).toInt = 1 by decide, show (2 : Int32).toInt = 2 by decide, show (3 : Int32).toInt = 3 by decide, show (4 : Int32).toInt = 4 by decide, show (5 : Int32).toInt = 5 by decide, show (6 : Int32).toInt = 6 by decide, show (7 : Int32).toInt = 7 by decide, show (8 : Int32).toInt = 8 by decide, show (9 : Int32).toInt = 9 by decide, show (10 : Int32).toInt = 10 by decide, show (11 : Int32).toInt = 11 by decide, show (12 : Int32).toInt = 12 by decide, show (13 : Int32).toInt = 13 by decide, show (14 : Int32).toInt = 14 by decide, show (15 : Int32).toInt = 15 by decide, show (16 : Int32).toInt = 16 by decide, show (20 : Int32).toInt = 20 by decide, show (39 : Int32).toInt = 39 by decide, show (40 : Int32).toInt = 40 by decide, show (50 : Int32).toInt = 50 by decide, show (60 : Int32).toInt = 60 by decide, show (99 : Int32).toInt = 99 by decide, show (100 : Int32).toInt = 100 by decide, show (999 : Int32).toInt = 999 by decide, show (9999 : Int32).toInt = 9999 by decide, show (99999 : Int32).toInt = 99999 by decide, show (999999 : Int32).toInt = 999999 by decide, show (9999999 : Int32).toInt = 9999999 by decide, show (-50 : Int32).toInt = -50 by decide, show (32 : Int32).toInt = 32 by decide] at *; omega)])); (have hdc : nuDr nu d bi ss len (nI sk) = nuDraw nu d bi sk i := by (rw [hct]; (unfold nuDr; simp only [nI_clamp (n := sk) (by omega), i_nI (n := sk) (by omega)]; rw [if_neg (by omega), if_neg (by simp only [i_eq, show (-1 : Int32).toInt = -1 by decide, show (0 : Int32).toInt = 0 by decide, show (1 : Int32).toInt = 1 by decide, show (2 : Int32).toInt = 2 by decide, show (3 : Int32).toInt = 3 by decide, show (4 : Int32).toInt = 4 by decide, show (5 : Int32).toInt = 5 by decide, show (6 : Int32).toInt = 6 by decide, show (7 : Int32).toInt = 7 by decide, show (8 : Int32).toInt = 8 by decide, show (9 : Int32).toInt = 9 by decide, show (10 : Int32).toInt = 10 by decide, show (11 : Int32).toInt = 11 by decide, show (12 : Int32).toInt = 12 by decide, show (13 : Int32).toInt = 13 by decide, show (14 : Int32).toInt = 14 by decide, show (15 : Int32).toInt = 15 by decide, show (16 : Int32).toInt = 16 by decide, show (20 : Int32).toInt = 20 by decide, show (39 : Int32).toInt = 39 by decide, show (40 : Int32).toInt = 40 by decide, show (50 : Int32).toInt = 50 by decide, show (60 : Int32).toInt = 60 by decide, show (99 : Int32).toInt = 99 by decide, show (100 : Int32).toInt = 100 by decide, show (999 : Int32).toInt = 999 by decide, show (9999 : Int32).toInt = 9999 by decide, show (99999 : Int32).toInt = 99999 by decide, show (999999 : Int32).toInt = 999999 by decide, show (9999999 : Int32).toInt = 9999999 by decide, show (-50 : Int32).toInt = -50 by decide, show (32 : Int32).toInt = 32 by decide] at *; omega)]))); rw [hop, hdc]; clear hop hdc hct; rw [he61]; (funext zz; simp only [va_up, bump, ↓reduceIte]; (repeat' split) <;> first | rfl | (exfalso; omega) | (simp_all; done))
              · rfl
            · try replace zc15 := mt (nI_leI (a := min len (ss sk)) (b := i) (by omega) (by omega)).mpr zc15
              refine z_aload_n X 0 dX12_draw_66 rfl ?_
              refine z_get X fl_X12_7_12 dX12_draw_67 zK9 rfl ?_
              refine z_bipush (v := 100) X dX12_draw_70 (by decide) ?_
              refine z_iload_n X 3 dX12_draw_72 rfl ?_
              refine z_iadd X dX12_draw_73 ?_
              refine z_toe (y := nI (100 + i)) (nI_add (100) (i)) ?_
              refine z_iald2 (v := d (100 + i)) X dX12_draw_74 zK14 (vp_in_nI (n := 100 + i) (by omega) (by omega)) (congrArg d (nI_clamp (n := 100 + i) (by omega))) ?_
              refine z_istore (ls' := [(4, .int (d (100 + i))), (0, .ref o), (1, .int (nI sk)), (2, .int (nI (min len (ss sk)))), (3, .int (nI i))]) X dX12_draw_75 (by decide) rfl ?_
              refine z_aload_n X 1 dX12_draw_77 rfl ?_
              refine z_get X fl_X12_43_12 dX12_draw_78 zK9 rfl ?_
              refine z_bipush (v := 40) X dX12_draw_81 (by decide) ?_
              refine z_iload_n X 2 dX12_draw_83 rfl ?_
              refine z_imul X dX12_draw_84 ?_
              refine z_toe (y := nI (40 * sk)) (pk_mul (40) (sk)) ?_
              refine z_iload_n X 4 dX12_draw_85 rfl ?_
              refine z_iadd X dX12_draw_86 ?_
              refine z_toe (y := nI ((40 * sk) + i)) (nI_add (40 * sk) (i)) ?_
              refine z_aload_n X 1 dX12_draw_87 rfl ?_
              refine z_get X fl_X12_37_12 dX12_draw_88 zK9 rfl ?_
              refine z_iload_n X 2 dX12_draw_91 rfl ?_
              refine z_iald2 (v := bi sk) X dX12_draw_92 zK11 (vp_in_nI (n := sk) (by omega) (by omega)) (congrArg bi (nI_clamp (n := sk) (by omega))) ?_
              refine z_bipush (v := 8) X dX12_draw_93 (by decide) ?_
              refine z_icmp_ne X 104 dX12_draw_95 (by decide) (fun zc16 => ?_) (fun zc16 => ?_)
              · refine z_aload_n X 1 dX12_draw_104 rfl ?_
                refine z_get X fl_X12_37_12 dX12_draw_105 zK9 rfl ?_
                refine z_iload_n X 2 dX12_draw_108 rfl ?_
                refine z_iald2 (v := bi sk) X dX12_draw_109 zK11 (vp_in_nI (n := sk) (by omega) (by omega)) (congrArg bi (nI_clamp (n := sk) (by omega))) ?_
                refine z_bipush (v := 16) X dX12_draw_110 (by decide) ?_
                refine z_icmp_ne X 121 dX12_draw_112 (by decide) (fun zc17 => ?_) (fun zc17 => ?_)
                · refine z_iload X 0 dX12_draw_121 rfl ?_
                  refine z_iast X dX12_draw_123 zK13 (vp_in_nI (n := (40 * sk) + i) (by omega) (by omega)) (congrArg (fun z => va_up hh61 (o + 12) (arI κ 160 (upd (nuDraw nu d bi sk i) z (d (100 + i))))) (nI_clamp (n := (40 * sk) + i) (by omega))) ?_
                  obtain ⟨zh18, ze19⟩ : ∃ z : Mm, z = va_up hh61 (o + 12) (arI κ 160 (upd (nuDraw nu d bi sk i) ((40 * sk) + i) (d (100 + i)))) := ⟨_, rfl⟩
                  refine z_heap (h' := zh18) ze19.symm ?_
                  have zK20 := up_off ze19 (show o ≠ o + 12 by omega) zK9
                  have zK21 := up_off ze19 (show o + 4 ≠ o + 12 by omega) zK10
                  have zK22 := up_off ze19 (show o + 10 ≠ o + 12 by omega) zK11
                  have zK23 := up_off ze19 (show o + 11 ≠ o + 12 by omega) zK12
                  have zK24 := up_at ze19
                  have zK25 := up_off ze19 (show o + 1 ≠ o + 12 by omega) zK14
                  refine z_iinc (v := nI (i + 1)) (ls' := [(3, .int (nI (i + 1))), (4, .int (d (100 + i))), (0, .ref o), (1, .int (nI sk)), (2, .int (nI (min len (ss sk))))]) X 4 dX12_draw_124 rfl (nI_1 (i)) (by decide) rfl ?_
                  refine z_goto X 61 dX12_draw_127 (by decide) ?_
                  refine z_sub (ls' := [(0, .ref o), (1, .int (nI sk)), (2, .int (nI (min len (ss sk)))), (3, .int (nI (i + 1)))]) [2, 3, 4, 0] rfl ?_
                  exact ih61 _ (i + 1) (by omega) (by (have hnb : narB (bi sk) (d (100 + i)) = d (100 + i) := by (unfold narB; simp only [i_eq, show (8 : Int32).toInt = 8 by decide, show (16 : Int32).toInt = 16 by decide] at *; first | rw [if_pos (by omega)] | rw [if_neg (by omega), if_pos (by omega)] | rw [if_neg (by omega), if_neg (by omega)])); rw [ze19, he61, up_up, ← hnb, nuDraw_s]) (by first | assumption | rfl | omega)
                · refine z_iload X 0 dX12_draw_115 rfl ?_
                  refine z_i2s X dX12_draw_117 rfl ?_
                  refine z_goto X 123 dX12_draw_118 (by decide) ?_
                  refine z_iast X dX12_draw_123 zK13 (vp_in_nI (n := (40 * sk) + i) (by omega) (by omega)) (congrArg (fun z => va_up hh61 (o + 12) (arI κ 160 (upd (nuDraw nu d bi sk i) z ((d (100 + i)).toInt16.toInt32)))) (nI_clamp (n := (40 * sk) + i) (by omega))) ?_
                  obtain ⟨zh26, ze27⟩ : ∃ z : Mm, z = va_up hh61 (o + 12) (arI κ 160 (upd (nuDraw nu d bi sk i) ((40 * sk) + i) ((d (100 + i)).toInt16.toInt32))) := ⟨_, rfl⟩
                  refine z_heap (h' := zh26) ze27.symm ?_
                  have zK28 := up_off ze27 (show o ≠ o + 12 by omega) zK9
                  have zK29 := up_off ze27 (show o + 4 ≠ o + 12 by omega) zK10
                  have zK30 := up_off ze27 (show o + 10 ≠ o + 12 by omega) zK11
                  have zK31 := up_off ze27 (show o + 11 ≠ o + 12 by omega) zK12
                  have zK32 := up_at ze27
                  have zK33 := up_off ze27 (show o + 1 ≠ o + 12 by omega) zK14
                  refine z_iinc (v := nI (i + 1)) (ls' := [(3, .int (nI (i + 1))), (4, .int (d (100 + i))), (0, .ref o), (1, .int (nI sk)), (2, .int (nI (min len (ss sk))))]) X 4 dX12_draw_124 rfl (nI_1 (i)) (by decide) rfl ?_
                  refine z_goto X 61 dX12_draw_127 (by decide) ?_
                  refine z_sub (ls' := [(0, .ref o), (1, .int (nI sk)), (2, .int (nI (min len (ss sk)))), (3, .int (nI (i + 1)))]) [2, 3, 4, 0] rfl ?_
                  exact ih61 _ (i + 1) (by omega) (by (have hnb : narB (bi sk) (d (100 + i)) = (d (100 + i)).toInt16.toInt32 := by (unfold narB; simp only [i_eq, show (8 : Int32).toInt = 8 by decide, show (16 : Int32).toInt = 16 by decide] at *; first | rw [if_pos (by omega)] | rw [if_neg (by omega), if_pos (by omega)] | rw [if_neg (by omega), if_neg (by omega)])); rw [ze27, he61, up_up, ← hnb, nuDraw_s]) (by first | assumption | rfl | omega)
              · refine z_iload X 0 dX12_draw_98 rfl ?_
                refine z_i2b X dX12_draw_100 rfl ?_
                refine z_goto X 123 dX12_draw_101 (by decide) ?_
                refine z_iast X dX12_draw_123 zK13 (vp_in_nI (n := (40 * sk) + i) (by omega) (by omega)) (congrArg (fun z => va_up hh61 (o + 12) (arI κ 160 (upd (nuDraw nu d bi sk i) z ((d (100 + i)).toInt8.toInt32)))) (nI_clamp (n := (40 * sk) + i) (by omega))) ?_
                obtain ⟨zh34, ze35⟩ : ∃ z : Mm, z = va_up hh61 (o + 12) (arI κ 160 (upd (nuDraw nu d bi sk i) ((40 * sk) + i) ((d (100 + i)).toInt8.toInt32))) := ⟨_, rfl⟩
                refine z_heap (h' := zh34) ze35.symm ?_
                have zK36 := up_off ze35 (show o ≠ o + 12 by omega) zK9
                have zK37 := up_off ze35 (show o + 4 ≠ o + 12 by omega) zK10
                have zK38 := up_off ze35 (show o + 10 ≠ o + 12 by omega) zK11
                have zK39 := up_off ze35 (show o + 11 ≠ o + 12 by omega) zK12
                have zK40 := up_at ze35
                have zK41 := up_off ze35 (show o + 1 ≠ o + 12 by omega) zK14
                refine z_iinc (v := nI (i + 1)) (ls' := [(3, .int (nI (i + 1))), (4, .int (d (100 + i))), (0, .ref o), (1, .int (nI sk)), (2, .int (nI (min len (ss sk))))]) X 4 dX12_draw_124 rfl (nI_1 (i)) (by decide) rfl ?_
                refine z_goto X 61 dX12_draw_127 (by decide) ?_
                refine z_sub (ls' := [(0, .ref o), (1, .int (nI sk)), (2, .int (nI (min len (ss sk)))), (3, .int (nI (i + 1)))]) [2, 3, 4, 0] rfl ?_
                exact ih61 _ (i + 1) (by omega) (by (have hnb : narB (bi sk) (d (100 + i)) = (d (100 + i)).toInt8.toInt32 := by (unfold narB; simp only [i_eq, show (8 : Int32).toInt = 8 by decide, show (16 : Int32).toInt = 16 by decide] at *; first | rw [if_pos (by omega)] | rw [if_neg (by omega), if_pos (by omega)] | rw [if_neg (by omega), if_neg (by omega)])); rw [ze35, he61, up_up, ← hnb, nuDraw_s]) (by first | assumption | rfl | omega)
        refine z_sub (ls' := [(0, .ref o), (1, .int (nI sk)), (2, .int (nI (min len (ss sk)))), (3, .int 0)]) [2, 3, 1, 0] rfl ?_
        exact L61 _ _ 0 (Nat.lt_succ_self _) (by rw [nuDraw_0, up_same _ _ K4]) (by first | assumption | rfl | omega)
      · try replace zc8 := mt (nI_leI (a := ss sk) (b := len) (by omega) (by omega)).mpr zc8
        refine z_aload_n X 0 dX12_draw_43 rfl ?_
        refine z_get X fl_X12_7_12 dX12_draw_44 K0 rfl ?_
        refine z_iconst (v := 1) X dX12_draw_47 (by decide) ?_
        refine z_iald2 (v := d 1) X dX12_draw_48 K5 (vp_in_nI (n := 1) (by omega) (by omega)) (congrArg d (nI_clamp (n := 1) (by omega))) ?_
        refine z_toe (y := nI len) (q1) ?_
        refine z_goto X 58 dX12_draw_49 (by decide) ?_
        refine z_toe (y := nI (min len (ss sk))) (congrArg nI (by omega)) ?_
        refine z_istore_n (ls' := [(2, .int (nI (min len (ss sk)))), (0, .ref o), (1, .int (nI sk))]) X dX12_draw_58 (by decide) rfl ?_
        refine z_iconst (v := 0) X dX12_draw_59 (by decide) ?_
        refine z_istore_n (ls' := [(3, .int 0), (2, .int (nI (min len (ss sk)))), (0, .ref o), (1, .int (nI sk))]) X dX12_draw_60 (by decide) rfl ?_
        have L61 : ∀ (jj : Nat) (hh61 : Mm)  (i : Nat), (40 - i < jj) → (hh61 = va_up h (o + 12) (arI κ 160 (nuDraw nu d bi sk i))) → (hi : i ≤ min len (ss sk)) → Z κ G 5 61 [(0, .ref o), (1, .int (nI sk)), (2, .int (nI (min len (ss sk)))), (3, .int (nI i))] [] hh61 n 0 (0) := by
          intro jj
          induction jj with
          | zero => intro hh61 i hmu; exact absurd hmu (Nat.not_lt_zero _)
          | succ jj ih61 =>
            intro hh61 i hmu he61 hi
            have zK42 : hh61 o = some (.inr (12, [.ref (o + 1), .ref (o + 2), .ref (o + 3), .int im, .ref (o + 4), .int ba, .int at_, .int sz, .int fa, .int op, .ref (o + 5), .ref (o + 6), .int rm, .ref (o + 7), .ref (o + 8), .int ti, .ref (o + 9), .int tm, .int wh, .ref (o + 10), .ref (o + 11), .ref (o + 12), .ref (o + 13)])) := by rw [he61]; rw [va_up_ne _ _ (show o ≠ o + 12 by omega)]; exact K0
            have zK43 : hh61 (o + 4) = arI κ 6 fo := by rw [he61]; rw [va_up_ne _ _ (show o + 4 ≠ o + 12 by omega)]; exact K1
            have zK44 : hh61 (o + 10) = arI κ 4 bi := by rw [he61]; rw [va_up_ne _ _ (show o + 10 ≠ o + 12 by omega)]; exact K2
            have zK45 : hh61 (o + 11) = arI κ 4 si := by rw [he61]; rw [va_up_ne _ _ (show o + 11 ≠ o + 12 by omega)]; exact K3
            have zK46 : hh61 (o + 12) = arI κ 160 (nuDraw nu d bi sk i) := by rw [he61]; exact va_up_self _ _ _
            have zK47 : hh61 (o + 1) = arI κ 340 d := by rw [he61]; rw [va_up_ne _ _ (show o + 1 ≠ o + 12 by omega)]; exact K5
            refine z_iload_n X 3 dX12_draw_61 rfl ?_
            refine z_iload_n X 2 dX12_draw_62 rfl ?_
            refine z_icmp_ge X 130 dX12_draw_63 (by decide) (fun zc48 => ?_) (fun zc48 => ?_)
            · try replace zc48 := (nI_leI (a := min len (ss sk)) (b := i) (by omega) (by omega)).mp zc48
              refine z_iload_n X 2 dX12_draw_130 rfl ?_
              refine z_iret X E dX12_draw_131 (by omega) (by omega) ⟨?_, ?_, ?_⟩
              · (have hop : opDraw bi ss len (nI sk) = (0, nI (min len (ss sk))) := by (unfold opDraw; simp only [nI_clamp (n := sk) (by omega), i_nI (n := sk) (by omega)]; rw [if_neg (by omega), if_neg (by simp only [i_eq, show (-1 : Int32).toInt = -1 by decide, show (0 : Int32).toInt = 0 by decide, show (1 : Int32).toInt = 1 by decide, show (2 : Int32).toInt = 2 by decide, show (3 : Int32).toInt = 3 by decide, show (4 : Int32).toInt = 4 by decide, show (5 : Int32).toInt = 5 by decide, show (6 : Int32).toInt = 6 by decide, show (7 : Int32).toInt = 7 by decide, show (8 : Int32).toInt = 8 by decide, show (9 : Int32).toInt = 9 by decide, show (10 : Int32).toInt = 10 by decide, show (11 : Int32).toInt = 11 by decide, show (12 : Int32).toInt = 12 by decide, show (13 : Int32).toInt = 13 by decide, show (14 : Int32).toInt = 14 by decide, show (15 : Int32).toInt = 15 by decide, show (16 : Int32).toInt = 16 by decide, show (20 : Int32).toInt = 20 by decide, show (39 : Int32).toInt = 39 by decide, show (40 : Int32).toInt = 40 by decide, show (50 : Int32).toInt = 50 by decide, show (60 : Int32).toInt = 60 by decide, show (99 : Int32).toInt = 99 by decide, show (100 : Int32).toInt = 100 by decide, show (999 : Int32).toInt = 999 by decide, show (9999 : Int32).toInt = 9999 by decide, show (99999 : Int32).toInt = 99999 by decide, show (999999 : Int32).toInt = 999999 by decide, show (9999999 : Int32).toInt = 9999999 by decide, show (-50 : Int32).toInt = -50 by decide, show (32 : Int32).toInt = 32 by decide] at *; omega)])); rw [hop]; rfl
              · (have hct : i = min len (ss sk) := by omega); (have hop : opDraw bi ss len (nI sk) = (0, nI (min len (ss sk))) := by (unfold opDraw; simp only [nI_clamp (n := sk) (by omega), i_nI (n := sk) (by omega)]; rw [if_neg (by omega), if_neg (by simp only [i_eq, show (-1 : Int32).toInt = -1 by decide, show (0 : Int32).toInt = 0 by decide, show (1 : Int32).toInt = 1 by decide, show (2 : Int32).toInt = 2 by decide, show (3 : Int32).toInt = 3 by decide, show (4 : Int32).toInt = 4 by decide, show (5 : Int32).toInt = 5 by decide, show (6 : Int32).toInt = 6 by decide, show (7 : Int32).toInt = 7 by decide, show (8 : Int32).toInt = 8 by decide, show (9 : Int32).toInt = 9 by decide, show (10 : Int32).toInt = 10 by decide, show (11 : Int32).toInt = 11 by decide, show (12 : Int32).toInt = 12 by decide, show (13 : Int32).toInt = 13 by decide, show (14 : Int32).toInt = 14 by decide, show (15 : Int32).toInt = 15 by decide, show (16 : Int32).toInt = 16 by decide, show (20 : Int32).toInt = 20 by decide, show (39 : Int32).toInt = 39 by decide, show (40 : Int32).toInt = 40 by decide, show (50 : Int32).toInt = 50 by decide, show (60 : Int32).toInt = 60 by decide, show (99 : Int32).toInt = 99 by decide, show (100 : Int32).toInt = 100 by decide, show (999 : Int32).toInt = 999 by decide, show (9999 : Int32).toInt = 9999 by decide, show (99999 : Int32).toInt = 99999 by decide, show (999999 : Int32).toInt = 999999 by decide, show (9999999 : Int32).toInt = 9999999 by decide, show (-50 : Int32).toInt = -50 by decide, show (32 : Int32).toInt = 32 by decide] at *; omega)])); (have hdc : nuDr nu d bi ss len (nI sk) = nuDraw nu d bi sk i := by (rw [hct]; (unfold nuDr; simp only [nI_clamp (n := sk) (by omega), i_nI (n := sk) (by omega)]; rw [if_neg (by omega), if_neg (by simp only [i_eq, show (-1 : Int32).toInt = -1 by decide, show (0 : Int32).toInt = 0 by decide, show (1 : Int32).toInt = 1 by decide, show (2 : Int32).toInt = 2 by decide, show (3 : Int32).toInt = 3 by decide, show (4 : Int32).toInt = 4 by decide, show (5 : Int32).toInt = 5 by decide, show (6 : Int32).toInt = 6 by decide, show (7 : Int32).toInt = 7 by decide, show (8 : Int32).toInt = 8 by decide, show (9 : Int32).toInt = 9 by decide, show (10 : Int32).toInt = 10 by decide, show (11 : Int32).toInt = 11 by decide, show (12 : Int32).toInt = 12 by decide, show (13 : Int32).toInt = 13 by decide, show (14 : Int32).toInt = 14 by decide, show (15 : Int32).toInt = 15 by decide, show (16 : Int32).toInt = 16 by decide, show (20 : Int32).toInt = 20 by decide, show (39 : Int32).toInt = 39 by decide, show (40 : Int32).toInt = 40 by decide, show (50 : Int32).toInt = 50 by decide, show (60 : Int32).toInt = 60 by decide, show (99 : Int32).toInt = 99 by decide, show (100 : Int32).toInt = 100 by decide, show (999 : Int32).toInt = 999 by decide, show (9999 : Int32).toInt = 9999 by decide, show (99999 : Int32).toInt = 99999 by decide, show (999999 : Int32).toInt = 999999 by decide, show (9999999 : Int32).toInt = 9999999 by decide, show (-50 : Int32).toInt = -50 by decide, show (32 : Int32).toInt = 32 by decide] at *; omega)]))); rw [hop, hdc]; clear hop hdc hct; rw [he61]; (funext zz; simp only [va_up, bump, ↓reduceIte]; (repeat' split) <;> first | rfl | (exfalso; omega) | (simp_all; done))
              · rfl
            · try replace zc48 := mt (nI_leI (a := min len (ss sk)) (b := i) (by omega) (by omega)).mpr zc48
              refine z_aload_n X 0 dX12_draw_66 rfl ?_
              refine z_get X fl_X12_7_12 dX12_draw_67 zK42 rfl ?_
              refine z_bipush (v := 100) X dX12_draw_70 (by decide) ?_
              refine z_iload_n X 3 dX12_draw_72 rfl ?_
              refine z_iadd X dX12_draw_73 ?_
              refine z_toe (y := nI (100 + i)) (nI_add (100) (i)) ?_
              refine z_iald2 (v := d (100 + i)) X dX12_draw_74 zK47 (vp_in_nI (n := 100 + i) (by omega) (by omega)) (congrArg d (nI_clamp (n := 100 + i) (by omega))) ?_
              refine z_istore (ls' := [(4, .int (d (100 + i))), (0, .ref o), (1, .int (nI sk)), (2, .int (nI (min len (ss sk)))), (3, .int (nI i))]) X dX12_draw_75 (by decide) rfl ?_
              refine z_aload_n X 1 dX12_draw_77 rfl ?_
              refine z_get X fl_X12_43_12 dX12_draw_78 zK42 rfl ?_
              refine z_bipush (v := 40) X dX12_draw_81 (by decide) ?_
              refine z_iload_n X 2 dX12_draw_83 rfl ?_
              refine z_imul X dX12_draw_84 ?_
              refine z_toe (y := nI (40 * sk)) (pk_mul (40) (sk)) ?_
              refine z_iload_n X 4 dX12_draw_85 rfl ?_
              refine z_iadd X dX12_draw_86 ?_
              refine z_toe (y := nI ((40 * sk) + i)) (nI_add (40 * sk) (i)) ?_
              refine z_aload_n X 1 dX12_draw_87 rfl ?_
              refine z_get X fl_X12_37_12 dX12_draw_88 zK42 rfl ?_
              refine z_iload_n X 2 dX12_draw_91 rfl ?_
              refine z_iald2 (v := bi sk) X dX12_draw_92 zK44 (vp_in_nI (n := sk) (by omega) (by omega)) (congrArg bi (nI_clamp (n := sk) (by omega))) ?_
              refine z_bipush (v := 8) X dX12_draw_93 (by decide) ?_
              refine z_icmp_ne X 104 dX12_draw_95 (by decide) (fun zc49 => ?_) (fun zc49 => ?_)
              · refine z_aload_n X 1 dX12_draw_104 rfl ?_
                refine z_get X fl_X12_37_12 dX12_draw_105 zK42 rfl ?_
                refine z_iload_n X 2 dX12_draw_108 rfl ?_
                refine z_iald2 (v := bi sk) X dX12_draw_109 zK44 (vp_in_nI (n := sk) (by omega) (by omega)) (congrArg bi (nI_clamp (n := sk) (by omega))) ?_
                refine z_bipush (v := 16) X dX12_draw_110 (by decide) ?_
                refine z_icmp_ne X 121 dX12_draw_112 (by decide) (fun zc50 => ?_) (fun zc50 => ?_)
                · refine z_iload X 0 dX12_draw_121 rfl ?_
                  refine z_iast X dX12_draw_123 zK46 (vp_in_nI (n := (40 * sk) + i) (by omega) (by omega)) (congrArg (fun z => va_up hh61 (o + 12) (arI κ 160 (upd (nuDraw nu d bi sk i) z (d (100 + i))))) (nI_clamp (n := (40 * sk) + i) (by omega))) ?_
                  obtain ⟨zh51, ze52⟩ : ∃ z : Mm, z = va_up hh61 (o + 12) (arI κ 160 (upd (nuDraw nu d bi sk i) ((40 * sk) + i) (d (100 + i)))) := ⟨_, rfl⟩
                  refine z_heap (h' := zh51) ze52.symm ?_
                  have zK53 := up_off ze52 (show o ≠ o + 12 by omega) zK42
                  have zK54 := up_off ze52 (show o + 4 ≠ o + 12 by omega) zK43
                  have zK55 := up_off ze52 (show o + 10 ≠ o + 12 by omega) zK44
                  have zK56 := up_off ze52 (show o + 11 ≠ o + 12 by omega) zK45
                  have zK57 := up_at ze52
                  have zK58 := up_off ze52 (show o + 1 ≠ o + 12 by omega) zK47
                  refine z_iinc (v := nI (i + 1)) (ls' := [(3, .int (nI (i + 1))), (4, .int (d (100 + i))), (0, .ref o), (1, .int (nI sk)), (2, .int (nI (min len (ss sk))))]) X 4 dX12_draw_124 rfl (nI_1 (i)) (by decide) rfl ?_
                  refine z_goto X 61 dX12_draw_127 (by decide) ?_
                  refine z_sub (ls' := [(0, .ref o), (1, .int (nI sk)), (2, .int (nI (min len (ss sk)))), (3, .int (nI (i + 1)))]) [2, 3, 4, 0] rfl ?_
                  exact ih61 _ (i + 1) (by omega) (by (have hnb : narB (bi sk) (d (100 + i)) = d (100 + i) := by (unfold narB; simp only [i_eq, show (8 : Int32).toInt = 8 by decide, show (16 : Int32).toInt = 16 by decide] at *; first | rw [if_pos (by omega)] | rw [if_neg (by omega), if_pos (by omega)] | rw [if_neg (by omega), if_neg (by omega)])); rw [ze52, he61, up_up, ← hnb, nuDraw_s]) (by first | assumption | rfl | omega)
                · refine z_iload X 0 dX12_draw_115 rfl ?_
                  refine z_i2s X dX12_draw_117 rfl ?_
                  refine z_goto X 123 dX12_draw_118 (by decide) ?_
                  refine z_iast X dX12_draw_123 zK46 (vp_in_nI (n := (40 * sk) + i) (by omega) (by omega)) (congrArg (fun z => va_up hh61 (o + 12) (arI κ 160 (upd (nuDraw nu d bi sk i) z ((d (100 + i)).toInt16.toInt32)))) (nI_clamp (n := (40 * sk) + i) (by omega))) ?_
                  obtain ⟨zh59, ze60⟩ : ∃ z : Mm, z = va_up hh61 (o + 12) (arI κ 160 (upd (nuDraw nu d bi sk i) ((40 * sk) + i) ((d (100 + i)).toInt16.toInt32))) := ⟨_, rfl⟩
                  refine z_heap (h' := zh59) ze60.symm ?_
                  have zK61 := up_off ze60 (show o ≠ o + 12 by omega) zK42
                  have zK62 := up_off ze60 (show o + 4 ≠ o + 12 by omega) zK43
                  have zK63 := up_off ze60 (show o + 10 ≠ o + 12 by omega) zK44
                  have zK64 := up_off ze60 (show o + 11 ≠ o + 12 by omega) zK45
                  have zK65 := up_at ze60
                  have zK66 := up_off ze60 (show o + 1 ≠ o + 12 by omega) zK47
                  refine z_iinc (v := nI (i + 1)) (ls' := [(3, .int (nI (i + 1))), (4, .int (d (100 + i))), (0, .ref o), (1, .int (nI sk)), (2, .int (nI (min len (ss sk))))]) X 4 dX12_draw_124 rfl (nI_1 (i)) (by decide) rfl ?_
                  refine z_goto X 61 dX12_draw_127 (by decide) ?_
                  refine z_sub (ls' := [(0, .ref o), (1, .int (nI sk)), (2, .int (nI (min len (ss sk)))), (3, .int (nI (i + 1)))]) [2, 3, 4, 0] rfl ?_
                  exact ih61 _ (i + 1) (by omega) (by (have hnb : narB (bi sk) (d (100 + i)) = (d (100 + i)).toInt16.toInt32 := by (unfold narB; simp only [i_eq, show (8 : Int32).toInt = 8 by decide, show (16 : Int32).toInt = 16 by decide] at *; first | rw [if_pos (by omega)] | rw [if_neg (by omega), if_pos (by omega)] | rw [if_neg (by omega), if_neg (by omega)])); rw [ze60, he61, up_up, ← hnb, nuDraw_s]) (by first | assumption | rfl | omega)
              · refine z_iload X 0 dX12_draw_98 rfl ?_
                refine z_i2b X dX12_draw_100 rfl ?_
                refine z_goto X 123 dX12_draw_101 (by decide) ?_
                refine z_iast X dX12_draw_123 zK46 (vp_in_nI (n := (40 * sk) + i) (by omega) (by omega)) (congrArg (fun z => va_up hh61 (o + 12) (arI κ 160 (upd (nuDraw nu d bi sk i) z ((d (100 + i)).toInt8.toInt32)))) (nI_clamp (n := (40 * sk) + i) (by omega))) ?_
                obtain ⟨zh67, ze68⟩ : ∃ z : Mm, z = va_up hh61 (o + 12) (arI κ 160 (upd (nuDraw nu d bi sk i) ((40 * sk) + i) ((d (100 + i)).toInt8.toInt32))) := ⟨_, rfl⟩
                refine z_heap (h' := zh67) ze68.symm ?_
                have zK69 := up_off ze68 (show o ≠ o + 12 by omega) zK42
                have zK70 := up_off ze68 (show o + 4 ≠ o + 12 by omega) zK43
                have zK71 := up_off ze68 (show o + 10 ≠ o + 12 by omega) zK44
                have zK72 := up_off ze68 (show o + 11 ≠ o + 12 by omega) zK45
                have zK73 := up_at ze68
                have zK74 := up_off ze68 (show o + 1 ≠ o + 12 by omega) zK47
                refine z_iinc (v := nI (i + 1)) (ls' := [(3, .int (nI (i + 1))), (4, .int (d (100 + i))), (0, .ref o), (1, .int (nI sk)), (2, .int (nI (min len (ss sk))))]) X 4 dX12_draw_124 rfl (nI_1 (i)) (by decide) rfl ?_
                refine z_goto X 61 dX12_draw_127 (by decide) ?_
                refine z_sub (ls' := [(0, .ref o), (1, .int (nI sk)), (2, .int (nI (min len (ss sk)))), (3, .int (nI (i + 1)))]) [2, 3, 4, 0] rfl ?_
                exact ih61 _ (i + 1) (by omega) (by (have hnb : narB (bi sk) (d (100 + i)) = (d (100 + i)).toInt8.toInt32 := by (unfold narB; simp only [i_eq, show (8 : Int32).toInt = 8 by decide, show (16 : Int32).toInt = 16 by decide] at *; first | rw [if_pos (by omega)] | rw [if_neg (by omega), if_pos (by omega)] | rw [if_neg (by omega), if_neg (by omega)])); rw [ze68, he61, up_up, ← hnb, nuDraw_s]) (by first | assumption | rfl | omega)
        refine z_sub (ls' := [(0, .ref o), (1, .int (nI sk)), (2, .int (nI (min len (ss sk)))), (3, .int 0)]) [2, 3, 1, 0] rfl ?_
        exact L61 _ _ 0 (Nat.lt_succ_self _) (by rw [nuDraw_0, up_same _ _ K4]) (by first | assumption | rfl | omega)
    · refine z_aload_n X 0 dX12_draw_22 rfl ?_
      refine z_iconst (v := 2) X dX12_draw_23 (by decide) ?_
      refine z_callV X (r_finds (κ := κ) (n := n) (o := (o)) (k := (2)) (fo := (fo)) (im := (im)) (ba := (ba)) (at_ := (at_)) (sz := (sz)) (fa := (fa)) (op := (op)) (rm := (rm)) (ti := (ti)) (tm := (tm)) (wh := (wh)) K0 K1 (by first | assumption | omega) (by first | assumption | omega)) mk_X12_finds dX12_draw_24 wd_1018 wd_1020 wd_24 rfl K0 rfl rfl rfl (Nat.le_of_ble_eq_true rfl) (Nat.le_of_ble_eq_true rfl) (Nat.le_of_ble_eq_true rfl) (by omega) (by omega) (fun q zh75 zm77 zp78 => ?_)
      obtain ⟨rfl, ze76, zn79⟩ := zp78
      subst zm77
      refine z_st (st' := [.int (lowE 2)]) rfl ?_
      have zK80 : zh75 o = some (.inr (12, [.ref (o + 1), .ref (o + 2), .ref (o + 3), .int im, .ref (o + 4), .int ba, .int at_, .int sz, .int fa, .int op, .ref (o + 5), .ref (o + 6), .int rm, .ref (o + 7), .ref (o + 8), .int ti, .ref (o + 9), .int tm, .int wh, .ref (o + 10), .ref (o + 11), .ref (o + 12), .ref (o + 13)])) := by rw [ze76]; rw [va_up_ne _ _ (show o ≠ o + 4 by omega)]; exact K0
      have zK81 : zh75 (o + 4) = arI κ 6 (bmp fo 2) := by rw [ze76]; exact va_up_self _ _ _
      have zK82 : zh75 (o + 10) = arI κ 4 bi := by rw [ze76]; rw [va_up_ne _ _ (show o + 10 ≠ o + 4 by omega)]; exact K2
      have zK83 : zh75 (o + 11) = arI κ 4 si := by rw [ze76]; rw [va_up_ne _ _ (show o + 11 ≠ o + 4 by omega)]; exact K3
      have zK84 : zh75 (o + 12) = arI κ 160 nu := by rw [ze76]; rw [va_up_ne _ _ (show o + 12 ≠ o + 4 by omega)]; exact K4
      have zK85 : zh75 (o + 1) = arI κ 340 d := by rw [ze76]; rw [va_up_ne _ _ (show o + 1 ≠ o + 4 by omega)]; exact K5
      refine z_iret X E dX12_draw_27 (by omega) (by omega) ⟨?_, ?_, ?_⟩
      · generalize hz : opDraw bi ss len (nI sk) = z; unfold opDraw at hz; (try simp only [i_nI (n := sk) (by omega), nI_clamp (n := sk) (by omega),  i_eq, i_lt, i_le, show (-1 : Int32).toInt = -1 by decide, show (0 : Int32).toInt = 0 by decide, show (1 : Int32).toInt = 1 by decide, show (2 : Int32).toInt = 2 by decide, show (3 : Int32).toInt = 3 by decide, show (4 : Int32).toInt = 4 by decide, show (5 : Int32).toInt = 5 by decide, show (6 : Int32).toInt = 6 by decide, show (7 : Int32).toInt = 7 by decide, show (8 : Int32).toInt = 8 by decide, show (9 : Int32).toInt = 9 by decide, show (10 : Int32).toInt = 10 by decide, show (11 : Int32).toInt = 11 by decide, show (12 : Int32).toInt = 12 by decide, show (13 : Int32).toInt = 13 by decide, show (14 : Int32).toInt = 14 by decide, show (15 : Int32).toInt = 15 by decide, show (16 : Int32).toInt = 16 by decide, show (20 : Int32).toInt = 20 by decide, show (39 : Int32).toInt = 39 by decide, show (40 : Int32).toInt = 40 by decide, show (50 : Int32).toInt = 50 by decide, show (60 : Int32).toInt = 60 by decide, show (99 : Int32).toInt = 99 by decide, show (100 : Int32).toInt = 100 by decide, show (999 : Int32).toInt = 999 by decide, show (9999 : Int32).toInt = 9999 by decide, show (99999 : Int32).toInt = 99999 by decide, show (999999 : Int32).toInt = 999999 by decide, show (9999999 : Int32).toInt = 9999999 by decide, show (-50 : Int32).toInt = -50 by decide, show (32 : Int32).toInt = 32 by decide] at *); (repeat first | rw [if_pos (by omega)] at hz | rw [if_neg (by omega)] at hz); subst hz; rfl
      · generalize hz : opDraw bi ss len (nI sk) = z; unfold opDraw at hz; (try simp only [i_nI (n := sk) (by omega), nI_clamp (n := sk) (by omega),  i_eq, i_lt, i_le, show (-1 : Int32).toInt = -1 by decide, show (0 : Int32).toInt = 0 by decide, show (1 : Int32).toInt = 1 by decide, show (2 : Int32).toInt = 2 by decide, show (3 : Int32).toInt = 3 by decide, show (4 : Int32).toInt = 4 by decide, show (5 : Int32).toInt = 5 by decide, show (6 : Int32).toInt = 6 by decide, show (7 : Int32).toInt = 7 by decide, show (8 : Int32).toInt = 8 by decide, show (9 : Int32).toInt = 9 by decide, show (10 : Int32).toInt = 10 by decide, show (11 : Int32).toInt = 11 by decide, show (12 : Int32).toInt = 12 by decide, show (13 : Int32).toInt = 13 by decide, show (14 : Int32).toInt = 14 by decide, show (15 : Int32).toInt = 15 by decide, show (16 : Int32).toInt = 16 by decide, show (20 : Int32).toInt = 20 by decide, show (39 : Int32).toInt = 39 by decide, show (40 : Int32).toInt = 40 by decide, show (50 : Int32).toInt = 50 by decide, show (60 : Int32).toInt = 60 by decide, show (99 : Int32).toInt = 99 by decide, show (100 : Int32).toInt = 100 by decide, show (999 : Int32).toInt = 999 by decide, show (9999 : Int32).toInt = 9999 by decide, show (99999 : Int32).toInt = 99999 by decide, show (999999 : Int32).toInt = 999999 by decide, show (9999999 : Int32).toInt = 9999999 by decide, show (-50 : Int32).toInt = -50 by decide, show (32 : Int32).toInt = 32 by decide] at *); (repeat first | rw [if_pos (by omega)] at hz | rw [if_neg (by omega)] at hz); subst hz; unfold nuDr; (try simp only [i_nI (n := sk) (by omega), nI_clamp (n := sk) (by omega),  i_eq]); (repeat first | rw [if_pos (by omega)] | rw [if_neg (by omega)]); rw [ze76]; (funext zz; simp only [va_up, bump, ↓reduceIte]; (repeat' split) <;> first | rfl | (exfalso; omega) | (simp_all; done))
      · rfl
  · replace zc6 := b2i_f zc6
    refine z_aload_n X 0 dX12_draw_7 rfl ?_
    refine z_iconst (v := 1) X dX12_draw_8 (by decide) ?_
    refine z_callV X (r_finds (κ := κ) (n := n) (o := (o)) (k := (1)) (fo := (fo)) (im := (im)) (ba := (ba)) (at_ := (at_)) (sz := (sz)) (fa := (fa)) (op := (op)) (rm := (rm)) (ti := (ti)) (tm := (tm)) (wh := (wh)) K0 K1 (by first | assumption | omega) (by first | assumption | omega)) mk_X12_finds dX12_draw_9 wd_1018 wd_1020 wd_24 rfl K0 rfl rfl rfl (Nat.le_of_ble_eq_true rfl) (Nat.le_of_ble_eq_true rfl) (Nat.le_of_ble_eq_true rfl) (by omega) (by omega) (fun q zh86 zm88 zp89 => ?_)
    obtain ⟨rfl, ze87, zn90⟩ := zp89
    subst zm88
    refine z_st (st' := [.int (lowE 1)]) rfl ?_
    have zK91 : zh86 o = some (.inr (12, [.ref (o + 1), .ref (o + 2), .ref (o + 3), .int im, .ref (o + 4), .int ba, .int at_, .int sz, .int fa, .int op, .ref (o + 5), .ref (o + 6), .int rm, .ref (o + 7), .ref (o + 8), .int ti, .ref (o + 9), .int tm, .int wh, .ref (o + 10), .ref (o + 11), .ref (o + 12), .ref (o + 13)])) := by rw [ze87]; rw [va_up_ne _ _ (show o ≠ o + 4 by omega)]; exact K0
    have zK92 : zh86 (o + 4) = arI κ 6 (bmp fo 1) := by rw [ze87]; exact va_up_self _ _ _
    have zK93 : zh86 (o + 10) = arI κ 4 bi := by rw [ze87]; rw [va_up_ne _ _ (show o + 10 ≠ o + 4 by omega)]; exact K2
    have zK94 : zh86 (o + 11) = arI κ 4 si := by rw [ze87]; rw [va_up_ne _ _ (show o + 11 ≠ o + 4 by omega)]; exact K3
    have zK95 : zh86 (o + 12) = arI κ 160 nu := by rw [ze87]; rw [va_up_ne _ _ (show o + 12 ≠ o + 4 by omega)]; exact K4
    have zK96 : zh86 (o + 1) = arI κ 340 d := by rw [ze87]; rw [va_up_ne _ _ (show o + 1 ≠ o + 4 by omega)]; exact K5
    refine z_iret X E dX12_draw_12 (by omega) (by omega) ⟨?_, ?_, ?_⟩
    · generalize hz : opDraw bi ss len s = z; unfold opDraw at hz; (try simp only [ i_eq, i_lt, i_le, show (-1 : Int32).toInt = -1 by decide, show (0 : Int32).toInt = 0 by decide, show (1 : Int32).toInt = 1 by decide, show (2 : Int32).toInt = 2 by decide, show (3 : Int32).toInt = 3 by decide, show (4 : Int32).toInt = 4 by decide, show (5 : Int32).toInt = 5 by decide, show (6 : Int32).toInt = 6 by decide, show (7 : Int32).toInt = 7 by decide, show (8 : Int32).toInt = 8 by decide, show (9 : Int32).toInt = 9 by decide, show (10 : Int32).toInt = 10 by decide, show (11 : Int32).toInt = 11 by decide, show (12 : Int32).toInt = 12 by decide, show (13 : Int32).toInt = 13 by decide, show (14 : Int32).toInt = 14 by decide, show (15 : Int32).toInt = 15 by decide, show (16 : Int32).toInt = 16 by decide, show (20 : Int32).toInt = 20 by decide, show (39 : Int32).toInt = 39 by decide, show (40 : Int32).toInt = 40 by decide, show (50 : Int32).toInt = 50 by decide, show (60 : Int32).toInt = 60 by decide, show (99 : Int32).toInt = 99 by decide, show (100 : Int32).toInt = 100 by decide, show (999 : Int32).toInt = 999 by decide, show (9999 : Int32).toInt = 9999 by decide, show (99999 : Int32).toInt = 99999 by decide, show (999999 : Int32).toInt = 999999 by decide, show (9999999 : Int32).toInt = 9999999 by decide, show (-50 : Int32).toInt = -50 by decide, show (32 : Int32).toInt = 32 by decide] at *); (repeat first | rw [if_pos (by omega)] at hz | rw [if_neg (by omega)] at hz); subst hz; rfl
    · generalize hz : opDraw bi ss len s = z; unfold opDraw at hz; (try simp only [ i_eq, i_lt, i_le, show (-1 : Int32).toInt = -1 by decide, show (0 : Int32).toInt = 0 by decide, show (1 : Int32).toInt = 1 by decide, show (2 : Int32).toInt = 2 by decide, show (3 : Int32).toInt = 3 by decide, show (4 : Int32).toInt = 4 by decide, show (5 : Int32).toInt = 5 by decide, show (6 : Int32).toInt = 6 by decide, show (7 : Int32).toInt = 7 by decide, show (8 : Int32).toInt = 8 by decide, show (9 : Int32).toInt = 9 by decide, show (10 : Int32).toInt = 10 by decide, show (11 : Int32).toInt = 11 by decide, show (12 : Int32).toInt = 12 by decide, show (13 : Int32).toInt = 13 by decide, show (14 : Int32).toInt = 14 by decide, show (15 : Int32).toInt = 15 by decide, show (16 : Int32).toInt = 16 by decide, show (20 : Int32).toInt = 20 by decide, show (39 : Int32).toInt = 39 by decide, show (40 : Int32).toInt = 40 by decide, show (50 : Int32).toInt = 50 by decide, show (60 : Int32).toInt = 60 by decide, show (99 : Int32).toInt = 99 by decide, show (100 : Int32).toInt = 100 by decide, show (999 : Int32).toInt = 999 by decide, show (9999 : Int32).toInt = 9999 by decide, show (99999 : Int32).toInt = 99999 by decide, show (999999 : Int32).toInt = 999999 by decide, show (9999999 : Int32).toInt = 9999999 by decide, show (-50 : Int32).toInt = -50 by decide, show (32 : Int32).toInt = 32 by decide] at *); (repeat first | rw [if_pos (by omega)] at hz | rw [if_neg (by omega)] at hz); subst hz; unfold nuDr; (try simp only [ i_eq]); (repeat first | rw [if_pos (by omega)] | rw [if_neg (by omega)]); rw [ze87]; (funext zz; simp only [va_up, bump, ↓reduceIte]; (repeat' split) <;> first | rfl | (exfalso; omega) | (simp_all; done))
    · rfl
def offI (a b : Int) : Int32 := nI (min 1000000 (a - b).natAbs)
theorem l_sub {x y : Int64} (hx : -2147483648 ≤ x.toInt ∧ x.toInt < 2147483648) (hy : -2147483648 ≤ y.toInt ∧ y.toInt < 2147483648) : (x - y).toInt = x.toInt - y.toInt := by
  rw [Int64.toInt_sub, Int.bmod_def]; omega
theorem l_nI {z : Int64} {k : Nat} (hk : k ≤ 1000000) (h : z.toInt = (k : Int)) : z.toInt32 = nI k := by
  rw [i_eq, i_nI (by omega), Int64.toInt_toInt32, Int.bmod_def, h]; omega
theorem off_a {a b : Int} {x y : Int64} (hx : x.toInt = a) (hy : y.toInt = b) (ba : -2147483648 ≤ a ∧ a < 2147483648) (bb : -2147483648 ≤ b ∧ b < 2147483648) (h1 : ¬ lg_cmp x y ≤ 0) (h2 : ¬ lg_cmp (x - y) 1000000 ≤ 0) : 1000000 = offI a b := by
  rw [lg_cmp_le, Int64.le_iff_toInt_le] at h1 h2
  rw [l_sub (by omega) (by omega), show (1000000 : Int64).toInt = 1000000 by decide] at h2
  unfold offI
  rw [show min 1000000 (a - b).natAbs = 1000000 by omega]
  rfl
theorem off_b {a b : Int} {x y : Int64} (hx : x.toInt = a) (hy : y.toInt = b) (ba : -2147483648 ≤ a ∧ a < 2147483648) (bb : -2147483648 ≤ b ∧ b < 2147483648) (h1 : ¬ lg_cmp x y ≤ 0) (h2 : lg_cmp (x - y) 1000000 ≤ 0) : (x - y).toInt32 = offI a b := by
  rw [lg_cmp_le, Int64.le_iff_toInt_le] at h1 h2
  rw [l_sub (by omega) (by omega), show (1000000 : Int64).toInt = 1000000 by decide] at h2
  exact l_nI (by omega) (by rw [l_sub (by omega) (by omega)]; omega)
theorem off_c {a b : Int} {x y : Int64} (hx : x.toInt = a) (hy : y.toInt = b) (ba : -2147483648 ≤ a ∧ a < 2147483648) (bb : -2147483648 ≤ b ∧ b < 2147483648) (h1 : lg_cmp x y ≤ 0) (h2 : ¬ lg_cmp (y - x) 1000000 ≤ 0) : 1000000 = offI a b := by
  rw [lg_cmp_le, Int64.le_iff_toInt_le] at h1 h2
  rw [l_sub (by omega) (by omega), show (1000000 : Int64).toInt = 1000000 by decide] at h2
  unfold offI
  rw [show min 1000000 (a - b).natAbs = 1000000 by omega]
  rfl
theorem off_d {a b : Int} {x y : Int64} (hx : x.toInt = a) (hy : y.toInt = b) (ba : -2147483648 ≤ a ∧ a < 2147483648) (bb : -2147483648 ≤ b ∧ b < 2147483648) (h1 : lg_cmp x y ≤ 0) (h2 : lg_cmp (y - x) 1000000 ≤ 0) : (y - x).toInt32 = offI a b := by
  rw [lg_cmp_le, Int64.le_iff_toInt_le] at h1 h2
  rw [l_sub (by omega) (by omega), show (1000000 : Int64).toInt = 1000000 by decide] at h2
  exact l_nI (by omega) (by rw [l_sub (by omega) (by omega)]; omega)
def wI (f : Nat → Int32) (b n k : Nat) : Int := if k < n then (f (b + k)).toInt else 0
theorem wI_t {f : Nat → Int32} {b n k : Nat} (h : k < n) : ((f (b + k)).toInt64).toInt = wI f b n k := (Int32.toInt_toInt64 _).trans (if_pos h).symm
theorem wI_f {f : Nat → Int32} {b n k : Nat} (h : ¬ k < n) : (0 : Int64).toInt = wI f b n k := (if_neg h).symm
theorem wI_b (f : Nat → Int32) (b n k : Nat) : -2147483648 ≤ wI f b n k ∧ wI f b n k < 2147483648 := by
  unfold wI
  split
  · exact ⟨i_lo _, i_hi _⟩
  · omega
/-- by how much cells and a sheet's numbers are off -/
def offS (m nu : Nat → Int32) (len sz s : Nat) : Nat → Int32 := sumN (fun k => offI (wI m 100 len k) (wI nu (40 * s) sz k))
theorem offS_s {m nu : Nat → Int32} {len sz s i : Nat} {x : Int32} (h : x = offI (wI m 100 len i) (wI nu (40 * s) sz i)) : offS m nu len sz s i + x = offS m nu len sz s (i + 1) := by
  rw [h]
  rfl
set_option maxHeartbeats 4000000 in
set_option maxRecDepth 100000 in
theorem r_offBy {κ : Wc} {l : Launch} {h : Mm} {n : Nat} {o : Nat} {a : Nat} {m : Nat → Int32} {len : Nat} {sk : Nat} {bi : Nat → Int32} {si : Nat → Int32} {nu : Nat → Int32} {ss : Nat → Nat} {im : Int32} {ba : Int32} {at_ : Int32} {sz : Int32} {fa : Int32} {op : Int32} {rm : Int32} {ti : Int32} {tm : Int32} {wh : Int32} (K0 : h o = some (.inr (12, [.ref (o + 1), .ref (o + 2), .ref (o + 3), .int im, .ref (o + 4), .int ba, .int at_, .int sz, .int fa, .int op, .ref (o + 5), .ref (o + 6), .int rm, .ref (o + 7), .ref (o + 8), .int ti, .ref (o + 9), .int tm, .int wh, .ref (o + 10), .ref (o + 11), .ref (o + 12), .ref (o + 13)]))) (K1 : h a = arI κ 340 m) (K2 : h (o + 10) = arI κ 4 bi) (K3 : h (o + 11) = arI κ 4 si) (K4 : h (o + 12) = arI κ 160 nu) (p1 : ∀ k, k < 4 → si k = nI (ss k) ∧ ss k ≤ 40) (q1 : m 1 = nI len) (q2 : 1 ≤ len) (q3 : len ≤ 40) (hsk : sk < 4) (hss : ss sk ≤ 40) : Con κ l yX12_offBy cX12_offBy 11 (some .int) 1 0 0 [.ref o, .ref a, .int (nI sk)] h n (fun q h' n' => q = some (.int (offS m nu len (ss sk) sk 40)) ∧ h' = h ∧ n' = n) := by
  refine Con.of mk_X12_offBy (Nat.le_of_ble_eq_true rfl) (fun G hG X E => ?_)
  subst hG
  refine z_ls (ls' := [(0, .ref o), (1, .ref a), (2, .int (nI sk))]) rfl ?_
  refine z_iconst (v := 0) X dX12_offBy_0 (by decide) ?_
  refine z_istore_n (ls' := [(3, .int 0), (0, .ref o), (1, .ref a), (2, .int (nI sk))]) X dX12_offBy_1 (by decide) rfl ?_
  refine z_iconst (v := 0) X dX12_offBy_2 (by decide) ?_
  refine z_istore (ls' := [(4, .int 0), (3, .int 0), (0, .ref o), (1, .ref a), (2, .int (nI sk))]) X dX12_offBy_3 (by decide) rfl ?_
  have L5 : ∀ (jj : Nat)  (i : Nat) (acc : Int32), (40 - i < jj) → (hi : i ≤ 40) → (hacc : acc = offS m nu len (ss sk) sk i) → Z κ G 11 5 [(0, .ref o), (1, .ref a), (2, .int (nI sk)), (3, .int acc), (4, .int (nI i))] [] h n 0 (0) := by
    intro jj
    induction jj with
    | zero => intro  i acc hmu; exact absurd hmu (Nat.not_lt_zero _)
    | succ jj ih5 =>
      intro  i acc hmu  hi hacc
      refine z_iload X 4 dX12_offBy_5 rfl ?_
      refine z_bipush (v := 40) X dX12_offBy_7 (by decide) ?_
      refine z_icmp_ge X 113 dX12_offBy_9 (by decide) (fun zc6 => ?_) (fun zc6 => ?_)
      · try replace zc6 := (nI_leI (a := 40) (b := i) (by omega) (by omega)).mp zc6
        refine z_iload_n X 3 dX12_offBy_113 rfl ?_
        refine z_iret X E dX12_offBy_114 (by omega) (by omega) ⟨?_, ?_, ?_⟩
        · rw [hacc, show i = 40 by omega]
        · first | rfl | (funext zz; simp only [va_up]; (repeat' split) <;> first | rfl | (exfalso; omega) | simp_all)
        · rfl
      · try replace zc6 := mt (nI_leI (a := 40) (b := i) (by omega) (by omega)).mpr zc6
        refine z_iload X 4 dX12_offBy_12 rfl ?_
        refine z_aload_n X 1 dX12_offBy_14 rfl ?_
        refine z_iconst (v := 1) X dX12_offBy_15 (by decide) ?_
        refine z_iald2 (v := m 1) X dX12_offBy_16 K1 (vp_in_nI (n := 1) (by omega) (by omega)) (congrArg m (nI_clamp (n := 1) (by omega))) ?_
        refine z_toe (y := nI len) (q1) ?_
        refine z_icmp_ge X 31 dX12_offBy_17 (by decide) (fun zc7 => ?_) (fun zc7 => ?_)
        · try replace zc7 := (nI_leI (a := len) (b := i) (by omega) (by omega)).mp zc7
          refine z_lconst (v := 0) X dX12_offBy_31 (by decide) ?_
          refine z_lstore (ls' := [(5, .long ((0 : Int64))), (0, .ref o), (1, .ref a), (2, .int (nI sk)), (3, .int acc), (4, .int (nI i))]) X dX12_offBy_32 (by decide) rfl ?_
          refine z_iload X 5 dX12_offBy_34 rfl ?_
          refine z_aload_n X 1 dX12_offBy_36 rfl ?_
          refine z_get X fl_X12_40_12 dX12_offBy_37 K0 rfl ?_
          refine z_iload_n X 3 dX12_offBy_40 rfl ?_
          refine z_iald2 (v := si sk) X dX12_offBy_41 K3 (vp_in_nI (n := sk) (by omega) (by omega)) (congrArg si (nI_clamp (n := sk) (by omega))) ?_
          refine z_toe (y := nI (ss sk)) ((p1 sk hsk).1) ?_
          refine z_icmp_ge X 61 dX12_offBy_42 (by decide) (fun zc8 => ?_) (fun zc8 => ?_)
          · try replace zc8 := (nI_leI (a := ss sk) (b := i) (by omega) (by omega)).mp zc8
            refine z_lconst (v := 0) X dX12_offBy_61 (by decide) ?_
            refine z_lstore (ls' := [(7, .long ((0 : Int64))), (5, .long ((0 : Int64))), (0, .ref o), (1, .ref a), (2, .int (nI sk)), (3, .int acc), (4, .int (nI i))]) X dX12_offBy_62 (by decide) rfl ?_
            refine z_lload X 1 dX12_offBy_64 rfl ?_
            refine z_lload X 0 dX12_offBy_66 rfl ?_
            refine z_lcmp X dX12_offBy_68 ?_
            refine z_if_le X 80 dX12_offBy_69 (by decide) (fun zc9 => ?_) (fun zc9 => ?_)
            · refine z_lload X 0 dX12_offBy_80 rfl ?_
              refine z_lload X 1 dX12_offBy_82 rfl ?_
              refine z_lsub X dX12_offBy_84 ?_
              refine z_lstore (ls' := [(9, .long (((0 : Int64)) - ((0 : Int64)))), (7, .long ((0 : Int64))), (5, .long ((0 : Int64))), (0, .ref o), (1, .ref a), (2, .int (nI sk)), (3, .int acc), (4, .int (nI i))]) X dX12_offBy_85 (by decide) rfl ?_
              refine z_iload_n X 6 dX12_offBy_87 rfl ?_
              refine z_lload X 0 dX12_offBy_88 rfl ?_
              refine z_ldc2 X dX12_offBy_90 wd_1257 ?_
              refine z_lcmp X dX12_offBy_93 ?_
              refine z_if_le X 102 dX12_offBy_94 (by decide) (fun zc10 => ?_) (fun zc10 => ?_)
              · refine z_lload X 0 dX12_offBy_102 rfl ?_
                refine z_l2i X dX12_offBy_104 rfl ?_
                refine z_iadd X dX12_offBy_105 ?_
                refine z_istore_n (ls' := [(3, .int (acc + ((((0 : Int64)) - ((0 : Int64))).toInt32))), (9, .long (((0 : Int64)) - ((0 : Int64)))), (7, .long ((0 : Int64))), (5, .long ((0 : Int64))), (0, .ref o), (1, .ref a), (2, .int (nI sk)), (4, .int (nI i))]) X dX12_offBy_106 (by decide) rfl ?_
                refine z_iinc (v := nI (i + 1)) (ls' := [(4, .int (nI (i + 1))), (3, .int (acc + ((((0 : Int64)) - ((0 : Int64))).toInt32))), (9, .long (((0 : Int64)) - ((0 : Int64)))), (7, .long ((0 : Int64))), (5, .long ((0 : Int64))), (0, .ref o), (1, .ref a), (2, .int (nI sk))]) X 7 dX12_offBy_107 rfl (nI_1 (i)) (by decide) rfl ?_
                refine z_goto X 5 dX12_offBy_110 (by decide) ?_
                refine z_sub (ls' := [(0, .ref o), (1, .ref a), (2, .int (nI sk)), (3, .int (acc + ((((0 : Int64)) - ((0 : Int64))).toInt32))), (4, .int (nI (i + 1)))]) [5, 6, 7, 1, 0] rfl ?_
                exact ih5 (i + 1) (acc + ((((0 : Int64)) - ((0 : Int64))).toInt32)) (by omega) (by first | assumption | rfl | omega) (by rw [hacc]; exact offS_s (off_d (x := (0 : Int64)) (y := (0 : Int64)) (wI_f (by omega)) (wI_f (by omega)) (wI_b _ _ _ _) (wI_b _ _ _ _) zc9 zc10))
              · refine z_ldc X dX12_offBy_97 wd_1258 ?_
                refine z_goto X 105 dX12_offBy_99 (by decide) ?_
                refine z_iadd X dX12_offBy_105 ?_
                refine z_istore_n (ls' := [(3, .int (acc + 1000000)), (9, .long (((0 : Int64)) - ((0 : Int64)))), (7, .long ((0 : Int64))), (5, .long ((0 : Int64))), (0, .ref o), (1, .ref a), (2, .int (nI sk)), (4, .int (nI i))]) X dX12_offBy_106 (by decide) rfl ?_
                refine z_iinc (v := nI (i + 1)) (ls' := [(4, .int (nI (i + 1))), (3, .int (acc + 1000000)), (9, .long (((0 : Int64)) - ((0 : Int64)))), (7, .long ((0 : Int64))), (5, .long ((0 : Int64))), (0, .ref o), (1, .ref a), (2, .int (nI sk))]) X 7 dX12_offBy_107 rfl (nI_1 (i)) (by decide) rfl ?_
                refine z_goto X 5 dX12_offBy_110 (by decide) ?_
                refine z_sub (ls' := [(0, .ref o), (1, .ref a), (2, .int (nI sk)), (3, .int (acc + 1000000)), (4, .int (nI (i + 1)))]) [5, 6, 7, 1, 0] rfl ?_
                exact ih5 (i + 1) (acc + 1000000) (by omega) (by first | assumption | rfl | omega) (by rw [hacc]; exact offS_s (off_c (x := (0 : Int64)) (y := (0 : Int64)) (wI_f (by omega)) (wI_f (by omega)) (wI_b _ _ _ _) (wI_b _ _ _ _) zc9 zc10))
            · refine z_lload X 1 dX12_offBy_72 rfl ?_
              refine z_lload X 0 dX12_offBy_74 rfl ?_
              refine z_lsub X dX12_offBy_76 ?_
              refine z_goto X 85 dX12_offBy_77 (by decide) ?_
              refine z_lstore (ls' := [(9, .long (((0 : Int64)) - ((0 : Int64)))), (7, .long ((0 : Int64))), (5, .long ((0 : Int64))), (0, .ref o), (1, .ref a), (2, .int (nI sk)), (3, .int acc), (4, .int (nI i))]) X dX12_offBy_85 (by decide) rfl ?_
              refine z_iload_n X 6 dX12_offBy_87 rfl ?_
              refine z_lload X 0 dX12_offBy_88 rfl ?_
              refine z_ldc2 X dX12_offBy_90 wd_1257 ?_
              refine z_lcmp X dX12_offBy_93 ?_
              refine z_if_le X 102 dX12_offBy_94 (by decide) (fun zc11 => ?_) (fun zc11 => ?_)
              · refine z_lload X 0 dX12_offBy_102 rfl ?_
                refine z_l2i X dX12_offBy_104 rfl ?_
                refine z_iadd X dX12_offBy_105 ?_
                refine z_istore_n (ls' := [(3, .int (acc + ((((0 : Int64)) - ((0 : Int64))).toInt32))), (9, .long (((0 : Int64)) - ((0 : Int64)))), (7, .long ((0 : Int64))), (5, .long ((0 : Int64))), (0, .ref o), (1, .ref a), (2, .int (nI sk)), (4, .int (nI i))]) X dX12_offBy_106 (by decide) rfl ?_
                refine z_iinc (v := nI (i + 1)) (ls' := [(4, .int (nI (i + 1))), (3, .int (acc + ((((0 : Int64)) - ((0 : Int64))).toInt32))), (9, .long (((0 : Int64)) - ((0 : Int64)))), (7, .long ((0 : Int64))), (5, .long ((0 : Int64))), (0, .ref o), (1, .ref a), (2, .int (nI sk))]) X 7 dX12_offBy_107 rfl (nI_1 (i)) (by decide) rfl ?_
                refine z_goto X 5 dX12_offBy_110 (by decide) ?_
                refine z_sub (ls' := [(0, .ref o), (1, .ref a), (2, .int (nI sk)), (3, .int (acc + ((((0 : Int64)) - ((0 : Int64))).toInt32))), (4, .int (nI (i + 1)))]) [5, 6, 7, 1, 0] rfl ?_
                exact ih5 (i + 1) (acc + ((((0 : Int64)) - ((0 : Int64))).toInt32)) (by omega) (by first | assumption | rfl | omega) (by rw [hacc]; exact offS_s (off_b (x := (0 : Int64)) (y := (0 : Int64)) (wI_f (by omega)) (wI_f (by omega)) (wI_b _ _ _ _) (wI_b _ _ _ _) zc9 zc11))
              · refine z_ldc X dX12_offBy_97 wd_1258 ?_
                refine z_goto X 105 dX12_offBy_99 (by decide) ?_
                refine z_iadd X dX12_offBy_105 ?_
                refine z_istore_n (ls' := [(3, .int (acc + 1000000)), (9, .long (((0 : Int64)) - ((0 : Int64)))), (7, .long ((0 : Int64))), (5, .long ((0 : Int64))), (0, .ref o), (1, .ref a), (2, .int (nI sk)), (4, .int (nI i))]) X dX12_offBy_106 (by decide) rfl ?_
                refine z_iinc (v := nI (i + 1)) (ls' := [(4, .int (nI (i + 1))), (3, .int (acc + 1000000)), (9, .long (((0 : Int64)) - ((0 : Int64)))), (7, .long ((0 : Int64))), (5, .long ((0 : Int64))), (0, .ref o), (1, .ref a), (2, .int (nI sk))]) X 7 dX12_offBy_107 rfl (nI_1 (i)) (by decide) rfl ?_
                refine z_goto X 5 dX12_offBy_110 (by decide) ?_
                refine z_sub (ls' := [(0, .ref o), (1, .ref a), (2, .int (nI sk)), (3, .int (acc + 1000000)), (4, .int (nI (i + 1)))]) [5, 6, 7, 1, 0] rfl ?_
                exact ih5 (i + 1) (acc + 1000000) (by omega) (by first | assumption | rfl | omega) (by rw [hacc]; exact offS_s (off_a (x := (0 : Int64)) (y := (0 : Int64)) (wI_f (by omega)) (wI_f (by omega)) (wI_b _ _ _ _) (wI_b _ _ _ _) zc9 zc11))
          · try replace zc8 := mt (nI_leI (a := ss sk) (b := i) (by omega) (by omega)).mpr zc8
            refine z_aload_n X 1 dX12_offBy_45 rfl ?_
            refine z_get X fl_X12_43_12 dX12_offBy_46 K0 rfl ?_
            refine z_bipush (v := 40) X dX12_offBy_49 (by decide) ?_
            refine z_iload_n X 3 dX12_offBy_51 rfl ?_
            refine z_imul X dX12_offBy_52 ?_
            refine z_toe (y := nI (40 * sk)) (pk_mul (40) (sk)) ?_
            refine z_iload X 5 dX12_offBy_53 rfl ?_
            refine z_iadd X dX12_offBy_55 ?_
            refine z_toe (y := nI ((40 * sk) + i)) (nI_add (40 * sk) (i)) ?_
            refine z_iald2 (v := nu ((40 * sk) + i)) X dX12_offBy_56 K4 (vp_in_nI (n := (40 * sk) + i) (by omega) (by omega)) (congrArg nu (nI_clamp (n := (40 * sk) + i) (by omega))) ?_
            refine z_i2l X dX12_offBy_57 rfl ?_
            refine z_goto X 62 dX12_offBy_58 (by decide) ?_
            refine z_lstore (ls' := [(7, .long ((nu ((40 * sk) + i)).toInt64)), (5, .long ((0 : Int64))), (0, .ref o), (1, .ref a), (2, .int (nI sk)), (3, .int acc), (4, .int (nI i))]) X dX12_offBy_62 (by decide) rfl ?_
            refine z_lload X 1 dX12_offBy_64 rfl ?_
            refine z_lload X 0 dX12_offBy_66 rfl ?_
            refine z_lcmp X dX12_offBy_68 ?_
            refine z_if_le X 80 dX12_offBy_69 (by decide) (fun zc12 => ?_) (fun zc12 => ?_)
            · refine z_lload X 0 dX12_offBy_80 rfl ?_
              refine z_lload X 1 dX12_offBy_82 rfl ?_
              refine z_lsub X dX12_offBy_84 ?_
              refine z_lstore (ls' := [(9, .long (((nu ((40 * sk) + i)).toInt64) - ((0 : Int64)))), (7, .long ((nu ((40 * sk) + i)).toInt64)), (5, .long ((0 : Int64))), (0, .ref o), (1, .ref a), (2, .int (nI sk)), (3, .int acc), (4, .int (nI i))]) X dX12_offBy_85 (by decide) rfl ?_
              refine z_iload_n X 6 dX12_offBy_87 rfl ?_
              refine z_lload X 0 dX12_offBy_88 rfl ?_
              refine z_ldc2 X dX12_offBy_90 wd_1257 ?_
              refine z_lcmp X dX12_offBy_93 ?_
              refine z_if_le X 102 dX12_offBy_94 (by decide) (fun zc13 => ?_) (fun zc13 => ?_)
              · refine z_lload X 0 dX12_offBy_102 rfl ?_
                refine z_l2i X dX12_offBy_104 rfl ?_
                refine z_iadd X dX12_offBy_105 ?_
                refine z_istore_n (ls' := [(3, .int (acc + ((((nu ((40 * sk) + i)).toInt64) - ((0 : Int64))).toInt32))), (9, .long (((nu ((40 * sk) + i)).toInt64) - ((0 : Int64)))), (7, .long ((nu ((40 * sk) + i)).toInt64)), (5, .long ((0 : Int64))), (0, .ref o), (1, .ref a), (2, .int (nI sk)), (4, .int (nI i))]) X dX12_offBy_106 (by decide) rfl ?_
                refine z_iinc (v := nI (i + 1)) (ls' := [(4, .int (nI (i + 1))), (3, .int (acc + ((((nu ((40 * sk) + i)).toInt64) - ((0 : Int64))).toInt32))), (9, .long (((nu ((40 * sk) + i)).toInt64) - ((0 : Int64)))), (7, .long ((nu ((40 * sk) + i)).toInt64)), (5, .long ((0 : Int64))), (0, .ref o), (1, .ref a), (2, .int (nI sk))]) X 7 dX12_offBy_107 rfl (nI_1 (i)) (by decide) rfl ?_
                refine z_goto X 5 dX12_offBy_110 (by decide) ?_
                refine z_sub (ls' := [(0, .ref o), (1, .ref a), (2, .int (nI sk)), (3, .int (acc + ((((nu ((40 * sk) + i)).toInt64) - ((0 : Int64))).toInt32))), (4, .int (nI (i + 1)))]) [5, 6, 7, 1, 0] rfl ?_
                exact ih5 (i + 1) (acc + ((((nu ((40 * sk) + i)).toInt64) - ((0 : Int64))).toInt32)) (by omega) (by first | assumption | rfl | omega) (by rw [hacc]; exact offS_s (off_d (x := (0 : Int64)) (y := ((nu ((40 * sk) + i)).toInt64)) (wI_f (by omega)) (wI_t (by omega)) (wI_b _ _ _ _) (wI_b _ _ _ _) zc12 zc13))
              · refine z_ldc X dX12_offBy_97 wd_1258 ?_
                refine z_goto X 105 dX12_offBy_99 (by decide) ?_
                refine z_iadd X dX12_offBy_105 ?_
                refine z_istore_n (ls' := [(3, .int (acc + 1000000)), (9, .long (((nu ((40 * sk) + i)).toInt64) - ((0 : Int64)))), (7, .long ((nu ((40 * sk) + i)).toInt64)), (5, .long ((0 : Int64))), (0, .ref o), (1, .ref a), (2, .int (nI sk)), (4, .int (nI i))]) X dX12_offBy_106 (by decide) rfl ?_
                refine z_iinc (v := nI (i + 1)) (ls' := [(4, .int (nI (i + 1))), (3, .int (acc + 1000000)), (9, .long (((nu ((40 * sk) + i)).toInt64) - ((0 : Int64)))), (7, .long ((nu ((40 * sk) + i)).toInt64)), (5, .long ((0 : Int64))), (0, .ref o), (1, .ref a), (2, .int (nI sk))]) X 7 dX12_offBy_107 rfl (nI_1 (i)) (by decide) rfl ?_
                refine z_goto X 5 dX12_offBy_110 (by decide) ?_
                refine z_sub (ls' := [(0, .ref o), (1, .ref a), (2, .int (nI sk)), (3, .int (acc + 1000000)), (4, .int (nI (i + 1)))]) [5, 6, 7, 1, 0] rfl ?_
                exact ih5 (i + 1) (acc + 1000000) (by omega) (by first | assumption | rfl | omega) (by rw [hacc]; exact offS_s (off_c (x := (0 : Int64)) (y := ((nu ((40 * sk) + i)).toInt64)) (wI_f (by omega)) (wI_t (by omega)) (wI_b _ _ _ _) (wI_b _ _ _ _) zc12 zc13))
            · refine z_lload X 1 dX12_offBy_72 rfl ?_
              refine z_lload X 0 dX12_offBy_74 rfl ?_
              refine z_lsub X dX12_offBy_76 ?_
              refine z_goto X 85 dX12_offBy_77 (by decide) ?_
              refine z_lstore (ls' := [(9, .long (((0 : Int64)) - ((nu ((40 * sk) + i)).toInt64))), (7, .long ((nu ((40 * sk) + i)).toInt64)), (5, .long ((0 : Int64))), (0, .ref o), (1, .ref a), (2, .int (nI sk)), (3, .int acc), (4, .int (nI i))]) X dX12_offBy_85 (by decide) rfl ?_
              refine z_iload_n X 6 dX12_offBy_87 rfl ?_
              refine z_lload X 0 dX12_offBy_88 rfl ?_
              refine z_ldc2 X dX12_offBy_90 wd_1257 ?_
              refine z_lcmp X dX12_offBy_93 ?_
              refine z_if_le X 102 dX12_offBy_94 (by decide) (fun zc14 => ?_) (fun zc14 => ?_)
              · refine z_lload X 0 dX12_offBy_102 rfl ?_
                refine z_l2i X dX12_offBy_104 rfl ?_
                refine z_iadd X dX12_offBy_105 ?_
                refine z_istore_n (ls' := [(3, .int (acc + ((((0 : Int64)) - ((nu ((40 * sk) + i)).toInt64)).toInt32))), (9, .long (((0 : Int64)) - ((nu ((40 * sk) + i)).toInt64))), (7, .long ((nu ((40 * sk) + i)).toInt64)), (5, .long ((0 : Int64))), (0, .ref o), (1, .ref a), (2, .int (nI sk)), (4, .int (nI i))]) X dX12_offBy_106 (by decide) rfl ?_
                refine z_iinc (v := nI (i + 1)) (ls' := [(4, .int (nI (i + 1))), (3, .int (acc + ((((0 : Int64)) - ((nu ((40 * sk) + i)).toInt64)).toInt32))), (9, .long (((0 : Int64)) - ((nu ((40 * sk) + i)).toInt64))), (7, .long ((nu ((40 * sk) + i)).toInt64)), (5, .long ((0 : Int64))), (0, .ref o), (1, .ref a), (2, .int (nI sk))]) X 7 dX12_offBy_107 rfl (nI_1 (i)) (by decide) rfl ?_
                refine z_goto X 5 dX12_offBy_110 (by decide) ?_
                refine z_sub (ls' := [(0, .ref o), (1, .ref a), (2, .int (nI sk)), (3, .int (acc + ((((0 : Int64)) - ((nu ((40 * sk) + i)).toInt64)).toInt32))), (4, .int (nI (i + 1)))]) [5, 6, 7, 1, 0] rfl ?_
                exact ih5 (i + 1) (acc + ((((0 : Int64)) - ((nu ((40 * sk) + i)).toInt64)).toInt32)) (by omega) (by first | assumption | rfl | omega) (by rw [hacc]; exact offS_s (off_b (x := (0 : Int64)) (y := ((nu ((40 * sk) + i)).toInt64)) (wI_f (by omega)) (wI_t (by omega)) (wI_b _ _ _ _) (wI_b _ _ _ _) zc12 zc14))
              · refine z_ldc X dX12_offBy_97 wd_1258 ?_
                refine z_goto X 105 dX12_offBy_99 (by decide) ?_
                refine z_iadd X dX12_offBy_105 ?_
                refine z_istore_n (ls' := [(3, .int (acc + 1000000)), (9, .long (((0 : Int64)) - ((nu ((40 * sk) + i)).toInt64))), (7, .long ((nu ((40 * sk) + i)).toInt64)), (5, .long ((0 : Int64))), (0, .ref o), (1, .ref a), (2, .int (nI sk)), (4, .int (nI i))]) X dX12_offBy_106 (by decide) rfl ?_
                refine z_iinc (v := nI (i + 1)) (ls' := [(4, .int (nI (i + 1))), (3, .int (acc + 1000000)), (9, .long (((0 : Int64)) - ((nu ((40 * sk) + i)).toInt64))), (7, .long ((nu ((40 * sk) + i)).toInt64)), (5, .long ((0 : Int64))), (0, .ref o), (1, .ref a), (2, .int (nI sk))]) X 7 dX12_offBy_107 rfl (nI_1 (i)) (by decide) rfl ?_
                refine z_goto X 5 dX12_offBy_110 (by decide) ?_
                refine z_sub (ls' := [(0, .ref o), (1, .ref a), (2, .int (nI sk)), (3, .int (acc + 1000000)), (4, .int (nI (i + 1)))]) [5, 6, 7, 1, 0] rfl ?_
                exact ih5 (i + 1) (acc + 1000000) (by omega) (by first | assumption | rfl | omega) (by rw [hacc]; exact offS_s (off_a (x := (0 : Int64)) (y := ((nu ((40 * sk) + i)).toInt64)) (wI_f (by omega)) (wI_t (by omega)) (wI_b _ _ _ _) (wI_b _ _ _ _) zc12 zc14))
        · try replace zc7 := mt (nI_leI (a := len) (b := i) (by omega) (by omega)).mpr zc7
          refine z_aload_n X 1 dX12_offBy_20 rfl ?_
          refine z_bipush (v := 100) X dX12_offBy_21 (by decide) ?_
          refine z_iload X 4 dX12_offBy_23 rfl ?_
          refine z_iadd X dX12_offBy_25 ?_
          refine z_toe (y := nI (100 + i)) (nI_add (100) (i)) ?_
          refine z_iald2 (v := m (100 + i)) X dX12_offBy_26 K1 (vp_in_nI (n := 100 + i) (by omega) (by omega)) (congrArg m (nI_clamp (n := 100 + i) (by omega))) ?_
          refine z_i2l X dX12_offBy_27 rfl ?_
          refine z_goto X 32 dX12_offBy_28 (by decide) ?_
          refine z_lstore (ls' := [(5, .long ((m (100 + i)).toInt64)), (0, .ref o), (1, .ref a), (2, .int (nI sk)), (3, .int acc), (4, .int (nI i))]) X dX12_offBy_32 (by decide) rfl ?_
          refine z_iload X 5 dX12_offBy_34 rfl ?_
          refine z_aload_n X 1 dX12_offBy_36 rfl ?_
          refine z_get X fl_X12_40_12 dX12_offBy_37 K0 rfl ?_
          refine z_iload_n X 3 dX12_offBy_40 rfl ?_
          refine z_iald2 (v := si sk) X dX12_offBy_41 K3 (vp_in_nI (n := sk) (by omega) (by omega)) (congrArg si (nI_clamp (n := sk) (by omega))) ?_
          refine z_toe (y := nI (ss sk)) ((p1 sk hsk).1) ?_
          refine z_icmp_ge X 61 dX12_offBy_42 (by decide) (fun zc15 => ?_) (fun zc15 => ?_)
          · try replace zc15 := (nI_leI (a := ss sk) (b := i) (by omega) (by omega)).mp zc15
            refine z_lconst (v := 0) X dX12_offBy_61 (by decide) ?_
            refine z_lstore (ls' := [(7, .long ((0 : Int64))), (5, .long ((m (100 + i)).toInt64)), (0, .ref o), (1, .ref a), (2, .int (nI sk)), (3, .int acc), (4, .int (nI i))]) X dX12_offBy_62 (by decide) rfl ?_
            refine z_lload X 1 dX12_offBy_64 rfl ?_
            refine z_lload X 0 dX12_offBy_66 rfl ?_
            refine z_lcmp X dX12_offBy_68 ?_
            refine z_if_le X 80 dX12_offBy_69 (by decide) (fun zc16 => ?_) (fun zc16 => ?_)
            · refine z_lload X 0 dX12_offBy_80 rfl ?_
              refine z_lload X 1 dX12_offBy_82 rfl ?_
              refine z_lsub X dX12_offBy_84 ?_
              refine z_lstore (ls' := [(9, .long (((0 : Int64)) - ((m (100 + i)).toInt64))), (7, .long ((0 : Int64))), (5, .long ((m (100 + i)).toInt64)), (0, .ref o), (1, .ref a), (2, .int (nI sk)), (3, .int acc), (4, .int (nI i))]) X dX12_offBy_85 (by decide) rfl ?_
              refine z_iload_n X 6 dX12_offBy_87 rfl ?_
              refine z_lload X 0 dX12_offBy_88 rfl ?_
              refine z_ldc2 X dX12_offBy_90 wd_1257 ?_
              refine z_lcmp X dX12_offBy_93 ?_
              refine z_if_le X 102 dX12_offBy_94 (by decide) (fun zc17 => ?_) (fun zc17 => ?_)
              · refine z_lload X 0 dX12_offBy_102 rfl ?_
                refine z_l2i X dX12_offBy_104 rfl ?_
                refine z_iadd X dX12_offBy_105 ?_
                refine z_istore_n (ls' := [(3, .int (acc + ((((0 : Int64)) - ((m (100 + i)).toInt64)).toInt32))), (9, .long (((0 : Int64)) - ((m (100 + i)).toInt64))), (7, .long ((0 : Int64))), (5, .long ((m (100 + i)).toInt64)), (0, .ref o), (1, .ref a), (2, .int (nI sk)), (4, .int (nI i))]) X dX12_offBy_106 (by decide) rfl ?_
                refine z_iinc (v := nI (i + 1)) (ls' := [(4, .int (nI (i + 1))), (3, .int (acc + ((((0 : Int64)) - ((m (100 + i)).toInt64)).toInt32))), (9, .long (((0 : Int64)) - ((m (100 + i)).toInt64))), (7, .long ((0 : Int64))), (5, .long ((m (100 + i)).toInt64)), (0, .ref o), (1, .ref a), (2, .int (nI sk))]) X 7 dX12_offBy_107 rfl (nI_1 (i)) (by decide) rfl ?_
                refine z_goto X 5 dX12_offBy_110 (by decide) ?_
                refine z_sub (ls' := [(0, .ref o), (1, .ref a), (2, .int (nI sk)), (3, .int (acc + ((((0 : Int64)) - ((m (100 + i)).toInt64)).toInt32))), (4, .int (nI (i + 1)))]) [5, 6, 7, 1, 0] rfl ?_
                exact ih5 (i + 1) (acc + ((((0 : Int64)) - ((m (100 + i)).toInt64)).toInt32)) (by omega) (by first | assumption | rfl | omega) (by rw [hacc]; exact offS_s (off_d (x := ((m (100 + i)).toInt64)) (y := (0 : Int64)) (wI_t (by omega)) (wI_f (by omega)) (wI_b _ _ _ _) (wI_b _ _ _ _) zc16 zc17))
              · refine z_ldc X dX12_offBy_97 wd_1258 ?_
                refine z_goto X 105 dX12_offBy_99 (by decide) ?_
                refine z_iadd X dX12_offBy_105 ?_
                refine z_istore_n (ls' := [(3, .int (acc + 1000000)), (9, .long (((0 : Int64)) - ((m (100 + i)).toInt64))), (7, .long ((0 : Int64))), (5, .long ((m (100 + i)).toInt64)), (0, .ref o), (1, .ref a), (2, .int (nI sk)), (4, .int (nI i))]) X dX12_offBy_106 (by decide) rfl ?_
                refine z_iinc (v := nI (i + 1)) (ls' := [(4, .int (nI (i + 1))), (3, .int (acc + 1000000)), (9, .long (((0 : Int64)) - ((m (100 + i)).toInt64))), (7, .long ((0 : Int64))), (5, .long ((m (100 + i)).toInt64)), (0, .ref o), (1, .ref a), (2, .int (nI sk))]) X 7 dX12_offBy_107 rfl (nI_1 (i)) (by decide) rfl ?_
                refine z_goto X 5 dX12_offBy_110 (by decide) ?_
                refine z_sub (ls' := [(0, .ref o), (1, .ref a), (2, .int (nI sk)), (3, .int (acc + 1000000)), (4, .int (nI (i + 1)))]) [5, 6, 7, 1, 0] rfl ?_
                exact ih5 (i + 1) (acc + 1000000) (by omega) (by first | assumption | rfl | omega) (by rw [hacc]; exact offS_s (off_c (x := ((m (100 + i)).toInt64)) (y := (0 : Int64)) (wI_t (by omega)) (wI_f (by omega)) (wI_b _ _ _ _) (wI_b _ _ _ _) zc16 zc17))
            · refine z_lload X 1 dX12_offBy_72 rfl ?_
              refine z_lload X 0 dX12_offBy_74 rfl ?_
              refine z_lsub X dX12_offBy_76 ?_
              refine z_goto X 85 dX12_offBy_77 (by decide) ?_
              refine z_lstore (ls' := [(9, .long (((m (100 + i)).toInt64) - ((0 : Int64)))), (7, .long ((0 : Int64))), (5, .long ((m (100 + i)).toInt64)), (0, .ref o), (1, .ref a), (2, .int (nI sk)), (3, .int acc), (4, .int (nI i))]) X dX12_offBy_85 (by decide) rfl ?_
              refine z_iload_n X 6 dX12_offBy_87 rfl ?_
              refine z_lload X 0 dX12_offBy_88 rfl ?_
              refine z_ldc2 X dX12_offBy_90 wd_1257 ?_
              refine z_lcmp X dX12_offBy_93 ?_
              refine z_if_le X 102 dX12_offBy_94 (by decide) (fun zc18 => ?_) (fun zc18 => ?_)
              · refine z_lload X 0 dX12_offBy_102 rfl ?_
                refine z_l2i X dX12_offBy_104 rfl ?_
                refine z_iadd X dX12_offBy_105 ?_
                refine z_istore_n (ls' := [(3, .int (acc + ((((m (100 + i)).toInt64) - ((0 : Int64))).toInt32))), (9, .long (((m (100 + i)).toInt64) - ((0 : Int64)))), (7, .long ((0 : Int64))), (5, .long ((m (100 + i)).toInt64)), (0, .ref o), (1, .ref a), (2, .int (nI sk)), (4, .int (nI i))]) X dX12_offBy_106 (by decide) rfl ?_
                refine z_iinc (v := nI (i + 1)) (ls' := [(4, .int (nI (i + 1))), (3, .int (acc + ((((m (100 + i)).toInt64) - ((0 : Int64))).toInt32))), (9, .long (((m (100 + i)).toInt64) - ((0 : Int64)))), (7, .long ((0 : Int64))), (5, .long ((m (100 + i)).toInt64)), (0, .ref o), (1, .ref a), (2, .int (nI sk))]) X 7 dX12_offBy_107 rfl (nI_1 (i)) (by decide) rfl ?_
                refine z_goto X 5 dX12_offBy_110 (by decide) ?_
                refine z_sub (ls' := [(0, .ref o), (1, .ref a), (2, .int (nI sk)), (3, .int (acc + ((((m (100 + i)).toInt64) - ((0 : Int64))).toInt32))), (4, .int (nI (i + 1)))]) [5, 6, 7, 1, 0] rfl ?_
                exact ih5 (i + 1) (acc + ((((m (100 + i)).toInt64) - ((0 : Int64))).toInt32)) (by omega) (by first | assumption | rfl | omega) (by rw [hacc]; exact offS_s (off_b (x := ((m (100 + i)).toInt64)) (y := (0 : Int64)) (wI_t (by omega)) (wI_f (by omega)) (wI_b _ _ _ _) (wI_b _ _ _ _) zc16 zc18))
              · refine z_ldc X dX12_offBy_97 wd_1258 ?_
                refine z_goto X 105 dX12_offBy_99 (by decide) ?_
                refine z_iadd X dX12_offBy_105 ?_
                refine z_istore_n (ls' := [(3, .int (acc + 1000000)), (9, .long (((m (100 + i)).toInt64) - ((0 : Int64)))), (7, .long ((0 : Int64))), (5, .long ((m (100 + i)).toInt64)), (0, .ref o), (1, .ref a), (2, .int (nI sk)), (4, .int (nI i))]) X dX12_offBy_106 (by decide) rfl ?_
                refine z_iinc (v := nI (i + 1)) (ls' := [(4, .int (nI (i + 1))), (3, .int (acc + 1000000)), (9, .long (((m (100 + i)).toInt64) - ((0 : Int64)))), (7, .long ((0 : Int64))), (5, .long ((m (100 + i)).toInt64)), (0, .ref o), (1, .ref a), (2, .int (nI sk))]) X 7 dX12_offBy_107 rfl (nI_1 (i)) (by decide) rfl ?_
                refine z_goto X 5 dX12_offBy_110 (by decide) ?_
                refine z_sub (ls' := [(0, .ref o), (1, .ref a), (2, .int (nI sk)), (3, .int (acc + 1000000)), (4, .int (nI (i + 1)))]) [5, 6, 7, 1, 0] rfl ?_
                exact ih5 (i + 1) (acc + 1000000) (by omega) (by first | assumption | rfl | omega) (by rw [hacc]; exact offS_s (off_a (x := ((m (100 + i)).toInt64)) (y := (0 : Int64)) (wI_t (by omega)) (wI_f (by omega)) (wI_b _ _ _ _) (wI_b _ _ _ _) zc16 zc18))
          · try replace zc15 := mt (nI_leI (a := ss sk) (b := i) (by omega) (by omega)).mpr zc15
            refine z_aload_n X 1 dX12_offBy_45 rfl ?_
            refine z_get X fl_X12_43_12 dX12_offBy_46 K0 rfl ?_
            refine z_bipush (v := 40) X dX12_offBy_49 (by decide) ?_
            refine z_iload_n X 3 dX12_offBy_51 rfl ?_
            refine z_imul X dX12_offBy_52 ?_
            refine z_toe (y := nI (40 * sk)) (pk_mul (40) (sk)) ?_
            refine z_iload X 5 dX12_offBy_53 rfl ?_
            refine z_iadd X dX12_offBy_55 ?_
            refine z_toe (y := nI ((40 * sk) + i)) (nI_add (40 * sk) (i)) ?_
            refine z_iald2 (v := nu ((40 * sk) + i)) X dX12_offBy_56 K4 (vp_in_nI (n := (40 * sk) + i) (by omega) (by omega)) (congrArg nu (nI_clamp (n := (40 * sk) + i) (by omega))) ?_
            refine z_i2l X dX12_offBy_57 rfl ?_
            refine z_goto X 62 dX12_offBy_58 (by decide) ?_
            refine z_lstore (ls' := [(7, .long ((nu ((40 * sk) + i)).toInt64)), (5, .long ((m (100 + i)).toInt64)), (0, .ref o), (1, .ref a), (2, .int (nI sk)), (3, .int acc), (4, .int (nI i))]) X dX12_offBy_62 (by decide) rfl ?_
            refine z_lload X 1 dX12_offBy_64 rfl ?_
            refine z_lload X 0 dX12_offBy_66 rfl ?_
            refine z_lcmp X dX12_offBy_68 ?_
            refine z_if_le X 80 dX12_offBy_69 (by decide) (fun zc19 => ?_) (fun zc19 => ?_)
            · refine z_lload X 0 dX12_offBy_80 rfl ?_
              refine z_lload X 1 dX12_offBy_82 rfl ?_
              refine z_lsub X dX12_offBy_84 ?_
              refine z_lstore (ls' := [(9, .long (((nu ((40 * sk) + i)).toInt64) - ((m (100 + i)).toInt64))), (7, .long ((nu ((40 * sk) + i)).toInt64)), (5, .long ((m (100 + i)).toInt64)), (0, .ref o), (1, .ref a), (2, .int (nI sk)), (3, .int acc), (4, .int (nI i))]) X dX12_offBy_85 (by decide) rfl ?_
              refine z_iload_n X 6 dX12_offBy_87 rfl ?_
              refine z_lload X 0 dX12_offBy_88 rfl ?_
              refine z_ldc2 X dX12_offBy_90 wd_1257 ?_
              refine z_lcmp X dX12_offBy_93 ?_
              refine z_if_le X 102 dX12_offBy_94 (by decide) (fun zc20 => ?_) (fun zc20 => ?_)
              · refine z_lload X 0 dX12_offBy_102 rfl ?_
                refine z_l2i X dX12_offBy_104 rfl ?_
                refine z_iadd X dX12_offBy_105 ?_
                refine z_istore_n (ls' := [(3, .int (acc + ((((nu ((40 * sk) + i)).toInt64) - ((m (100 + i)).toInt64)).toInt32))), (9, .long (((nu ((40 * sk) + i)).toInt64) - ((m (100 + i)).toInt64))), (7, .long ((nu ((40 * sk) + i)).toInt64)), (5, .long ((m (100 + i)).toInt64)), (0, .ref o), (1, .ref a), (2, .int (nI sk)), (4, .int (nI i))]) X dX12_offBy_106 (by decide) rfl ?_
                refine z_iinc (v := nI (i + 1)) (ls' := [(4, .int (nI (i + 1))), (3, .int (acc + ((((nu ((40 * sk) + i)).toInt64) - ((m (100 + i)).toInt64)).toInt32))), (9, .long (((nu ((40 * sk) + i)).toInt64) - ((m (100 + i)).toInt64))), (7, .long ((nu ((40 * sk) + i)).toInt64)), (5, .long ((m (100 + i)).toInt64)), (0, .ref o), (1, .ref a), (2, .int (nI sk))]) X 7 dX12_offBy_107 rfl (nI_1 (i)) (by decide) rfl ?_
                refine z_goto X 5 dX12_offBy_110 (by decide) ?_
                refine z_sub (ls' := [(0, .ref o), (1, .ref a), (2, .int (nI sk)), (3, .int (acc + ((((nu ((40 * sk) + i)).toInt64) - ((m (100 + i)).toInt64)).toInt32))), (4, .int (nI (i + 1)))]) [5, 6, 7, 1, 0] rfl ?_
                exact ih5 (i + 1) (acc + ((((nu ((40 * sk) + i)).toInt64) - ((m (100 + i)).toInt64)).toInt32)) (by omega) (by first | assumption | rfl | omega) (by rw [hacc]; exact offS_s (off_d (x := ((m (100 + i)).toInt64)) (y := ((nu ((40 * sk) + i)).toInt64)) (wI_t (by omega)) (wI_t (by omega)) (wI_b _ _ _ _) (wI_b _ _ _ _) zc19 zc20))
              · refine z_ldc X dX12_offBy_97 wd_1258 ?_
                refine z_goto X 105 dX12_offBy_99 (by decide) ?_
                refine z_iadd X dX12_offBy_105 ?_
                refine z_istore_n (ls' := [(3, .int (acc + 1000000)), (9, .long (((nu ((40 * sk) + i)).toInt64) - ((m (100 + i)).toInt64))), (7, .long ((nu ((40 * sk) + i)).toInt64)), (5, .long ((m (100 + i)).toInt64)), (0, .ref o), (1, .ref a), (2, .int (nI sk)), (4, .int (nI i))]) X dX12_offBy_106 (by decide) rfl ?_
                refine z_iinc (v := nI (i + 1)) (ls' := [(4, .int (nI (i + 1))), (3, .int (acc + 1000000)), (9, .long (((nu ((40 * sk) + i)).toInt64) - ((m (100 + i)).toInt64))), (7, .long ((nu ((40 * sk) + i)).toInt64)), (5, .long ((m (100 + i)).toInt64)), (0, .ref o), (1, .ref a), (2, .int (nI sk))]) X 7 dX12_offBy_107 rfl (nI_1 (i)) (by decide) rfl ?_
                refine z_goto X 5 dX12_offBy_110 (by decide) ?_
                refine z_sub (ls' := [(0, .ref o), (1, .ref a), (2, .int (nI sk)), (3, .int (acc + 1000000)), (4, .int (nI (i + 1)))]) [5, 6, 7, 1, 0] rfl ?_
                exact ih5 (i + 1) (acc + 1000000) (by omega) (by first | assumption | rfl | omega) (by rw [hacc]; exact offS_s (off_c (x := ((m (100 + i)).toInt64)) (y := ((nu ((40 * sk) + i)).toInt64)) (wI_t (by omega)) (wI_t (by omega)) (wI_b _ _ _ _) (wI_b _ _ _ _) zc19 zc20))
            · refine z_lload X 1 dX12_offBy_72 rfl ?_
              refine z_lload X 0 dX12_offBy_74 rfl ?_
              refine z_lsub X dX12_offBy_76 ?_
              refine z_goto X 85 dX12_offBy_77 (by decide) ?_
              refine z_lstore (ls' := [(9, .long (((m (100 + i)).toInt64) - ((nu ((40 * sk) + i)).toInt64))), (7, .long ((nu ((40 * sk) + i)).toInt64)), (5, .long ((m (100 + i)).toInt64)), (0, .ref o), (1, .ref a), (2, .int (nI sk)), (3, .int acc), (4, .int (nI i))]) X dX12_offBy_85 (by decide) rfl ?_
              refine z_iload_n X 6 dX12_offBy_87 rfl ?_
              refine z_lload X 0 dX12_offBy_88 rfl ?_
              refine z_ldc2 X dX12_offBy_90 wd_1257 ?_
              refine z_lcmp X dX12_offBy_93 ?_
              refine z_if_le X 102 dX12_offBy_94 (by decide) (fun zc21 => ?_) (fun zc21 => ?_)
              · refine z_lload X 0 dX12_offBy_102 rfl ?_
                refine z_l2i X dX12_offBy_104 rfl ?_
                refine z_iadd X dX12_offBy_105 ?_
                refine z_istore_n (ls' := [(3, .int (acc + ((((m (100 + i)).toInt64) - ((nu ((40 * sk) + i)).toInt64)).toInt32))), (9, .long (((m (100 + i)).toInt64) - ((nu ((40 * sk) + i)).toInt64))), (7, .long ((nu ((40 * sk) + i)).toInt64)), (5, .long ((m (100 + i)).toInt64)), (0, .ref o), (1, .ref a), (2, .int (nI sk)), (4, .int (nI i))]) X dX12_offBy_106 (by decide) rfl ?_
                refine z_iinc (v := nI (i + 1)) (ls' := [(4, .int (nI (i + 1))), (3, .int (acc + ((((m (100 + i)).toInt64) - ((nu ((40 * sk) + i)).toInt64)).toInt32))), (9, .long (((m (100 + i)).toInt64) - ((nu ((40 * sk) + i)).toInt64))), (7, .long ((nu ((40 * sk) + i)).toInt64)), (5, .long ((m (100 + i)).toInt64)), (0, .ref o), (1, .ref a), (2, .int (nI sk))]) X 7 dX12_offBy_107 rfl (nI_1 (i)) (by decide) rfl ?_
                refine z_goto X 5 dX12_offBy_110 (by decide) ?_
                refine z_sub (ls' := [(0, .ref o), (1, .ref a), (2, .int (nI sk)), (3, .int (acc + ((((m (100 + i)).toInt64) - ((nu ((40 * sk) + i)).toInt64)).toInt32))), (4, .int (nI (i + 1)))]) [5, 6, 7, 1, 0] rfl ?_
                exact ih5 (i + 1) (acc + ((((m (100 + i)).toInt64) - ((nu ((40 * sk) + i)).toInt64)).toInt32)) (by omega) (by first | assumption | rfl | omega) (by rw [hacc]; exact offS_s (off_b (x := ((m (100 + i)).toInt64)) (y := ((nu ((40 * sk) + i)).toInt64)) (wI_t (by omega)) (wI_t (by omega)) (wI_b _ _ _ _) (wI_b _ _ _ _) zc19 zc21))
              · refine z_ldc X dX12_offBy_97 wd_1258 ?_
                refine z_goto X 105 dX12_offBy_99 (by decide) ?_
                refine z_iadd X dX12_offBy_105 ?_
                refine z_istore_n (ls' := [(3, .int (acc + 1000000)), (9, .long (((m (100 + i)).toInt64) - ((nu ((40 * sk) + i)).toInt64))), (7, .long ((nu ((40 * sk) + i)).toInt64)), (5, .long ((m (100 + i)).toInt64)), (0, .ref o), (1, .ref a), (2, .int (nI sk)), (4, .int (nI i))]) X dX12_offBy_106 (by decide) rfl ?_
                refine z_iinc (v := nI (i + 1)) (ls' := [(4, .int (nI (i + 1))), (3, .int (acc + 1000000)), (9, .long (((m (100 + i)).toInt64) - ((nu ((40 * sk) + i)).toInt64))), (7, .long ((nu ((40 * sk) + i)).toInt64)), (5, .long ((m (100 + i)).toInt64)), (0, .ref o), (1, .ref a), (2, .int (nI sk))]) X 7 dX12_offBy_107 rfl (nI_1 (i)) (by decide) rfl ?_
                refine z_goto X 5 dX12_offBy_110 (by decide) ?_
                refine z_sub (ls' := [(0, .ref o), (1, .ref a), (2, .int (nI sk)), (3, .int (acc + 1000000)), (4, .int (nI (i + 1)))]) [5, 6, 7, 1, 0] rfl ?_
                exact ih5 (i + 1) (acc + 1000000) (by omega) (by first | assumption | rfl | omega) (by rw [hacc]; exact offS_s (off_a (x := ((m (100 + i)).toInt64)) (y := ((nu ((40 * sk) + i)).toInt64)) (wI_t (by omega)) (wI_t (by omega)) (wI_b _ _ _ _) (wI_b _ _ _ _) zc19 zc21))
  refine z_sub (ls' := [(0, .ref o), (1, .ref a), (2, .int (nI sk)), (3, .int 0), (4, .int 0)]) [2, 3, 4, 1, 0] rfl ?_
  exact L5 _ 0 0 (Nat.lt_succ_self _) (by first | assumption | rfl | omega) (by rfl)
def opOff (d bi nu : Nat → Int32) (ss : Nat → Nat) (len : Nat) (s : Int32) : Nat × Int32 := if ¬ (0 ≤ s.toInt ∧ s.toInt ≤ 3) then (1, 0) else if (bi s.toNatClampNeg).toInt = 0 then (2, 0) else (0, offS d nu len (ss s.toNatClampNeg) s.toNatClampNeg 40)
set_option maxHeartbeats 4000000 in
set_option maxRecDepth 100000 in
theorem r_off {κ : Wc} {l : Launch} {h : Mm} {n : Nat} {o : Nat} {fo : Nat → Int32} {bi : Nat → Int32} {si : Nat → Int32} {nu : Nat → Int32} {ss : Nat → Nat} {d : Nat → Int32} {len : Nat} {im : Int32} {ba : Int32} {at_ : Int32} {sz : Int32} {fa : Int32} {op : Int32} {rm : Int32} {ti : Int32} {tm : Int32} {wh : Int32} {s : Int32} (K0 : h o = some (.inr (12, [.ref (o + 1), .ref (o + 2), .ref (o + 3), .int im, .ref (o + 4), .int ba, .int at_, .int sz, .int fa, .int op, .ref (o + 5), .ref (o + 6), .int rm, .ref (o + 7), .ref (o + 8), .int ti, .ref (o + 9), .int tm, .int wh, .ref (o + 10), .ref (o + 11), .ref (o + 12), .ref (o + 13)]))) (K1 : h (o + 4) = arI κ 6 fo) (K2 : h (o + 10) = arI κ 4 bi) (K3 : h (o + 11) = arI κ 4 si) (K4 : h (o + 12) = arI κ 160 nu) (K5 : h (o + 1) = arI κ 340 d) (p1 : ∀ k, k < 4 → si k = nI (ss k) ∧ ss k ≤ 40) (q1 : d 1 = nI len) (q2 : 1 ≤ len) (q3 : len ≤ 40) : Con κ l yX12_off cX12_off 2 (some .int) 3 0 0 [.ref o, .int s] h n (fun q h' n' => q = some (.int (ansOf (opOff d bi nu ss len s))) ∧ h' = va_up h (o + 4) (arI κ 6 (bump (opOff d bi nu ss len s) fo)) ∧ n' = n) := by
  refine Con.of mk_X12_off (Nat.le_of_ble_eq_true rfl) (fun G hG X E => ?_)
  subst hG
  refine z_ls (ls' := [(0, .ref o), (1, .int s)]) rfl ?_
  refine z_iload_n X 1 dX12_off_0 rfl ?_
  refine z_callS X (r_isSheet (κ := κ) (n := n) (v := (s))  ) mk_X12_isSheet dX12_off_1 wd_1036 wd_1037 rfl rfl (Nat.le_of_ble_eq_true rfl) (Nat.le_of_ble_eq_true rfl) (Nat.le_of_ble_eq_true rfl) (by omega) (by omega) (fun q zh1 zm3 zp4 => ?_)
  obtain ⟨rfl, ze2, zn5⟩ := zp4
  subst zm3
  subst zh1
  refine z_st (st' := [.int (b2i (0 ≤ (s : Int32).toInt ∧ (s : Int32).toInt ≤ 3))]) rfl ?_
  refine z_if_ne X 13 dX12_off_4 (by decide) (fun zc6 => ?_) (fun zc6 => ?_)
  · replace zc6 := b2i_t zc6
    obtain ⟨sk, hsk, rfl⟩ := ix_of (c := s) (len := 4) (by omega) (by omega)
    have hss := (p1 sk hsk).2
    refine z_aload_n X 0 dX12_off_13 rfl ?_
    refine z_get X fl_X12_37_12 dX12_off_14 K0 rfl ?_
    refine z_iload_n X 1 dX12_off_17 rfl ?_
    refine z_iald2 (v := bi sk) X dX12_off_18 K2 (vp_in_nI (n := sk) (by omega) (by omega)) (congrArg bi (nI_clamp (n := sk) (by omega))) ?_
    refine z_if_ne X 30 dX12_off_19 (by decide) (fun zc7 => ?_) (fun zc7 => ?_)
    · refine z_aload_n X 0 dX12_off_30 rfl ?_
      refine z_aload_n X 0 dX12_off_31 rfl ?_
      refine z_get X fl_X12_7_12 dX12_off_32 K0 rfl ?_
      refine z_iload_n X 1 dX12_off_35 rfl ?_
      refine z_callV X (r_offBy (κ := κ) (n := n) (o := (o)) (a := (o + 1)) (m := (d)) (sk := (sk)) (bi := (bi)) (si := (si)) (nu := (nu)) (ss := (ss)) (im := (im)) (ba := (ba)) (at_ := (at_)) (sz := (sz)) (fa := (fa)) (op := (op)) (rm := (rm)) (ti := (ti)) (tm := (tm)) (wh := (wh)) K0 K5 K2 K3 K4 (by first | assumption | omega) (by first | assumption | omega) (by first | assumption | omega) (by first | assumption | omega) (by first | assumption | omega) (by first | assumption | omega)) mk_X12_offBy dX12_off_36 wd_1253 wd_1255 wd_46 rfl K0 rfl rfl rfl (Nat.le_of_ble_eq_true rfl) (Nat.le_of_ble_eq_true rfl) (Nat.le_of_ble_eq_true rfl) (by omega) (by omega) (fun q zh8 zm10 zp11 => ?_)
      obtain ⟨rfl, ze9, zn12⟩ := zp11
      subst zm10
      subst zh8
      refine z_st (st' := [.int (offS d nu len (ss sk) sk 40)]) rfl ?_
      refine z_iret X E dX12_off_39 (by omega) (by omega) ⟨?_, ?_, ?_⟩
      · generalize hz : opOff d bi nu ss len (nI sk) = z; unfold opOff at hz; (try simp only [i_nI (n := sk) (by omega), nI_clamp (n := sk) (by omega),  i_eq, i_lt, i_le, show (-1 : Int32).toInt = -1 by decide, show (0 : Int32).toInt = 0 by decide, show (1 : Int32).toInt = 1 by decide, show (2 : Int32).toInt = 2 by decide, show (3 : Int32).toInt = 3 by decide, show (4 : Int32).toInt = 4 by decide, show (5 : Int32).toInt = 5 by decide, show (6 : Int32).toInt = 6 by decide, show (7 : Int32).toInt = 7 by decide, show (8 : Int32).toInt = 8 by decide, show (9 : Int32).toInt = 9 by decide, show (10 : Int32).toInt = 10 by decide, show (11 : Int32).toInt = 11 by decide, show (12 : Int32).toInt = 12 by decide, show (13 : Int32).toInt = 13 by decide, show (14 : Int32).toInt = 14 by decide, show (15 : Int32).toInt = 15 by decide, show (16 : Int32).toInt = 16 by decide, show (20 : Int32).toInt = 20 by decide, show (39 : Int32).toInt = 39 by decide, show (40 : Int32).toInt = 40 by decide, show (50 : Int32).toInt = 50 by decide, show (60 : Int32).toInt = 60 by decide, show (99 : Int32).toInt = 99 by decide, show (100 : Int32).toInt = 100 by decide, show (999 : Int32).toInt = 999 by decide, show (9999 : Int32).toInt = 9999 by decide, show (99999 : Int32).toInt = 99999 by decide, show (999999 : Int32).toInt = 999999 by decide, show (9999999 : Int32).toInt = 9999999 by decide, show (-50 : Int32).toInt = -50 by decide, show (32 : Int32).toInt = 32 by decide] at *); (repeat first | rw [if_pos (by omega)] at hz | rw [if_neg (by omega)] at hz); subst hz; rfl
      · generalize hz : opOff d bi nu ss len (nI sk) = z; unfold opOff at hz; (try simp only [i_nI (n := sk) (by omega), nI_clamp (n := sk) (by omega),  i_eq, i_lt, i_le, show (-1 : Int32).toInt = -1 by decide, show (0 : Int32).toInt = 0 by decide, show (1 : Int32).toInt = 1 by decide, show (2 : Int32).toInt = 2 by decide, show (3 : Int32).toInt = 3 by decide, show (4 : Int32).toInt = 4 by decide, show (5 : Int32).toInt = 5 by decide, show (6 : Int32).toInt = 6 by decide, show (7 : Int32).toInt = 7 by decide, show (8 : Int32).toInt = 8 by decide, show (9 : Int32).toInt = 9 by decide, show (10 : Int32).toInt = 10 by decide, show (11 : Int32).toInt = 11 by decide, show (12 : Int32).toInt = 12 by decide, show (13 : Int32).toInt = 13 by decide, show (14 : Int32).toInt = 14 by decide, show (15 : Int32).toInt = 15 by decide, show (16 : Int32).toInt = 16 by decide, show (20 : Int32).toInt = 20 by decide, show (39 : Int32).toInt = 39 by decide, show (40 : Int32).toInt = 40 by decide, show (50 : Int32).toInt = 50 by decide, show (60 : Int32).toInt = 60 by decide, show (99 : Int32).toInt = 99 by decide, show (100 : Int32).toInt = 100 by decide, show (999 : Int32).toInt = 999 by decide, show (9999 : Int32).toInt = 9999 by decide, show (99999 : Int32).toInt = 99999 by decide, show (999999 : Int32).toInt = 999999 by decide, show (9999999 : Int32).toInt = 9999999 by decide, show (-50 : Int32).toInt = -50 by decide, show (32 : Int32).toInt = 32 by decide] at *); (repeat first | rw [if_pos (by omega)] at hz | rw [if_neg (by omega)] at hz); subst hz; (first | rfl | (funext zz; simp only [va_up, bump, ↓reduceIte]; (repeat' split) <;> first | rfl | (exfalso; omega) | (simp_all; done)))
      · rfl
    · refine z_aload_n X 0 dX12_off_22 rfl ?_
      refine z_iconst (v := 2) X dX12_off_23 (by decide) ?_
      refine z_callV X (r_finds (κ := κ) (n := n) (o := (o)) (k := (2)) (fo := (fo)) (im := (im)) (ba := (ba)) (at_ := (at_)) (sz := (sz)) (fa := (fa)) (op := (op)) (rm := (rm)) (ti := (ti)) (tm := (tm)) (wh := (wh)) K0 K1 (by first | assumption | omega) (by first | assumption | omega)) mk_X12_finds dX12_off_24 wd_1018 wd_1020 wd_24 rfl K0 rfl rfl rfl (Nat.le_of_ble_eq_true rfl) (Nat.le_of_ble_eq_true rfl) (Nat.le_of_ble_eq_true rfl) (by omega) (by omega) (fun q zh13 zm15 zp16 => ?_)
      obtain ⟨rfl, ze14, zn17⟩ := zp16
      subst zm15
      refine z_st (st' := [.int (lowE 2)]) rfl ?_
      have zK18 : zh13 o = some (.inr (12, [.ref (o + 1), .ref (o + 2), .ref (o + 3), .int im, .ref (o + 4), .int ba, .int at_, .int sz, .int fa, .int op, .ref (o + 5), .ref (o + 6), .int rm, .ref (o + 7), .ref (o + 8), .int ti, .ref (o + 9), .int tm, .int wh, .ref (o + 10), .ref (o + 11), .ref (o + 12), .ref (o + 13)])) := by rw [ze14]; rw [va_up_ne _ _ (show o ≠ o + 4 by omega)]; exact K0
      have zK19 : zh13 (o + 4) = arI κ 6 (bmp fo 2) := by rw [ze14]; exact va_up_self _ _ _
      have zK20 : zh13 (o + 10) = arI κ 4 bi := by rw [ze14]; rw [va_up_ne _ _ (show o + 10 ≠ o + 4 by omega)]; exact K2
      have zK21 : zh13 (o + 11) = arI κ 4 si := by rw [ze14]; rw [va_up_ne _ _ (show o + 11 ≠ o + 4 by omega)]; exact K3
      have zK22 : zh13 (o + 12) = arI κ 160 nu := by rw [ze14]; rw [va_up_ne _ _ (show o + 12 ≠ o + 4 by omega)]; exact K4
      have zK23 : zh13 (o + 1) = arI κ 340 d := by rw [ze14]; rw [va_up_ne _ _ (show o + 1 ≠ o + 4 by omega)]; exact K5
      refine z_goto X 39 dX12_off_27 (by decide) ?_
      refine z_iret X E dX12_off_39 (by omega) (by omega) ⟨?_, ?_, ?_⟩
      · generalize hz : opOff d bi nu ss len (nI sk) = z; unfold opOff at hz; (try simp only [i_nI (n := sk) (by omega), nI_clamp (n := sk) (by omega),  i_eq, i_lt, i_le, show (-1 : Int32).toInt = -1 by decide, show (0 : Int32).toInt = 0 by decide, show (1 : Int32).toInt = 1 by decide, show (2 : Int32).toInt = 2 by decide, show (3 : Int32).toInt = 3 by decide, show (4 : Int32).toInt = 4 by decide, show (5 : Int32).toInt = 5 by decide, show (6 : Int32).toInt = 6 by decide, show (7 : Int32).toInt = 7 by decide, show (8 : Int32).toInt = 8 by decide, show (9 : Int32).toInt = 9 by decide, show (10 : Int32).toInt = 10 by decide, show (11 : Int32).toInt = 11 by decide, show (12 : Int32).toInt = 12 by decide, show (13 : Int32).toInt = 13 by decide, show (14 : Int32).toInt = 14 by decide, show (15 : Int32).toInt = 15 by decide, show (16 : Int32).toInt = 16 by decide, show (20 : Int32).toInt = 20 by decide, show (39 : Int32).toInt = 39 by decide, show (40 : Int32).toInt = 40 by decide, show (50 : Int32).toInt = 50 by decide, show (60 : Int32).toInt = 60 by decide, show (99 : Int32).toInt = 99 by decide, show (100 : Int32).toInt = 100 by decide, show (999 : Int32).toInt = 999 by decide, show (9999 : Int32).toInt = 9999 by decide, show (99999 : Int32).toInt = 99999 by decide, show (999999 : Int32).toInt = 999999 by decide, show (9999999 : Int32).toInt = 9999999 by decide, show (-50 : Int32).toInt = -50 by decide, show (32 : Int32).toInt = 32 by decide] at *); (repeat first | rw [if_pos (by omega)] at hz | rw [if_neg (by omega)] at hz); subst hz; rfl
      · generalize hz : opOff d bi nu ss len (nI sk) = z; unfold opOff at hz; (try simp only [i_nI (n := sk) (by omega), nI_clamp (n := sk) (by omega),  i_eq, i_lt, i_le, show (-1 : Int32).toInt = -1 by decide, show (0 : Int32).toInt = 0 by decide, show (1 : Int32).toInt = 1 by decide, show (2 : Int32).toInt = 2 by decide, show (3 : Int32).toInt = 3 by decide, show (4 : Int32).toInt = 4 by decide, show (5 : Int32).toInt = 5 by decide, show (6 : Int32).toInt = 6 by decide, show (7 : Int32).toInt = 7 by decide, show (8 : Int32).toInt = 8 by decide, show (9 : Int32).toInt = 9 by decide, show (10 : Int32).toInt = 10 by decide, show (11 : Int32).toInt = 11 by decide, show (12 : Int32).toInt = 12 by decide, show (13 : Int32).toInt = 13 by decide, show (14 : Int32).toInt = 14 by decide, show (15 : Int32).toInt = 15 by decide, show (16 : Int32).toInt = 16 by decide, show (20 : Int32).toInt = 20 by decide, show (39 : Int32).toInt = 39 by decide, show (40 : Int32).toInt = 40 by decide, show (50 : Int32).toInt = 50 by decide, show (60 : Int32).toInt = 60 by decide, show (99 : Int32).toInt = 99 by decide, show (100 : Int32).toInt = 100 by decide, show (999 : Int32).toInt = 999 by decide, show (9999 : Int32).toInt = 9999 by decide, show (99999 : Int32).toInt = 99999 by decide, show (999999 : Int32).toInt = 999999 by decide, show (9999999 : Int32).toInt = 9999999 by decide, show (-50 : Int32).toInt = -50 by decide, show (32 : Int32).toInt = 32 by decide] at *); (repeat first | rw [if_pos (by omega)] at hz | rw [if_neg (by omega)] at hz); subst hz; rw [ze14]; (first | rfl | (funext zz; simp only [va_up, bump, ↓reduceIte]; (repeat' split) <;> first | rfl | (exfalso; omega) | (simp_all; done)))
      · rfl
  · replace zc6 := b2i_f zc6
    refine z_aload_n X 0 dX12_off_7 rfl ?_
    refine z_iconst (v := 1) X dX12_off_8 (by decide) ?_
    refine z_callV X (r_finds (κ := κ) (n := n) (o := (o)) (k := (1)) (fo := (fo)) (im := (im)) (ba := (ba)) (at_ := (at_)) (sz := (sz)) (fa := (fa)) (op := (op)) (rm := (rm)) (ti := (ti)) (tm := (tm)) (wh := (wh)) K0 K1 (by first | assumption | omega) (by first | assumption | omega)) mk_X12_finds dX12_off_9 wd_1018 wd_1020 wd_24 rfl K0 rfl rfl rfl (Nat.le_of_ble_eq_true rfl) (Nat.le_of_ble_eq_true rfl) (Nat.le_of_ble_eq_true rfl) (by omega) (by omega) (fun q zh24 zm26 zp27 => ?_)
    obtain ⟨rfl, ze25, zn28⟩ := zp27
    subst zm26
    refine z_st (st' := [.int (lowE 1)]) rfl ?_
    have zK29 : zh24 o = some (.inr (12, [.ref (o + 1), .ref (o + 2), .ref (o + 3), .int im, .ref (o + 4), .int ba, .int at_, .int sz, .int fa, .int op, .ref (o + 5), .ref (o + 6), .int rm, .ref (o + 7), .ref (o + 8), .int ti, .ref (o + 9), .int tm, .int wh, .ref (o + 10), .ref (o + 11), .ref (o + 12), .ref (o + 13)])) := by rw [ze25]; rw [va_up_ne _ _ (show o ≠ o + 4 by omega)]; exact K0
    have zK30 : zh24 (o + 4) = arI κ 6 (bmp fo 1) := by rw [ze25]; exact va_up_self _ _ _
    have zK31 : zh24 (o + 10) = arI κ 4 bi := by rw [ze25]; rw [va_up_ne _ _ (show o + 10 ≠ o + 4 by omega)]; exact K2
    have zK32 : zh24 (o + 11) = arI κ 4 si := by rw [ze25]; rw [va_up_ne _ _ (show o + 11 ≠ o + 4 by omega)]; exact K3
    have zK33 : zh24 (o + 12) = arI κ 160 nu := by rw [ze25]; rw [va_up_ne _ _ (show o + 12 ≠ o + 4 by omega)]; exact K4
    have zK34 : zh24 (o + 1) = arI κ 340 d := by rw [ze25]; rw [va_up_ne _ _ (show o + 1 ≠ o + 4 by omega)]; exact K5
    refine z_iret X E dX12_off_12 (by omega) (by omega) ⟨?_, ?_, ?_⟩
    · generalize hz : opOff d bi nu ss len s = z; unfold opOff at hz; (try simp only [ i_eq, i_lt, i_le, show (-1 : Int32).toInt = -1 by decide, show (0 : Int32).toInt = 0 by decide, show (1 : Int32).toInt = 1 by decide, show (2 : Int32).toInt = 2 by decide, show (3 : Int32).toInt = 3 by decide, show (4 : Int32).toInt = 4 by decide, show (5 : Int32).toInt = 5 by decide, show (6 : Int32).toInt = 6 by decide, show (7 : Int32).toInt = 7 by decide, show (8 : Int32).toInt = 8 by decide, show (9 : Int32).toInt = 9 by decide, show (10 : Int32).toInt = 10 by decide, show (11 : Int32).toInt = 11 by decide, show (12 : Int32).toInt = 12 by decide, show (13 : Int32).toInt = 13 by decide, show (14 : Int32).toInt = 14 by decide, show (15 : Int32).toInt = 15 by decide, show (16 : Int32).toInt = 16 by decide, show (20 : Int32).toInt = 20 by decide, show (39 : Int32).toInt = 39 by decide, show (40 : Int32).toInt = 40 by decide, show (50 : Int32).toInt = 50 by decide, show (60 : Int32).toInt = 60 by decide, show (99 : Int32).toInt = 99 by decide, show (100 : Int32).toInt = 100 by decide, show (999 : Int32).toInt = 999 by decide, show (9999 : Int32).toInt = 9999 by decide, show (99999 : Int32).toInt = 99999 by decide, show (999999 : Int32).toInt = 999999 by decide, show (9999999 : Int32).toInt = 9999999 by decide, show (-50 : Int32).toInt = -50 by decide, show (32 : Int32).toInt = 32 by decide] at *); (repeat first | rw [if_pos (by omega)] at hz | rw [if_neg (by omega)] at hz); subst hz; rfl
    · generalize hz : opOff d bi nu ss len s = z; unfold opOff at hz; (try simp only [ i_eq, i_lt, i_le, show (-1 : Int32).toInt = -1 by decide, show (0 : Int32).toInt = 0 by decide, show (1 : Int32).toInt = 1 by decide, show (2 : Int32).toInt = 2 by decide, show (3 : Int32).toInt = 3 by decide, show (4 : Int32).toInt = 4 by decide, show (5 : Int32).toInt = 5 by decide, show (6 : Int32).toInt = 6 by decide, show (7 : Int32).toInt = 7 by decide, show (8 : Int32).toInt = 8 by decide, show (9 : Int32).toInt = 9 by decide, show (10 : Int32).toInt = 10 by decide, show (11 : Int32).toInt = 11 by decide, show (12 : Int32).toInt = 12 by decide, show (13 : Int32).toInt = 13 by decide, show (14 : Int32).toInt = 14 by decide, show (15 : Int32).toInt = 15 by decide, show (16 : Int32).toInt = 16 by decide, show (20 : Int32).toInt = 20 by decide, show (39 : Int32).toInt = 39 by decide, show (40 : Int32).toInt = 40 by decide, show (50 : Int32).toInt = 50 by decide, show (60 : Int32).toInt = 60 by decide, show (99 : Int32).toInt = 99 by decide, show (100 : Int32).toInt = 100 by decide, show (999 : Int32).toInt = 999 by decide, show (9999 : Int32).toInt = 9999 by decide, show (99999 : Int32).toInt = 99999 by decide, show (999999 : Int32).toInt = 999999 by decide, show (9999999 : Int32).toInt = 9999999 by decide, show (-50 : Int32).toInt = -50 by decide, show (32 : Int32).toInt = 32 by decide] at *); (repeat first | rw [if_pos (by omega)] at hz | rw [if_neg (by omega)] at hz); subst hz; rw [ze25]; (first | rfl | (funext zz; simp only [va_up, bump, ↓reduceIte]; (repeat' split) <;> first | rfl | (exfalso; omega) | (simp_all; done)))
    · rfl
