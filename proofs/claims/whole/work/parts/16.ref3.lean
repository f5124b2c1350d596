def opShape (d : Nat → Int32) (len : Nat) (c w v : Int32) : Nat × Int32 := if ¬ (0 ≤ c.toInt ∧ c.toInt ≤ ((len : Nat) : Int) - 1 ∧ ((w.toInt = 0 ∧ 0 ≤ v.toInt ∧ v.toInt ≤ 99999) ∨ (w.toInt = 1 ∧ 0 ≤ v.toInt ∧ v.toInt ≤ 999999))) then (1, 0) else if w.toInt = 0 then (0, d (100 + c.toNatClampNeg)) else (0, d (140 + c.toNatClampNeg))
def dShape (d : Nat → Int32) (len : Nat) (c w v : Int32) : Nat → Int32 := if ¬ (0 ≤ c.toInt ∧ c.toInt ≤ ((len : Nat) : Int) - 1 ∧ ((w.toInt = 0 ∧ 0 ≤ v.toInt ∧ v.toInt ≤ 99999) ∨ (w.toInt = 1 ∧ 0 ≤ v.toInt ∧ v.toInt ≤ 999999))) then d else if w.toInt = 0 then upd d (100 + c.toNatClampNeg) v else upd d (140 + c.toNatClampNeg) v
set_option maxHeartbeats 4000000 in
set_option maxRecDepth 100000 in
theorem r_shape {κ : Wc} {l : Launch} {h : Mm} {n : Nat} {o : Nat} {c : Int32} {w : Int32} {v : Int32} {d : Nat → Int32} {len : Nat} {fo : Nat → Int32} {im : Int32} {ba : Int32} {at_ : Int32} {sz : Int32} {fa : Int32} {op : Int32} {rm : Int32} {ti : Int32} {tm : Int32} {wh : Int32} (K0 : h o = some (.inr (12, [.ref (o + 1), .ref (o + 2), .ref (o + 3), .int im, .ref (o + 4), .int ba, .int at_, .int sz, .int fa, .int op, .ref (o + 5), .ref (o + 6), .int rm, .ref (o + 7), .ref (o + 8), .int ti, .ref (o + 9), .int tm, .int wh, .ref (o + 10), .ref (o + 11), .ref (o + 12), .ref (o + 13)]))) (K1 : h (o + 4) = arI κ 6 fo) (K2 : h (o + 1) = arI κ 340 d) (q1 : d 1 = nI len) (q2 : 1 ≤ len) (q3 : len ≤ 40) : Con κ l yX12_shape cX12_shape 6 (some .int) 3 0 0 [.ref o, .int c, .int w, .int v] h n (fun q h' n' => q = some (.int (ansOf (opShape d len c w v))) ∧ h' = va_up (va_up h (o + 1) (arI κ 340 (dShape d len c w v))) (o + 4) (arI κ 6 (bump (opShape d len c w v) fo)) ∧ n' = n) := by
  refine Con.of mk_X12_shape (Nat.le_of_ble_eq_true rfl) (fun G hG X E => ?_)
  subst hG
  refine z_ls (ls' := [(0, .ref o), (1, .int c), (2, .int w), (3, .int v)]) rfl ?_
  refine z_aload_n X 0 dX12_shape_0 rfl ?_
  refine z_iload_n X 1 dX12_shape_1 rfl ?_
  refine z_callV X (r_isCell (κ := κ) (n := n) (o := (o)) (v := (c)) (d := (d)) (im := (im)) (ba := (ba)) (at_ := (at_)) (sz := (sz)) (fa := (fa)) (op := (op)) (rm := (rm)) (ti := (ti)) (tm := (tm)) (wh := (wh)) K0 K2 (by first | assumption | omega) (by first | assumption | omega) (by first | assumption | omega)) mk_X12_isCell dX12_shape_2 wd_1010 wd_1012 wd_23 rfl K0 rfl rfl rfl (Nat.le_of_ble_eq_true rfl) (Nat.le_of_ble_eq_true rfl) (Nat.le_of_ble_eq_true rfl) (by omega) (by omega) (fun q zh1 zm3 zp4 => ?_)
  obtain ⟨rfl, ze2, zn5⟩ := zp4
  subst zm3
  subst zh1
  refine z_st (st' := [.int (b2i (0 ≤ (c : Int32).toInt ∧ (c : Int32).toInt ≤ ((len : Nat) : Int) - 1))]) rfl ?_
  refine z_if_eq X 40 dX12_shape_5 (by decide) (fun zc6 => ?_) (fun zc6 => ?_)
  · replace zc6 := b2i_f zc6
    refine z_aload_n X 0 dX12_shape_40 rfl ?_
    refine z_iconst (v := 1) X dX12_shape_41 (by decide) ?_
    refine z_callV X (r_finds (κ := κ) (n := n) (o := (o)) (k := (1)) (fo := (fo)) (im := (im)) (ba := (ba)) (at_ := (at_)) (sz := (sz)) (fa := (fa)) (op := (op)) (rm := (rm)) (ti := (ti)) (tm := (tm)) (wh := (wh)) K0 K1 (by first | assumption | omega) (by first | assumption | omega)) mk_X12_finds dX12_shape_42 wd_1018 wd_1020 wd_24 rfl K0 rfl rfl rfl (Nat.le_of_ble_eq_true rfl) (Nat.le_of_ble_eq_true rfl) (Nat.le_of_ble_eq_true rfl) (by omega) (by omega) (fun q zh7 zm9 zp10 => ?_)
    obtain ⟨rfl, ze8, zn11⟩ := zp10
    subst zm9
    refine z_st (st' := [.int (lowE 1)]) rfl ?_
    have zK12 : zh7 o = some (.inr (12, [.ref (o + 1), .ref (o + 2), .ref (o + 3), .int im, .ref (o + 4), .int ba, .int at_, .int sz, .int fa, .int op, .ref (o + 5), .ref (o + 6), .int rm, .ref (o + 7), .ref (o + 8), .int ti, .ref (o + 9), .int tm, .int wh, .ref (o + 10), .ref (o + 11), .ref (o + 12), .ref (o + 13)])) := by rw [ze8]; rw [va_up_ne _ _ (show o ≠ o + 4 by omega)]; exact K0
    have zK13 : zh7 (o + 4) = arI κ 6 (bmp fo 1) := by rw [ze8]; exact va_up_self _ _ _
    have zK14 : zh7 (o + 1) = arI κ 340 d := by rw [ze8]; rw [va_up_ne _ _ (show o + 1 ≠ o + 4 by omega)]; exact K2
    refine z_iret X E dX12_shape_45 (by omega) (by omega) ⟨?_, ?_, ?_⟩
    · generalize hz : opShape d len c w v = z; unfold opShape at hz; (try simp only [ i_eq, i_lt, i_le, show (-1 : Int32).toInt = -1 by decide, show (0 : Int32).toInt = 0 by decide, show (1 : Int32).toInt = 1 by decide, show (2 : Int32).toInt = 2 by decide, show (3 : Int32).toInt = 3 by decide, show (4 : Int32).toInt = 4 by decide, show (5 : Int32).toInt = 5 by decide, show (6 : Int32).toInt = 6 by decide, show (7 : Int32).toInt = 7 by decide, show (8 : Int32).toInt = 8 by decide, show (9 : Int32).toInt = 9 by decide, show (10 : Int32).toInt = 10 by decide, show (11 : Int32).toInt = 11 by decide, show (12 : Int32).toInt = 12 by decide, show (13 : Int32).toInt = 13 by decide, show (14 : Int32).toInt = 14 by decide, show (15 : Int32).toInt = 15 by decide, show (16 : Int32).toInt = 16 by decide, show (20 : Int32).toInt = 20 by decide, show (39 : Int32).toInt = 39 by decide, show (40 : Int32).toInt = 40 by decide, show (50 : Int32).toInt = 50 by decide, show (60 : Int32).toInt = 60 by decide, show (99 : Int32).toInt = 99 by decide, show (100 : Int32).toInt = 100 by decide, show (999 : Int32).toInt = 999 by decide, show (9999 : Int32).toInt = 9999 by decide, show (99999 : Int32).toInt = 99999 by decide, show (999999 : Int32).toInt = 999999 by decide, show (9999999 : Int32).toInt = 9999999 by decide, show (-50 : Int32).toInt = -50 by decide, show (32 : Int32).toInt = 32 by decide] at *); (repeat first | rw [if_pos (by omega)] at hz | rw [if_neg (by omega)] at hz); subst hz; rfl
    · generalize hz : opShape d len c w v = z; unfold opShape at hz; (try simp only [ i_eq, i_lt, i_le, show (-1 : Int32).toInt = -1 by decide, show (0 : Int32).toInt = 0 by decide, show (1 : Int32).toInt = 1 by decide, show (2 : Int32).toInt = 2 by decide, show (3 : Int32).toInt = 3 by decide, show (4 : Int32).toInt = 4 by decide, show (5 : Int32).toInt = 5 by decide, show (6 : Int32).toInt = 6 by decide, show (7 : Int32).toInt = 7 by decide, show (8 : Int32).toInt = 8 by decide, show (9 : Int32).toInt = 9 by decide, show (10 : Int32).toInt = 10 by decide, show (11 : Int32).toInt = 11 by decide, show (12 : Int32).toInt = 12 by decide, show (13 : Int32).toInt = 13 by decide, show (14 : Int32).toInt = 14 by decide, show (15 : Int32).toInt = 15 by decide, show (16 : Int32).toInt = 16 by decide, show (20 : Int32).toInt = 20 by decide, show (39 : Int32).toInt = 39 by decide, show (40 : Int32).toInt = 40 by decide, show (50 : Int32).toInt = 50 by decide, show (60 : Int32).toInt = 60 by decide, show (99 : Int32).toInt = 99 by decide, show (100 : Int32).toInt = 100 by decide, show (999 : Int32).toInt = 999 by decide, show (9999 : Int32).toInt = 9999 by decide, show (99999 : Int32).toInt = 99999 by decide, show (999999 : Int32).toInt = 999999 by decide, show (9999999 : Int32).toInt = 9999999 by decide, show (-50 : Int32).toInt = -50 by decide, show (32 : Int32).toInt = 32 by decide] at *); (repeat first | rw [if_pos (by omega)] at hz | rw [if_neg (by omega)] at hz); subst hz; unfold dShape; (try simp only [ i_eq]); (repeat first | rw [if_pos (by omega)] | rw [if_neg (by omega)]); rw [ze8]; (first | rfl | (funext zz; simp only [va_up, bump, ↓reduceIte]; (repeat' split) <;> first | rfl | (exfalso; omega) | (simp_all; done)))
    · rfl
  · replace zc6 := b2i_t zc6
    refine z_iload_n X 2 dX12_shape_8 rfl ?_
    refine z_i2l X dX12_shape_9 rfl ?_
    refine z_lconst (v := 0) X dX12_shape_10 (by decide) ?_
    refine z_lconst (v := 1) X dX12_shape_11 (by decide) ?_
    refine z_callS X (r_in (κ := κ) (n := n) (v := (w.toInt64)) (lo := (0 : Int64)) (hi := (1 : Int64))  ) mk_X12_in dX12_shape_12 wd_1014 wd_1015 rfl rfl (Nat.le_of_ble_eq_true rfl) (Nat.le_of_ble_eq_true rfl) (Nat.le_of_ble_eq_true rfl) (by omega) (by omega) (fun q zh15 zm17 zp18 => ?_)
    obtain ⟨rfl, ze16, zn19⟩ := zp18
    subst zm17
    subst zh15
    refine z_st (st' := [.int (b2i ((0 : Int64).toInt ≤ (w.toInt64 : Int64).toInt ∧ (w.toInt64 : Int64).toInt ≤ (1 : Int64).toInt))]) rfl ?_
    refine z_toe (y := b2i (0 ≤ w.toInt ∧ w.toInt ≤ 1)) (by simp only [Int32.toInt_toInt64, show (0 : Int64).toInt = 0 by decide, show (1 : Int64).toInt = 1 by decide]) ?_
    refine z_if_eq X 40 dX12_shape_15 (by decide) (fun zc20 => ?_) (fun zc20 => ?_)
    · replace zc20 := b2i_f zc20
      refine z_aload_n X 0 dX12_shape_40 rfl ?_
      refine z_iconst (v := 1) X dX12_shape_41 (by decide) ?_
      refine z_callV X (r_finds (κ := κ) (n := n) (o := (o)) (k := (1)) (fo := (fo)) (im := (im)) (ba := (ba)) (at_ := (at_)) (sz := (sz)) (fa := (fa)) (op := (op)) (rm := (rm)) (ti := (ti)) (tm := (tm)) (wh := (wh)) K0 K1 (by first | assumption | omega) (by first | assumption | omega)) mk_X12_finds dX12_shape_42 wd_1018 wd_1020 wd_24 rfl K0 rfl rfl rfl (Nat.le_of_ble_eq_true rfl) (Nat.le_of_ble_eq_true rfl) (Nat.le_of_ble_eq_true rfl) (by omega) (by omega) (fun q zh21 zm23 zp24 => ?_)
      obtain ⟨rfl, ze22, zn25⟩ := zp24
      subst zm23
      refine z_st (st' := [.int (lowE 1)]) rfl ?_
      have zK26 : zh21 o = some (.inr (12, [.ref (o + 1), .ref (o + 2), .ref (o + 3), .int im, .ref (o + 4), .int ba, .int at_, .int sz, .int fa, .int op, .ref (o + 5), .ref (o + 6), .int rm, .ref (o + 7), .ref (o + 8), .int ti, .ref (o + 9), .int tm, .int wh, .ref (o + 10), .ref (o + 11), .ref (o + 12), .ref (o + 13)])) := by rw [ze22]; rw [va_up_ne _ _ (show o ≠ o + 4 by omega)]; exact K0
      have zK27 : zh21 (o + 4) = arI κ 6 (bmp fo 1) := by rw [ze22]; exact va_up_self _ _ _
      have zK28 : zh21 (o + 1) = arI κ 340 d := by rw [ze22]; rw [va_up_ne _ _ (show o + 1 ≠ o + 4 by omega)]; exact K2
      refine z_iret X E dX12_shape_45 (by omega) (by omega) ⟨?_, ?_, ?_⟩
      · generalize hz : opShape d len c w v = z; unfold opShape at hz; (try simp only [ i_eq, i_lt, i_le, show (-1 : Int32).toInt = -1 by decide, show (0 : Int32).toInt = 0 by decide, show (1 : Int32).toInt = 1 by decide, show (2 : Int32).toInt = 2 by decide, show (3 : Int32).toInt = 3 by decide, show (4 : Int32).toInt = 4 by decide, show (5 : Int32).toInt = 5 by decide, show (6 : Int32).toInt = 6 by decide, show (7 : Int32).toInt = 7 by decide, show (8 : Int32).toInt = 8 by decide, show (9 : Int32).toInt = 9 by decide, show (10 : Int32).toInt = 10 by decide, show (11 : Int32).toInt = 11 by decide, show (12 : Int32).toInt = 12 by decide, show (13 : Int32).toInt = 13 by decide, show (14 : Int32).toInt = 14 by decide, show (15 : Int32).toInt = 15 by decide, show (16 : Int32).toInt = 16 by decide, show (20 : Int32).toInt = 20 by decide, show (39 : Int32).toInt = 39 by decide, show (40 : Int32).toInt = 40 by decide, show (50 : Int32).toInt = 50 by decide, show (60 : Int32).toInt = 60 by decide, show (99 : Int32).toInt = 99 by decide, show (100 : Int32).toInt = 100 by decide, show (999 : Int32).toInt = 999 by decide, show (9999 : Int32).toInt = 9999 by decide, show (99999 : Int32).toInt = 99999 by decide, show (999999 : Int32).toInt = 999999 by decide, show (9999999 : Int32).toInt = 9999999 by decide, show (-50 : Int32).toInt = -50 by decide, show (32 : Int32).toInt = 32 by decide] at *); (repeat first | rw [if_pos (by omega)] at hz | rw [if_neg (by omega)] at hz); subst hz; rfl
      · generalize hz : opShape d len c w v = z; unfold opShape at hz; (try simp only [ i_eq, i_lt, i_le, show (-1 : Int32).toInt = -1 by decide, show (0 : Int32).toInt = 0 by decide, show (1 : Int32).toInt = 1 by decide, show (2 : Int32).toInt = 2 by decide, show (3 : Int32).toInt = 3 by decide, show (4 : Int32).toInt = 4 by decide, show (5 : Int32).toInt = 5 by decide, show (6 : Int32).toInt = 6 by decide, show (7 : Int32).toInt = 7 by decide, show (8 : Int32).toInt = 8 by decide, show (9 : Int32).toInt = 9 by decide, show (10 : Int32).toInt = 10 by decide, show (11 : Int32).toInt = 11 by decide, show (12 : Int32).toInt = 12 by decide, show (13 : Int32).toInt = 13 by decide, show (14 : Int32).toInt = 14 by decide, show (15 : Int32).toInt = 15 by decide, show (16 : Int32).toInt = 16 by decide, show (20 : Int32).toInt = 20 by decide, show (39 : Int32).toInt = 39 by decide, show (40 : Int32).toInt = 40 by decide, show (50 : Int32).toInt = 50 by decide, show (60 : Int32).toInt = 60 by decide, show (99 : Int32).toInt = 99 by decide, show (100 : Int32).toInt = 100 by decide, show (999 : Int32).toInt = 999 by decide, show (9999 : Int32).toInt = 9999 by decide, show (99999 : Int32).toInt = 99999 by decide, show (999999 : Int32).toInt = 999999 by decide, show (9999999 : Int32).toInt = 9999999 by decide, show (-50 : Int32).toInt = -50 by decide, show (32 : Int32).toInt = 32 by decide] at *); (repeat first | rw [if_pos (by omega)] at hz | rw [if_neg (by omega)] at hz); subst hz; unfold dShape; (try simp only [ i_eq]); (repeat first | rw [if_pos (by omega)] | rw [if_neg (by omega)]); rw [ze22]; (first | rfl | (funext zz; simp only [va_up, bump, ↓reduceIte]; (repeat' split) <;> first | rfl | (exfalso; omega) | (simp_all; done)))
      · rfl
    · replace zc20 := b2i_t zc20
      refine z_iload_n X 3 dX12_shape_18 rfl ?_
      refine z_i2l X dX12_shape_19 rfl ?_
      refine z_lconst (v := 0) X dX12_shape_20 (by decide) ?_
      refine z_iload_n X 2 dX12_shape_21 rfl ?_
      refine z_if_ne X 31 dX12_shape_22 (by decide) (fun zc29 => ?_) (fun zc29 => ?_)
      · refine z_ldc2 X dX12_shape_31 wd_1031 ?_
        refine z_callS X (r_in (κ := κ) (n := n) (v := (v.toInt64)) (lo := (0 : Int64)) (hi := (999999 : Int64))  ) mk_X12_in dX12_shape_34 wd_1014 wd_1015 rfl rfl (Nat.le_of_ble_eq_true rfl) (Nat.le_of_ble_eq_true rfl) (Nat.le_of_ble_eq_true rfl) (by omega) (by omega) (fun q zh30 zm32 zp33 => ?_)
        obtain ⟨rfl, ze31, zn34⟩ := zp33
        subst zm32
        subst zh30
        refine z_st (st' := [.int (b2i ((0 : Int64).toInt ≤ (v.toInt64 : Int64).toInt ∧ (v.toInt64 : Int64).toInt ≤ (999999 : Int64).toInt))]) rfl ?_
        refine z_toe (y := b2i (0 ≤ v.toInt ∧ v.toInt ≤ 999999)) (by simp only [Int32.toInt_toInt64, show (0 : Int64).toInt = 0 by decide, show (999999 : Int64).toInt = 999999 by decide]) ?_
        refine z_if_ne X 46 dX12_shape_37 (by decide) (fun zc35 => ?_) (fun zc35 => ?_)
        · replace zc35 := b2i_t zc35
          obtain ⟨ck, hck, rfl⟩ := ix_of (c := c) (len := len) (by omega) (by omega)
          refine z_iload_n X 2 dX12_shape_46 rfl ?_
          refine z_if_ne X 55 dX12_shape_47 (by decide) (fun zc36 => ?_) (fun zc36 => ?_)
          · refine z_sipush (v := 140) X dX12_shape_55 (by decide) ?_
            refine z_iload_n X 1 dX12_shape_58 rfl ?_
            refine z_iadd X dX12_shape_59 ?_
            refine z_toe (y := nI (140 + ck)) (nI_add (140) (ck)) ?_
            refine z_istore (ls' := [(4, .int (nI (140 + ck))), (0, .ref o), (1, .int (nI ck)), (2, .int w), (3, .int v)]) X dX12_shape_60 (by decide) rfl ?_
            refine z_aload_n X 1 dX12_shape_62 rfl ?_
            refine z_get X fl_X12_7_12 dX12_shape_63 K0 rfl ?_
            refine z_iload X 0 dX12_shape_66 rfl ?_
            refine z_iald2 (v := d (140 + ck)) X dX12_shape_68 K2 (vp_in_nI (n := 140 + ck) (by omega) (by omega)) (congrArg d (nI_clamp (n := 140 + ck) (by omega))) ?_
            refine z_istore (ls' := [(5, .int (d (140 + ck))), (4, .int (nI (140 + ck))), (0, .ref o), (1, .int (nI ck)), (2, .int w), (3, .int v)]) X dX12_shape_69 (by decide) rfl ?_
            refine z_aload_n X 2 dX12_shape_71 rfl ?_
            refine z_get X fl_X12_7_12 dX12_shape_72 K0 rfl ?_
            refine z_iload X 1 dX12_shape_75 rfl ?_
            refine z_iload_n X 5 dX12_shape_77 rfl ?_
            refine z_iast X dX12_shape_78 K2 (vp_in_nI (n := 140 + ck) (by omega) (by omega)) (congrArg (fun z => va_up h (o + 1) (arI κ 340 (upd d z v))) (nI_clamp (n := 140 + ck) (by omega))) ?_
            obtain ⟨zh37, ze38⟩ : ∃ z : Mm, z = va_up h (o + 1) (arI κ 340 (upd d (140 + ck) v)) := ⟨_, rfl⟩
            refine z_heap (h' := zh37) ze38.symm ?_
            have zK39 := up_off ze38 (show o ≠ o + 1 by omega) K0
            have zK40 := up_off ze38 (show o + 4 ≠ o + 1 by omega) K1
            have zK41 := up_at ze38
            refine z_iload X 0 dX12_shape_79 rfl ?_
            refine z_iret X E dX12_shape_81 (by omega) (by omega) ⟨?_, ?_, ?_⟩
            · generalize hz : opShape d len (nI ck) w v = z; unfold opShape at hz; (try simp only [i_nI (n := ck) (by omega), nI_clamp (n := ck) (by omega),  i_eq, i_lt, i_le, show (-1 : Int32).toInt = -1 by decide, show (0 : Int32).toInt = 0 by decide, show (1 : Int32).toInt = 1 by decide, show (2 : Int32).toInt = 2 by decide, show (3 : Int32).toInt = 3 by decide, show (4 : Int32).toInt = 4 by decide, show (5 : Int32).toInt = 5 by decide, show (6 : Int32).toInt = 6 by decide, show (7 : Int32).toInt = 7 by decide, show (8 : Int32).toInt = 8 by decide, show (9 : Int32).toInt = 9 by decide, show (10 : Int32).toInt = 10 by decide, show (11 : Int32).toInt = 11 by decide, show (12 : Int32).toInt = 12 by decide, show (13 : Int32).toInt = 13 by decide, show (14 : Int32).toInt = 14 by decide, show (15 : Int32).toInt = 15 by decide, show (16 : Int32).toInt = 16 by decide, show (20 : Int32).toInt = 20 by decide, show (39 : Int32).toInt = 39 by decide, show (40 : Int32).toInt = 40 by decide, show (50 : Int32).toInt = 50 by decide, show (60 : Int32).toInt = 60 by decide, show (99 : Int32).toInt = 99 by decide, show (100 : Int32).toInt = 100 by decide, show (999 : Int32).toInt = 999 by decide, show (9999 : Int32).toInt = 9999 by decide, show (99999 : Int32).toInt = 99999 by decide, show (999999 : Int32).toInt = 999999 by decide, show (9999999 : Int32).toInt = 9999999 by decide, show (-50 : Int32).toInt = -50 by decide, show (32 : Int32).toInt = 32 by decide] at *); (repeat first | rw [if_pos (by omega)] at hz | rw [if_neg (by omega)] at hz); subst hz; rfl
            · generalize hz : opShape d len (nI ck) w v = z; unfold opShape at hz; (try simp only [i_nI (n := ck) (by omega), nI_clamp (n := ck) (by omega),  i_eq, i_lt, i_le, show (-1 : Int32).toInt = -1 by decide, show (0 : Int32).toInt = 0 by decide, show (1 : Int32).toInt = 1 by decide, show (2 : Int32).toInt = 2 by decide, show (3 : Int32).toInt = 3 by decide, show (4 : Int32).toInt = 4 by decide, show (5 : Int32).toInt = 5 by decide, show (6 : Int32).toInt = 6 by decide, show (7 : Int32).toInt = 7 by decide, show (8 : Int32).toInt = 8 by decide, show (9 : Int32).toInt = 9 by decide, show (10 : Int32).toInt = 10 by decide, show (11 : Int32).toInt = 11 by decide, show (12 : Int32).toInt = 12 by decide, show (13 : Int32).toInt = 13 by decide, show (14 : Int32).toInt = 14 by decide, show (15 : Int32).toInt = 15 by decide, show (16 : Int32).toInt = 16 by decide, show (20 : Int32).toInt = 20 by decide, show (39 : Int32).toInt = 39 by decide, show (40 : Int32).toInt = 40 by decide, show (50 : Int32).toInt = 50 by decide, show (60 : Int32).toInt = 60 by decide, show (99 : Int32).toInt = 99 by decide, show (100 : Int32).toInt = 100 by decide, show (999 : Int32).toInt = 999 by decide, show (9999 : Int32).toInt = 9999 by decide, show (99999 : Int32).toInt = 99999 by decide, show (999999 : Int32).toInt = 999999 by decide, show (9999999 : Int32).toInt = 9999999 by decide, show (-50 : Int32).toInt = -50 by decide, show (32 : Int32).toInt = 32 by decide] at *); (repeat first | rw [if_pos (by omega)] at hz | rw [if_neg (by omega)] at hz); subst hz; unfold dShape; (try simp only [i_nI (n := ck) (by omega), nI_clamp (n := ck) (by omega),  i_eq]); (repeat first | rw [if_pos (by omega)] | rw [if_neg (by omega)]); rw [ze38]; (first | rfl | (funext zz; simp only [va_up, bump, ↓reduceIte]; (repeat' split) <;> first | rfl | (exfalso; omega) | (simp_all; done)))
            · rfl
          · first | exact absurd zc36 zc29 | exact absurd zc29 zc36 | (exfalso; omega) | (exfalso; simp only [i_eq, i_lt, i_le] at *; omega)
        · replace zc35 := b2i_f zc35
          refine z_aload_n X 0 dX12_shape_40 rfl ?_
          refine z_iconst (v := 1) X dX12_shape_41 (by decide) ?_
          refine z_callV X (r_finds (κ := κ) (n := n) (o := (o)) (k := (1)) (fo := (fo)) (im := (im)) (ba := (ba)) (at_ := (at_)) (sz := (sz)) (fa := (fa)) (op := (op)) (rm := (rm)) (ti := (ti)) (tm := (tm)) (wh := (wh)) K0 K1 (by first | assumption | omega) (by first | assumption | omega)) mk_X12_finds dX12_shape_42 wd_1018 wd_1020 wd_24 rfl K0 rfl rfl rfl (Nat.le_of_ble_eq_true rfl) (Nat.le_of_ble_eq_true rfl) (Nat.le_of_ble_eq_true rfl) (by omega) (by omega) (fun q zh42 zm44 zp45 => ?_)
          obtain ⟨rfl, ze43, zn46⟩ := zp45
          subst zm44
          refine z_st (st' := [.int (lowE 1)]) rfl ?_
          have zK47 : zh42 o = some (.inr (12, [.ref (o + 1), .ref (o + 2), .ref (o + 3), .int im, .ref (o + 4), .int ba, .int at_, .int sz, .int fa, .int op, .ref (o + 5), .ref (o + 6), .int rm, .ref (o + 7), .ref (o + 8), .int ti, .ref (o + 9), .int tm, .int wh, .ref (o + 10), .ref (o + 11), .ref (o + 12), .ref (o + 13)])) := by rw [ze43]; rw [va_up_ne _ _ (show o ≠ o + 4 by omega)]; exact K0
          have zK48 : zh42 (o + 4) = arI κ 6 (bmp fo 1) := by rw [ze43]; exact va_up_self _ _ _
          have zK49 : zh42 (o + 1) = arI κ 340 d := by rw [ze43]; rw [va_up_ne _ _ (show o + 1 ≠ o + 4 by omega)]; exact K2
          refine z_iret X E dX12_shape_45 (by omega) (by omega) ⟨?_, ?_, ?_⟩
          · generalize hz : opShape d len c w v = z; unfold opShape at hz; (try simp only [ i_eq, i_lt, i_le, show (-1 : Int32).toInt = -1 by decide, show (0 : Int32).toInt = 0 by decide, show (1 : Int32).toInt = 1 by decide, show (2 : Int32).toInt = 2 by decide, show (3 : Int32).toInt = 3 by decide, show (4 : Int32).toInt = 4 by decide, show (5 : Int32).toInt = 5 by decide, show (6 : Int32).toInt = 6 by decide, show (7 : Int32).toInt = 7 by decide, show (8 : Int32).toInt = 8 by decide, show (9 : Int32).toInt = 9 by decide, show (10 : Int32).toInt = 10 by decide, show (11 : Int32).toInt = 11 by decide, show (12 : Int32).toInt = 12 by decide, show (13 : Int32).toInt = 13 by decide, show (14 : Int32).toInt = 14 by decide, show (15 : Int32).toInt = 15 by decide, show (16 : Int32).toInt = 16 by decide, show (20 : Int32).toInt = 20 by decide, show (39 : Int32).toInt = 39 by decide, show (40 : Int32).toInt = 40 by decide, show (50 : Int32).toInt = 50 by decide, show (60 : Int32).toInt = 60 by decide, show (99 : Int32).toInt = 99 by decide, show (100 : Int32).toInt = 100 by decide, show (999 : Int32).toInt = 999 by decide, show (9999 : Int32).toInt = 9999 by decide, show (99999 : Int32).toInt = 99999 by decide, show (999999 : Int32).toInt = 999999 by decide, show (9999999 : Int32).toInt = 9999999 by decide, show (-50 : Int32).toInt = -50 by decide, show (32 : Int32).toInt = 32 by decide] at *); (repeat first | rw [if_pos (by omega)] at hz | rw [if_neg (by omega)] at hz); subst hz; rfl
          · generalize hz : opShape d len c w v = z; unfold opShape at hz; (try simp only [ i_eq, i_lt, i_le, show (-1 : Int32).toInt = -1 by decide, show (0 : Int32).toInt = 0 by decide, show (1 : Int32).toInt = 1 by decide, show (2 : Int32).toInt = 2 by decide, show (3 : Int32).toInt = 3 by decide, show (4 : Int32).toInt = 4 by decide, show (5 : Int32).toInt = 5 by decide, show (6 : Int32).toInt = 6 by decide, show (7 : Int32).toInt = 7 by decide, show (8 : Int32).toInt = 8 by decide, show (9 : Int32).toInt = 9 by decide, show (10 : Int32).toInt = 10 by decide, show (11 : Int32).toInt = 11 by decide, show (12 : Int32).toInt = 12 by decide, show (13 : Int32).toInt = 13 by decide, show (14 : Int32).toInt = 14 by decide, show (15 : Int32).toInt = 15 by decide, show (16 : Int32).toInt = 16 by decide, show (20 : Int32).toInt = 20 by decide, show (39 : Int32).toInt = 39 by decide, show (40 : Int32).toInt = 40 by decide, show (50 : Int32).toInt = 50 by decide, show (60 : Int32).toInt = 60 by decide, show (99 : Int32).toInt = 99 by decide, show (100 : Int32).toInt = 100 by decide, show (999 : Int32).toInt = 999 by decide, show (9999 : Int32).toInt = 9999 by decide, show (99999 : Int32).toInt = 99999 by decide, show (999999 : Int32).toInt = 999999 by decide, show (9999999 : Int32).toInt = 9999999 by decide, show (-50 : Int32).toInt = -50 by decide, show (32 : Int32).toInt = 32 by decide] at *); (repeat first | rw [if_pos (by omega)] at hz | rw [if_neg (by omega)] at hz); subst hz; unfold dShape; (try simp only [ i_eq]); (repeat first | rw [if_pos (by omega)] | rw [if_neg (by omega)]); rw [ze43]; (first | rfl | (funext zz; simp only [va_up, bump, ↓reduceIte]; (repeat' split) <;> first | rfl | (exfalso; omega) | (simp_all; done)))
          · rfl
      · refine z_ldc2 X dX12_shape_25 wd_1030 ?_
        refine z_goto X 34 dX12_shape_28 (by decide) ?_
        refine z_callS X (r_in (κ := κ) (n := n) (v := (v.toInt64)) (lo := (0 : Int64)) (hi := (99999 : Int64))  ) mk_X12_in dX12_shape_34 wd_1014 wd_1015 rfl rfl (Nat.le_of_ble_eq_true rfl) (Nat.le_of_ble_eq_true rfl) (Nat.le_of_ble_eq_true rfl) (by omega) (by omega) (fun q zh50 zm52 zp53 => ?_)
        obtain ⟨rfl, ze51, zn54⟩ := zp53
        subst zm52
        subst zh50
        refine z_st (st' := [.int (b2i ((0 : Int64).toInt ≤ (v.toInt64 : Int64).toInt ∧ (v.toInt64 : Int64).toInt ≤ (99999 : Int64).toInt))]) rfl ?_
        refine z_toe (y := b2i (0 ≤ v.toInt ∧ v.toInt ≤ 99999)) (by simp only [Int32.toInt_toInt64, show (0 : Int64).toInt = 0 by decide, show (99999 : Int64).toInt = 99999 by decide]) ?_
        refine z_if_ne X 46 dX12_shape_37 (by decide) (fun zc55 => ?_) (fun zc55 => ?_)
        · replace zc55 := b2i_t zc55
          obtain ⟨ck, hck, rfl⟩ := ix_of (c := c) (len := len) (by omega) (by omega)
          refine z_iload_n X 2 dX12_shape_46 rfl ?_
          refine z_if_ne X 55 dX12_shape_47 (by decide) (fun zc56 => ?_) (fun zc56 => ?_)
          · first | exact absurd zc56 zc29 | exact absurd zc29 zc56 | (exfalso; omega) | (exfalso; simp only [i_eq, i_lt, i_le] at *; omega)
          · refine z_bipush (v := 100) X dX12_shape_50 (by decide) ?_
            refine z_goto X 58 dX12_shape_52 (by decide) ?_
            refine z_iload_n X 1 dX12_shape_58 rfl ?_
            refine z_iadd X dX12_shape_59 ?_
            refine z_toe (y := nI (100 + ck)) (nI_add (100) (ck)) ?_
            refine z_istore (ls' := [(4, .int (nI (100 + ck))), (0, .ref o), (1, .int (nI ck)), (2, .int w), (3, .int v)]) X dX12_shape_60 (by decide) rfl ?_
            refine z_aload_n X 1 dX12_shape_62 rfl ?_
            refine z_get X fl_X12_7_12 dX12_shape_63 K0 rfl ?_
            refine z_iload X 0 dX12_shape_66 rfl ?_
            refine z_iald2 (v := d (100 + ck)) X dX12_shape_68 K2 (vp_in_nI (n := 100 + ck) (by omega) (by omega)) (congrArg d (nI_clamp (n := 100 + ck) (by omega))) ?_
            refine z_istore (ls' := [(5, .int (d (100 + ck))), (4, .int (nI (100 + ck))), (0, .ref o), (1, .int (nI ck)), (2, .int w), (3, .int v)]) X dX12_shape_69 (by decide) rfl ?_
            refine z_aload_n X 2 dX12_shape_71 rfl ?_
            refine z_get X fl_X12_7_12 dX12_shape_72 K0 rfl ?_
            refine z_iload X 1 dX12_shape_75 rfl ?_
            refine z_iload_n X 5 dX12_shape_77 rfl ?_
            refine z_iast X dX12_shape_78 K2 (vp_in_nI (n := 100 + ck) (by omega) (by omega)) (congrArg (fun z => va_up h (o + 1) (arI κ 340 (upd d z v))) (nI_clamp (n := 100 + ck) (by omega))) ?_
            obtain ⟨zh57, ze58⟩ : ∃ z : Mm, z = va_up h (o + 1) (arI κ 340 (upd d (100 + ck) v)) := ⟨_, rfl⟩
            refine z_heap (h' := zh57) ze58.symm ?_
            have zK59 := up_off ze58 (show o ≠ o + 1 by omega) K0
            have zK60 := up_off ze58 (show o + 4 ≠ o + 1 by omega) K1
            have zK61 := up_at ze58
            refine z_iload X 0 dX12_shape_79 rfl ?_
            refine z_iret X E dX12_shape_81 (by omega) (by omega) ⟨?_, ?_, ?_⟩
            · generalize hz : opShape d len (nI ck) w v = z; unfold opShape at hz; (try simp only [i_nI (n := ck) (by omega), nI_clamp (n := ck) (by omega),  i_eq, i_lt, i_le, show (-1 : Int32).toInt = -1 by decide, show (0 : Int32).toInt = 0 by decide, show (1 : Int32).toInt = 1 by decide, show (2 : Int32).toInt = 2 by decide, show (3 : Int32).toInt = 3 by decide, show (4 : Int32).toInt = 4 by decide, show (5 : Int32).toInt = 5 by decide, show (6 : Int32).toInt = 6 by decide, show (7 : Int32).toInt = 7 by decide, show (8 : Int32).toInt = 8 by decide, show (9 : Int32).toInt = 9 by decide, show (10 : Int32).toInt = 10 by decide, show (11 : Int32).toInt = 11 by decide, show (12 : Int32).toInt = 12 by decide, show (13 : Int32).toInt = 13 by decide, show (14 : Int32).toInt = 14 by decide, show (15 : Int32).toInt = 15 by decide, show (16 : Int32).toInt = 16 by decide, show (20 : Int32).toInt = 20 by decide, show (39 : Int32).toInt = 39 by decide, show (40 : Int32).toInt = 40 by decide, show (50 : Int32).toInt = 50 by decide, show (60 : Int32).toInt = 60 by decide, show (99 : Int32).toInt = 99 by decide, show (100 : Int32).toInt = 100 by decide, show (999 : Int32).toInt = 999 by decide, show (9999 : Int32).toInt = 9999 by decide, show (99999 : Int32).toInt = 99999 by decide, show (999999 : Int32).toInt = 999999 by decide, show (9999999 : Int32).toInt = 9999999 by decide, show (-50 : Int32).toInt = -50 by decide, show (32 : Int32).toInt = 32 by decide] at *); (repeat first | rw [if_pos (by omega)] at hz | rw [if_neg (by omega)] at hz); subst hz; rfl
            · generalize hz : opShape d len (nI ck) w v = z; unfold opShape at hz; (try simp only [i_nI (n := ck) (by omega), nI_clamp (n := ck) (by omega),  i_eq, i_lt, i_le, show (-1 : Int32).toInt = -1 by decide, show (0 : Int32).toInt = 0 by decide, show (1 : Int32).toInt = 1 by decide, show (2 : Int32).toInt = 2 by decide, show (3 : Int32).toInt = 3 by decide, show (4 : Int32).toInt = 4 by decide, show (5 : Int32).toInt = 5 by decide, show (6 : Int32).toInt = 6 by decide, show (7 : Int32).toInt = 7 by decide, show (8 : Int32).toInt = 8 by decide, show (9 : Int32).toInt = 9 by decide, show (10 : Int32).toInt = 10 by decide, show (11 : Int32).toInt = 11 by decide, show (12 : Int32).toInt = 12 by decide, show (13 : Int32).toInt = 13 by decide, show (14 : Int32).toInt = 14 by decide, show (15 : Int32).toInt = 15 by decide, show (16 : Int32).toInt = 16 by decide, show (20 : Int32).toInt = 20 by decide, show (39 : Int32).toInt = 39 by decide, show (40 : Int32).toInt = 40 by decide, show (50 : Int32).toInt = 50 by decide, show (60 : Int32).toInt = 60 by decide, show (99 : Int32).toInt = 99 by decide, show (100 : Int32).toInt = 100 by decide, show (999 : Int32).toInt = 999 by decide, show (9999 : Int32).toInt = 9999 by decide, show (99999 : Int32).toInt = 99999 by decide, show (999999 : Int32).toInt = 999999 by decide, show (9999999 : Int32).toInt = 9999999 by decide, show (-50 : Int32).toInt = -50 by decide, show (32 : Int32).toInt = 32 by decide] at *); (repeat first | rw [if_pos (by omega)] at hz | rw [if_neg (by omega)] at hz); subst hz; unfold dShape; (try simp only [i_nI (n := ck) (by omega), nI_clamp (n := ck) (by omega),  i_eq]); (repeat first | rw [if_pos (by omega)] | rw [if_neg (by omega)]); rw [ze58]; (first | rfl | (funext zz; simp only [va_up, bump, ↓reduceIte]; (repeat' split) <;> first | rfl | (exfalso; omega) | (simp_all; done)))
            · rfl
        · replace zc55 := b2i_f zc55
          refine z_aload_n X 0 dX12_shape_40 rfl ?_
          refine z_iconst (v := 1) X dX12_shape_41 (by decide) ?_
          refine z_callV X (r_finds (κ := κ) (n := n) (o := (o)) (k := (1)) (fo := (fo)) (im := (im)) (ba := (ba)) (at_ := (at_)) (sz := (sz)) (fa := (fa)) (op := (op)) (rm := (rm)) (ti := (ti)) (tm := (tm)) (wh := (wh)) K0 K1 (by first | assumption | omega) (by first | assumption | omega)) mk_X12_finds dX12_shape_42 wd_1018 wd_1020 wd_24 rfl K0 rfl rfl rfl (Nat.le_of_ble_eq_true rfl) (Nat.le_of_ble_eq_true rfl) (Nat.le_of_ble_eq_true rfl) (by omega) (by omega) (fun q zh62 zm64 zp65 => ?_)
          obtain ⟨rfl, ze63, zn66⟩ := zp65
          subst zm64
          refine z_st (st' := [.int (lowE 1)]) rfl ?_
          have zK67 : zh62 o = some (.inr (12, [.ref (o + 1), .ref (o + 2), .ref (o + 3), .int im, .ref (o + 4), .int ba, .int at_, .int sz, .int fa, .int op, .ref (o + 5), .ref (o + 6), .int rm, .ref (o + 7), .ref (o + 8), .int ti, .ref (o + 9), .int tm, .int wh, .ref (o + 10), .ref (o + 11), .ref (o + 12), .ref (o + 13)])) := by rw [ze63]; rw [va_up_ne _ _ (show o ≠ o + 4 by omega)]; exact K0
          have zK68 : zh62 (o + 4) = arI κ 6 (bmp fo 1) := by rw [ze63]; exact va_up_self _ _ _
          have zK69 : zh62 (o + 1) = arI κ 340 d := by rw [ze63]; rw [va_up_ne _ _ (show o + 1 ≠ o + 4 by omega)]; exact K2
          refine z_iret X E dX12_shape_45 (by omega) (by omega) ⟨?_, ?_, ?_⟩
          · generalize hz : opShape d len c w v = z; unfold opShape at hz; (try simp only [ i_eq, i_lt, i_le, show (-1 : Int32).toInt = -1 by decide, show (0 : Int32).toInt = 0 by decide, show (1 : Int32).toInt = 1 by decide, show (2 : Int32).toInt = 2 by decide, show (3 : Int32).toInt = 3 by decide, show (4 : Int32).toInt = 4 by decide, show (5 : Int32).toInt = 5 by decide, show (6 : Int32).toInt = 6 by decide, show (7 : Int32).toInt = 7 by decide, show (8 : Int32).toInt = 8 by decide, show (9 : Int32).toInt = 9 by decide, show (10 : Int32).toInt = 10 by decide, show (11 : Int32).toInt = 11 by decide, show (12 : Int32).toInt = 12 by decide, show (13 : Int32).toInt = 13 by decide, show (14 : Int32).toInt = 14 by decide, show (15 : Int32).toInt = 15 by decide, show (16 : Int32).toInt = 16 by decide, show (20 : Int32).toInt = 20 by decide, show (39 : Int32).toInt = 39 by decide, show (40 : Int32).toInt = 40 by decide, show (50 : Int32).toInt = 50 by decide, show (60 : Int32).toInt = 60 by decide, show (99 : Int32).toInt = 99 by decide, show (100 : Int32).toInt = 100 by decide, show (999 : Int32).toInt = 999 by decide, show (9999 : Int32).toInt = 9999 by decide, show (99999 : Int32).toInt = 99999 by decide, show (999999 : Int32).toInt = 999999 by decide, show (9999999 : Int32).toInt = 9999999 by decide, show (-50 : Int32).toInt = -50 by decide, show (32 : Int32).toInt = 32 by decide] at *); (repeat first | rw [if_pos (by omega)] at hz | rw [if_neg (by omega)] at hz); subst hz; rfl
          · generalize hz : opShape d len c w v = z; unfold opShape at hz; (try simp only [ i_eq, i_lt, i_le, show (-1 : Int32).toInt = -1 by decide, show (0 : Int32).toInt = 0 by decide, show (1 : Int32).toInt = 1 by decide, show (2 : Int32).toInt = 2 by decide, show (3 : Int32).toInt = 3 by decide, show (4 : Int32).toInt = 4 by decide, show (5 : Int32).toInt = 5 by decide, show (6 : Int32).toInt = 6 by decide, show (7 : Int32).toInt = 7 by decide, show (8 : Int32).toInt = 8 by decide, show (9 : Int32).toInt = 9 by decide, show (10 : Int32).toInt = 10 by decide, show (11 : Int32).toInt = 11 by decide, show (12 : Int32).toInt = 12 by decide, show (13 : Int32).toInt = 13 by decide, show (14 : Int32).toInt = 14 by decide, show (15 : Int32).toInt = 15 by decide, show (16 : Int32).toInt = 16 by decide, show (20 : Int32).toInt = 20 by decide, show (39 : Int32).toInt = 39 by decide, show (40 : Int32).toInt = 40 by decide, show (50 : Int32).toInt = 50 by decide, show (60 : Int32).toInt = 60 by decide, show (99 : Int32).toInt = 99 by decide, show (100 : Int32).toInt = 100 by decide, show (999 : Int32).toInt = 999 by decide, show (9999 : Int32).toInt = 9999 by decide, show (99999 : Int32).toInt = 99999 by decide, show (999999 : Int32).toInt = 999999 by decide, show (9999999 : Int32).toInt = 9999999 by decide, show (-50 : Int32).toInt = -50 by decide, show (32 : Int32).toInt = 32 by decide] at *); (repeat first | rw [if_pos (by omega)] at hz | rw [if_neg (by omega)] at hz); subst hz; unfold dShape; (try simp only [ i_eq]); (repeat first | rw [if_pos (by omega)] | rw [if_neg (by omega)]); rw [ze63]; (first | rfl | (funext zz; simp only [va_up, bump, ↓reduceIte]; (repeat' split) <;> first | rfl | (exfalso; omega) | (simp_all; done)))
          · rfl
abbrev mayB (w v : Int32) : Prop := (w.toInt = 0 ∧ 0 ≤ v.toInt ∧ v.toInt ≤ 9999) ∨ ((w.toInt = 1 ∨ w.toInt = 3) ∧ 0 ≤ v.toInt ∧ v.toInt ≤ 99) ∨ (w.toInt = 2 ∧ -50 ≤ v.toInt ∧ v.toInt ≤ 99) ∨ (w.toInt = 4 ∧ 1 ≤ v.toInt ∧ v.toInt ≤ 999) ∨ (w.toInt = 5 ∧ 0 ≤ v.toInt ∧ v.toInt ≤ 9999999)
set_option maxHeartbeats 4000000 in
set_option maxRecDepth 100000 in
theorem r_mayBe {κ : Wc} {l : Launch} {h : Mm} {n : Nat} {w : Int32} {v : Int32}   : Con κ l yX12_mayBe cX12_mayBe 2 (some .boolean) 2 0 0 [.int w, .int v] h n (fun q h' n' => q = some (.int (b2i (mayB w v))) ∧ h' = h ∧ n' = n) := by
  refine Con.of mk_X12_mayBe (Nat.le_of_ble_eq_true rfl) (fun G hG X E => ?_)
  subst hG
  refine z_ls (ls' := [(0, .int w), (1, .int v)]) rfl ?_
  refine z_iload_n X 0 dX12_mayBe_0 rfl ?_
  by_cases zc1 : w = 0
  · refine z_tableIn (off := 39) X 40 dX12_mayBe_1 (by rw [zc1]; decide) (by rw [zc1]; decide) (by rw [zc1]; decide) (by decide) ?_
    refine z_iload_n X 1 dX12_mayBe_40 rfl ?_
    refine z_i2l X dX12_mayBe_41 rfl ?_
    refine z_lconst (v := 0) X dX12_mayBe_42 (by decide) ?_
    refine z_ldc2 X dX12_mayBe_43 wd_1047 ?_
    refine z_callS X (r_in (κ := κ) (n := n) (v := (v.toInt64)) (lo := (0 : Int64)) (hi := (9999 : Int64))  ) mk_X12_in dX12_mayBe_46 wd_1014 wd_1015 rfl rfl (Nat.le_of_ble_eq_true rfl) (Nat.le_of_ble_eq_true rfl) (Nat.le_of_ble_eq_true rfl) (by omega) (by omega) (fun q zh2 zm4 zp5 => ?_)
    obtain ⟨rfl, ze3, zn6⟩ := zp5
    subst zm4
    subst zh2
    refine z_st (st' := [.int (b2i ((0 : Int64).toInt ≤ (v.toInt64 : Int64).toInt ∧ (v.toInt64 : Int64).toInt ≤ (9999 : Int64).toInt))]) rfl ?_
    refine z_toe (y := b2i (0 ≤ v.toInt ∧ v.toInt ≤ 9999)) (by simp only [Int32.toInt_toInt64, show (0 : Int64).toInt = 0 by decide, show (9999 : Int64).toInt = 9999 by decide]) ?_
    refine z_zret X E dX12_mayBe_49 (by first | rfl | exact b2i_nar _) (by omega) (by omega) ⟨?_, ?_, ?_⟩
    · (try simp only [ i_eq, i_lt, i_le, show (-1 : Int32).toInt = -1 by decide, show (0 : Int32).toInt = 0 by decide, show (1 : Int32).toInt = 1 by decide, show (2 : Int32).toInt = 2 by decide, show (3 : Int32).toInt = 3 by decide, show (4 : Int32).toInt = 4 by decide, show (5 : Int32).toInt = 5 by decide, show (6 : Int32).toInt = 6 by decide, show (7 : Int32).toInt = 7 by decide, show (8 : Int32).toInt = 8 by decide, show (9 : Int32).toInt = 9 by decide, show (10 : Int32).toInt = 10 by decide, show (11 : Int32).toInt = 11 by decide, show (12 : Int32).toInt = 12 by decide, show (13 : Int32).toInt = 13 by decide, show (14 : Int32).toInt = 14 by decide, show (15 : Int32).toInt = 15 by decide, show (16 : Int32).toInt = 16 by decide, show (20 : Int32).toInt = 20 by decide, show (39 : Int32).toInt = 39 by decide, show (40 : Int32).toInt = 40 by decide, show (50 : Int32).toInt = 50 by decide, show (60 : Int32).toInt = 60 by decide, show (99 : Int32).toInt = 99 by decide, show (100 : Int32).toInt = 100 by decide, show (999 : Int32).toInt = 999 by decide, show (9999 : Int32).toInt = 9999 by decide, show (99999 : Int32).toInt = 99999 by decide, show (999999 : Int32).toInt = 999999 by decide, show (9999999 : Int32).toInt = 9999999 by decide, show (-50 : Int32).toInt = -50 by decide, show (32 : Int32).toInt = 32 by decide] at *); first | (refine congrArg (fun z => some (Value.int z)) (b2i_iff ?_); omega) | (refine congrArg (fun z => some (Value.int z)) (b2i_0 ?_).symm; omega)
    · first | rfl | (funext zz; simp only [va_up]; (repeat' split) <;> first | rfl | (exfalso; omega) | simp_all)
    · rfl
  by_cases zc7 : w = 1
  · refine z_tableIn (off := 49) X 50 dX12_mayBe_1 (by rw [zc7]; decide) (by rw [zc7]; decide) (by rw [zc7]; decide) (by decide) ?_
    refine z_iload_n X 1 dX12_mayBe_50 rfl ?_
    refine z_i2l X dX12_mayBe_51 rfl ?_
    refine z_lconst (v := 0) X dX12_mayBe_52 (by decide) ?_
    refine z_ldc2 X dX12_mayBe_53 wd_1048 ?_
    refine z_callS X (r_in (κ := κ) (n := n) (v := (v.toInt64)) (lo := (0 : Int64)) (hi := (99 : Int64))  ) mk_X12_in dX12_mayBe_56 wd_1014 wd_1015 rfl rfl (Nat.le_of_ble_eq_true rfl) (Nat.le_of_ble_eq_true rfl) (Nat.le_of_ble_eq_true rfl) (by omega) (by omega) (fun q zh8 zm10 zp11 => ?_)
    obtain ⟨rfl, ze9, zn12⟩ := zp11
    subst zm10
    subst zh8
    refine z_st (st' := [.int (b2i ((0 : Int64).toInt ≤ (v.toInt64 : Int64).toInt ∧ (v.toInt64 : Int64).toInt ≤ (99 : Int64).toInt))]) rfl ?_
    refine z_toe (y := b2i (0 ≤ v.toInt ∧ v.toInt ≤ 99)) (by simp only [Int32.toInt_toInt64, show (0 : Int64).toInt = 0 by decide, show (99 : Int64).toInt = 99 by decide]) ?_
    refine z_zret X E dX12_mayBe_59 (by first | rfl | exact b2i_nar _) (by omega) (by omega) ⟨?_, ?_, ?_⟩
    · (try simp only [ i_eq, i_lt, i_le, show (-1 : Int32).toInt = -1 by decide, show (0 : Int32).toInt = 0 by decide, show (1 : Int32).toInt = 1 by decide, show (2 : Int32).toInt = 2 by decide, show (3 : Int32).toInt = 3 by decide, show (4 : Int32).toInt = 4 by decide, show (5 : Int32).toInt = 5 by decide, show (6 : Int32).toInt = 6 by decide, show (7 : Int32).toInt = 7 by decide, show (8 : Int32).toInt = 8 by decide, show (9 : Int32).toInt = 9 by decide, show (10 : Int32).toInt = 10 by decide, show (11 : Int32).toInt = 11 by decide, show (12 : Int32).toInt = 12 by decide, show (13 : Int32).toInt = 13 by decide, show (14 : Int32).toInt = 14 by decide, show (15 : Int32).toInt = 15 by decide, show (16 : Int32).toInt = 16 by decide, show (20 : Int32).toInt = 20 by decide, show (39 : Int32).toInt = 39 by decide, show (40 : Int32).toInt = 40 by decide, show (50 : Int32).toInt = 50 by decide, show (60 : Int32).toInt = 60 by decide, show (99 : Int32).toInt = 99 by decide, show (100 : Int32).toInt = 100 by decide, show (999 : Int32).toInt = 999 by decide, show (9999 : Int32).toInt = 9999 by decide, show (99999 : Int32).toInt = 99999 by decide, show (999999 : Int32).toInt = 999999 by decide, show (9999999 : Int32).toInt = 9999999 by decide, show (-50 : Int32).toInt = -50 by decide, show (32 : Int32).toInt = 32 by decide] at *); first | (refine congrArg (fun z => some (Value.int z)) (b2i_iff ?_); omega) | (refine congrArg (fun z => some (Value.int z)) (b2i_0 ?_).symm; omega)
    · first | rfl | (funext zz; simp only [va_up]; (repeat' split) <;> first | rfl | (exfalso; omega) | simp_all)
    · rfl
  by_cases zc13 : w = 2
  · refine z_tableIn (off := 59) X 60 dX12_mayBe_1 (by rw [zc13]; decide) (by rw [zc13]; decide) (by rw [zc13]; decide) (by decide) ?_
    refine z_iload_n X 1 dX12_mayBe_60 rfl ?_
    refine z_i2l X dX12_mayBe_61 rfl ?_
    refine z_ldc2 X dX12_mayBe_62 wd_1049 ?_
    refine z_ldc2 X dX12_mayBe_65 wd_1048 ?_
    refine z_callS X (r_in (κ := κ) (n := n) (v := (v.toInt64)) (lo := (-50 : Int64)) (hi := (99 : Int64))  ) mk_X12_in dX12_mayBe_68 wd_1014 wd_1015 rfl rfl (Nat.le_of_ble_eq_true rfl) (Nat.le_of_ble_eq_true rfl) (Nat.le_of_ble_eq_true rfl) (by omega) (by omega) (fun q zh14 zm16 zp17 => ?_)
    obtain ⟨rfl, ze15, zn18⟩ := zp17
    subst zm16
    subst zh14
    refine z_st (st' := [.int (b2i ((-50 : Int64).toInt ≤ (v.toInt64 : Int64).toInt ∧ (v.toInt64 : Int64).toInt ≤ (99 : Int64).toInt))]) rfl ?_
    refine z_toe (y := b2i ((-50) ≤ v.toInt ∧ v.toInt ≤ 99)) (by simp only [Int32.toInt_toInt64, show (-50 : Int64).toInt = -50 by decide, show (99 : Int64).toInt = 99 by decide]) ?_
    refine z_zret X E dX12_mayBe_71 (by first | rfl | exact b2i_nar _) (by omega) (by omega) ⟨?_, ?_, ?_⟩
    · (try simp only [ i_eq, i_lt, i_le, show (-1 : Int32).toInt = -1 by decide, show (0 : Int32).toInt = 0 by decide, show (1 : Int32).toInt = 1 by decide, show (2 : Int32).toInt = 2 by decide, show (3 : Int32).toInt = 3 by decide, show (4 : Int32).toInt = 4 by decide, show (5 : Int32).toInt = 5 by decide, show (6 : Int32).toInt = 6 by decide, show (7 : Int32).toInt = 7 by decide, show (8 : Int32).toInt = 8 by decide, show (9 : Int32).toInt = 9 by decide, show (10 : Int32).toInt = 10 by decide, show (11 : Int32).toInt = 11 by decide, show (12 : Int32).toInt = 12 by decide, show (13 : Int32).toInt = 13 by decide, show (14 : Int32).toInt = 14 by decide, show (15 : Int32).toInt = 15 by decide, show (16 : Int32).toInt = 16 by decide, show (20 : Int32).toInt = 20 by decide, show (39 : Int32).toInt = 39 by decide, show (40 : Int32).toInt = 40 by decide, show (50 : Int32).toInt = 50 by decide, show (60 : Int32).toInt = 60 by decide, show (99 : Int32).toInt = 99 by decide, show (100 : Int32).toInt = 100 by decide, show (999 : Int32).toInt = 999 by decide, show (9999 : Int32).toInt = 9999 by decide, show (99999 : Int32).toInt = 99999 by decide, show (999999 : Int32).toInt = 999999 by decide, show (9999999 : Int32).toInt = 9999999 by decide, show (-50 : Int32).toInt = -50 by decide, show (32 : Int32).toInt = 32 by decide] at *); first | (refine congrArg (fun z => some (Value.int z)) (b2i_iff ?_); omega) | (refine congrArg (fun z => some (Value.int z)) (b2i_0 ?_).symm; omega)
    · first | rfl | (funext zz; simp only [va_up]; (repeat' split) <;> first | rfl | (exfalso; omega) | simp_all)
    · rfl
  by_cases zc19 : w = 3
  · refine z_tableIn (off := 49) X 50 dX12_mayBe_1 (by rw [zc19]; decide) (by rw [zc19]; decide) (by rw [zc19]; decide) (by decide) ?_
    refine z_iload_n X 1 dX12_mayBe_50 rfl ?_
    refine z_i2l X dX12_mayBe_51 rfl ?_
    refine z_lconst (v := 0) X dX12_mayBe_52 (by decide) ?_
    refine z_ldc2 X dX12_mayBe_53 wd_1048 ?_
    refine z_callS X (r_in (κ := κ) (n := n) (v := (v.toInt64)) (lo := (0 : Int64)) (hi := (99 : Int64))  ) mk_X12_in dX12_mayBe_56 wd_1014 wd_1015 rfl rfl (Nat.le_of_ble_eq_true rfl) (Nat.le_of_ble_eq_true rfl) (Nat.le_of_ble_eq_true rfl) (by omega) (by omega) (fun q zh20 zm22 zp23 => ?_)
    obtain ⟨rfl, ze21, zn24⟩ := zp23
    subst zm22
    subst zh20
    refine z_st (st' := [.int (b2i ((0 : Int64).toInt ≤ (v.toInt64 : Int64).toInt ∧ (v.toInt64 : Int64).toInt ≤ (99 : Int64).toInt))]) rfl ?_
    refine z_toe (y := b2i (0 ≤ v.toInt ∧ v.toInt ≤ 99)) (by simp only [Int32.toInt_toInt64, show (0 : Int64).toInt = 0 by decide, show (99 : Int64).toInt = 99 by decide]) ?_
    refine z_zret X E dX12_mayBe_59 (by first | rfl | exact b2i_nar _) (by omega) (by omega) ⟨?_, ?_, ?_⟩
    · (try simp only [ i_eq, i_lt, i_le, show (-1 : Int32).toInt = -1 by decide, show (0 : Int32).toInt = 0 by decide, show (1 : Int32).toInt = 1 by decide, show (2 : Int32).toInt = 2 by decide, show (3 : Int32).toInt = 3 by decide, show (4 : Int32).toInt = 4 by decide, show (5 : Int32).toInt = 5 by decide, show (6 : Int32).toInt = 6 by decide, show (7 : Int32).toInt = 7 by decide, show (8 : Int32).toInt = 8 by decide, show (9 : Int32).toInt = 9 by decide, show (10 : Int32).toInt = 10 by decide, show (11 : Int32).toInt = 11 by decide, show (12 : Int32).toInt = 12 by decide, show (13 : Int32).toInt = 13 by decide, show (14 : Int32).toInt = 14 by decide, show (15 : Int32).toInt = 15 by decide, show (16 : Int32).toInt = 16 by decide, show (20 : Int32).toInt = 20 by decide, show (39 : Int32).toInt = 39 by decide, show (40 : Int32).toInt = 40 by decide, show (50 : Int32).toInt = 50 by decide, show (60 : Int32).toInt = 60 by decide, show (99 : Int32).toInt = 99 by decide, show (100 : Int32).toInt = 100 by decide, show (999 : Int32).toInt = 999 by decide, show (9999 : Int32).toInt = 9999 by decide, show (99999 : Int32).toInt = 99999 by decide, show (999999 : Int32).toInt = 999999 by decide, show (9999999 : Int32).toInt = 9999999 by decide, show (-50 : Int32).toInt = -50 by decide, show (32 : Int32).toInt = 32 by decide] at *); first | (refine congrArg (fun z => some (Value.int z)) (b2i_iff ?_); omega) | (refine congrArg (fun z => some (Value.int z)) (b2i_0 ?_).symm; omega)
    · first | rfl | (funext zz; simp only [va_up]; (repeat' split) <;> first | rfl | (exfalso; omega) | simp_all)
    · rfl
  by_cases zc25 : w = 4
  · refine z_tableIn (off := 71) X 72 dX12_mayBe_1 (by rw [zc25]; decide) (by rw [zc25]; decide) (by rw [zc25]; decide) (by decide) ?_
    refine z_iload_n X 1 dX12_mayBe_72 rfl ?_
    refine z_i2l X dX12_mayBe_73 rfl ?_
    refine z_lconst (v := 1) X dX12_mayBe_74 (by decide) ?_
    refine z_ldc2 X dX12_mayBe_75 wd_1050 ?_
    refine z_callS X (r_in (κ := κ) (n := n) (v := (v.toInt64)) (lo := (1 : Int64)) (hi := (999 : Int64))  ) mk_X12_in dX12_mayBe_78 wd_1014 wd_1015 rfl rfl (Nat.le_of_ble_eq_true rfl) (Nat.le_of_ble_eq_true rfl) (Nat.le_of_ble_eq_true rfl) (by omega) (by omega) (fun q zh26 zm28 zp29 => ?_)
    obtain ⟨rfl, ze27, zn30⟩ := zp29
    subst zm28
    subst zh26
    refine z_st (st' := [.int (b2i ((1 : Int64).toInt ≤ (v.toInt64 : Int64).toInt ∧ (v.toInt64 : Int64).toInt ≤ (999 : Int64).toInt))]) rfl ?_
    refine z_toe (y := b2i (1 ≤ v.toInt ∧ v.toInt ≤ 999)) (by simp only [Int32.toInt_toInt64, show (1 : Int64).toInt = 1 by decide, show (999 : Int64).toInt = 999 by decide]) ?_
    refine z_zret X E dX12_mayBe_81 (by first | rfl | exact b2i_nar _) (by omega) (by omega) ⟨?_, ?_, ?_⟩
    · (try simp only [ i_eq, i_lt, i_le, show (-1 : Int32).toInt = -1 by decide, show (0 : Int32).toInt = 0 by decide, show (1 : Int32).toInt = 1 by decide, show (2 : Int32).toInt = 2 by decide, show (3 : Int32).toInt = 3 by decide, show (4 : Int32).toInt = 4 by decide, show (5 : Int32).toInt = 5 by decide, show (6 : Int32).toInt = 6 by decide, show (7 : Int32).toInt = 7 by decide, show (8 : Int32).toInt = 8 by decide, show (9 : Int32).toInt = 9 by decide, show (10 : Int32).toInt = 10 by decide, show (11 : Int32).toInt = 11 by decide, show (12 : Int32).toInt = 12 by decide, show (13 : Int32).toInt = 13 by decide, show (14 : Int32).toInt = 14 by decide, show (15 : Int32).toInt = 15 by decide, show (16 : Int32).toInt = 16 by decide, show (20 : Int32).toInt = 20 by decide, show (39 : Int32).toInt = 39 by decide, show (40 : Int32).toInt = 40 by decide, show (50 : Int32).toInt = 50 by decide, show (60 : Int32).toInt = 60 by decide, show (99 : Int32).toInt = 99 by decide, show (100 : Int32).toInt = 100 by decide, show (999 : Int32).toInt = 999 by decide, show (9999 : Int32).toInt = 9999 by decide, show (99999 : Int32).toInt = 99999 by decide, show (999999 : Int32).toInt = 999999 by decide, show (9999999 : Int32).toInt = 9999999 by decide, show (-50 : Int32).toInt = -50 by decide, show (32 : Int32).toInt = 32 by decide] at *); first | (refine congrArg (fun z => some (Value.int z)) (b2i_iff ?_); omega) | (refine congrArg (fun z => some (Value.int z)) (b2i_0 ?_).symm; omega)
    · first | rfl | (funext zz; simp only [va_up]; (repeat' split) <;> first | rfl | (exfalso; omega) | simp_all)
    · rfl
  by_cases zc31 : w = 5
  · refine z_tableIn (off := 81) X 82 dX12_mayBe_1 (by rw [zc31]; decide) (by rw [zc31]; decide) (by rw [zc31]; decide) (by decide) ?_
    refine z_iload_n X 1 dX12_mayBe_82 rfl ?_
    refine z_i2l X dX12_mayBe_83 rfl ?_
    refine z_lconst (v := 0) X dX12_mayBe_84 (by decide) ?_
    refine z_ldc2 X dX12_mayBe_85 wd_1051 ?_
    refine z_callS X (r_in (κ := κ) (n := n) (v := (v.toInt64)) (lo := (0 : Int64)) (hi := (9999999 : Int64))  ) mk_X12_in dX12_mayBe_88 wd_1014 wd_1015 rfl rfl (Nat.le_of_ble_eq_true rfl) (Nat.le_of_ble_eq_true rfl) (Nat.le_of_ble_eq_true rfl) (by omega) (by omega) (fun q zh32 zm34 zp35 => ?_)
    obtain ⟨rfl, ze33, zn36⟩ := zp35
    subst zm34
    subst zh32
    refine z_st (st' := [.int (b2i ((0 : Int64).toInt ≤ (v.toInt64 : Int64).toInt ∧ (v.toInt64 : Int64).toInt ≤ (9999999 : Int64).toInt))]) rfl ?_
    refine z_toe (y := b2i (0 ≤ v.toInt ∧ v.toInt ≤ 9999999)) (by simp only [Int32.toInt_toInt64, show (0 : Int64).toInt = 0 by decide, show (9999999 : Int64).toInt = 9999999 by decide]) ?_
    refine z_zret X E dX12_mayBe_91 (by first | rfl | exact b2i_nar _) (by omega) (by omega) ⟨?_, ?_, ?_⟩
    · (try simp only [ i_eq, i_lt, i_le, show (-1 : Int32).toInt = -1 by decide, show (0 : Int32).toInt = 0 by decide, show (1 : Int32).toInt = 1 by decide, show (2 : Int32).toInt = 2 by decide, show (3 : Int32).toInt = 3 by decide, show (4 : Int32).toInt = 4 by decide, show (5 : Int32).toInt = 5 by decide, show (6 : Int32).toInt = 6 by decide, show (7 : Int32).toInt = 7 by decide, show (8 : Int32).toInt = 8 by decide, show (9 : Int32).toInt = 9 by decide, show (10 : Int32).toInt = 10 by decide, show (11 : Int32).toInt = 11 by decide, show (12 : Int32).toInt = 12 by decide, show (13 : Int32).toInt = 13 by decide, show (14 : Int32).toInt = 14 by decide, show (15 : Int32).toInt = 15 by decide, show (16 : Int32).toInt = 16 by decide, show (20 : Int32).toInt = 20 by decide, show (39 : Int32).toInt = 39 by decide, show (40 : Int32).toInt = 40 by decide, show (50 : Int32).toInt = 50 by decide, show (60 : Int32).toInt = 60 by decide, show (99 : Int32).toInt = 99 by decide, show (100 : Int32).toInt = 100 by decide, show (999 : Int32).toInt = 999 by decide, show (9999 : Int32).toInt = 9999 by decide, show (99999 : Int32).toInt = 99999 by decide, show (999999 : Int32).toInt = 999999 by decide, show (9999999 : Int32).toInt = 9999999 by decide, show (-50 : Int32).toInt = -50 by decide, show (32 : Int32).toInt = 32 by decide] at *); first | (refine congrArg (fun z => some (Value.int z)) (b2i_iff ?_); omega) | (refine congrArg (fun z => some (Value.int z)) (b2i_0 ?_).symm; omega)
    · first | rfl | (funext zz; simp only [va_up]; (repeat' split) <;> first | rfl | (exfalso; omega) | simp_all)
    · rfl
  refine z_tableOut X 92 dX12_mayBe_1 (by have t0 := lv_neT zc1 (show (0 : Int32).toInt = 0 by decide); have t1 := lv_neT zc7 (show (1 : Int32).toInt = 1 by decide); have t2 := lv_neT zc13 (show (2 : Int32).toInt = 2 by decide); have t3 := lv_neT zc19 (show (3 : Int32).toInt = 3 by decide); have t4 := lv_neT zc25 (show (4 : Int32).toInt = 4 by decide); have t5 := lv_neT zc31 (show (5 : Int32).toInt = 5 by decide); omega) (by decide) ?_
  refine z_iconst (v := 0) X dX12_mayBe_92 (by decide) ?_
  refine z_zret X E dX12_mayBe_93 (by first | rfl | exact b2i_nar _) (by omega) (by omega) ⟨?_, ?_, ?_⟩
  · (try simp only [ i_eq, i_lt, i_le, show (-1 : Int32).toInt = -1 by decide, show (0 : Int32).toInt = 0 by decide, show (1 : Int32).toInt = 1 by decide, show (2 : Int32).toInt = 2 by decide, show (3 : Int32).toInt = 3 by decide, show (4 : Int32).toInt = 4 by decide, show (5 : Int32).toInt = 5 by decide, show (6 : Int32).toInt = 6 by decide, show (7 : Int32).toInt = 7 by decide, show (8 : Int32).toInt = 8 by decide, show (9 : Int32).toInt = 9 by decide, show (10 : Int32).toInt = 10 by decide, show (11 : Int32).toInt = 11 by decide, show (12 : Int32).toInt = 12 by decide, show (13 : Int32).toInt = 13 by decide, show (14 : Int32).toInt = 14 by decide, show (15 : Int32).toInt = 15 by decide, show (16 : Int32).toInt = 16 by decide, show (20 : Int32).toInt = 20 by decide, show (39 : Int32).toInt = 39 by decide, show (40 : Int32).toInt = 40 by decide, show (50 : Int32).toInt = 50 by decide, show (60 : Int32).toInt = 60 by decide, show (99 : Int32).toInt = 99 by decide, show (100 : Int32).toInt = 100 by decide, show (999 : Int32).toInt = 999 by decide, show (9999 : Int32).toInt = 9999 by decide, show (99999 : Int32).toInt = 99999 by decide, show (999999 : Int32).toInt = 999999 by decide, show (9999999 : Int32).toInt = 9999999 by decide, show (-50 : Int32).toInt = -50 by decide, show (32 : Int32).toInt = 32 by decide] at *); first | (refine congrArg (fun z => some (Value.int z)) (b2i_iff ?_); omega) | (refine congrArg (fun z => some (Value.int z)) (b2i_0 ?_).symm; omega)
  · first | rfl | (funext zz; simp only [va_up]; (repeat' split) <;> first | rfl | (exfalso; omega) | simp_all)
  · rfl
def opSet (d : Nat → Int32) (w v : Int32) : Nat × Int32 := if ¬ mayB w v then (1, 0) else (0, d (4 + w.toNatClampNeg))
def dSet (d : Nat → Int32) (w v : Int32) : Nat → Int32 := if ¬ mayB w v then d else upd d (4 + w.toNatClampNeg) v
set_option maxHeartbeats 4000000 in
set_option maxRecDepth 100000 in
theorem r_set {κ : Wc} {l : Launch} {h : Mm} {n : Nat} {o : Nat} {w : Int32} {v : Int32} {d : Nat → Int32} {fo : Nat → Int32} {im : Int32} {ba : Int32} {at_ : Int32} {sz : Int32} {fa : Int32} {op : Int32} {rm : Int32} {ti : Int32} {tm : Int32} {wh : Int32} (K0 : h o = some (.inr (12, [.ref (o + 1), .ref (o + 2), .ref (o + 3), .int im, .ref (o + 4), .int ba, .int at_, .int sz, .int fa, .int op, .ref (o + 5), .ref (o + 6), .int rm, .ref (o + 7), .ref (o + 8), .int ti, .ref (o + 9), .int tm, .int wh, .ref (o + 10), .ref (o + 11), .ref (o + 12), .ref (o + 13)]))) (K1 : h (o + 4) = arI κ 6 fo) (K2 : h (o + 1) = arI κ 340 d)  : Con κ l yX12_set cX12_set 4 (some .int) 3 0 0 [.ref o, .int w, .int v] h n (fun q h' n' => q = some (.int (ansOf (opSet d w v))) ∧ h' = va_up (va_up h (o + 1) (arI κ 340 (dSet d w v))) (o + 4) (arI κ 6 (bump (opSet d w v) fo)) ∧ n' = n) := by
  refine Con.of mk_X12_set (Nat.le_of_ble_eq_true rfl) (fun G hG X E => ?_)
  subst hG
  refine z_ls (ls' := [(0, .ref o), (1, .int w), (2, .int v)]) rfl ?_
  refine z_iload_n X 1 dX12_set_0 rfl ?_
  refine z_iload_n X 2 dX12_set_1 rfl ?_
  refine z_callS X (r_mayBe (κ := κ) (n := n) (w := (w)) (v := (v))  ) mk_X12_mayBe dX12_set_2 wd_1044 wd_1045 rfl rfl (Nat.le_of_ble_eq_true rfl) (Nat.le_of_ble_eq_true rfl) (Nat.le_of_ble_eq_true rfl) (by omega) (by omega) (fun q zh1 zm3 zp4 => ?_)
  obtain ⟨rfl, ze2, zn5⟩ := zp4
  subst zm3
  subst zh1
  refine z_st (st' := [.int (b2i (mayB w v))]) rfl ?_
  refine z_if_ne X 14 dX12_set_5 (by decide) (fun zc6 => ?_) (fun zc6 => ?_)
  · replace zc6 := b2i_t zc6
    obtain ⟨wk, hwk, rfl⟩ := ix_of (c := w) (len := 6) (by omega) (by omega)
    refine z_aload_n X 0 dX12_set_14 rfl ?_
    refine z_get X fl_X12_7_12 dX12_set_15 K0 rfl ?_
    refine z_iconst (v := 4) X dX12_set_18 (by decide) ?_
    refine z_iload_n X 1 dX12_set_19 rfl ?_
    refine z_iadd X dX12_set_20 ?_
    refine z_toe (y := nI (4 + wk)) (nI_add (4) (wk)) ?_
    refine z_iald2 (v := d (4 + wk)) X dX12_set_21 K2 (vp_in_nI (n := 4 + wk) (by omega) (by omega)) (congrArg d (nI_clamp (n := 4 + wk) (by omega))) ?_
    refine z_istore_n (ls' := [(3, .int (d (4 + wk))), (0, .ref o), (1, .int (nI wk)), (2, .int v)]) X dX12_set_22 (by decide) rfl ?_
    refine z_aload_n X 1 dX12_set_23 rfl ?_
    refine z_get X fl_X12_7_12 dX12_set_24 K0 rfl ?_
    refine z_iconst (v := 4) X dX12_set_27 (by decide) ?_
    refine z_iload_n X 2 dX12_set_28 rfl ?_
    refine z_iadd X dX12_set_29 ?_
    refine z_toe (y := nI (4 + wk)) (nI_add (4) (wk)) ?_
    refine z_iload_n X 3 dX12_set_30 rfl ?_
    refine z_iast X dX12_set_31 K2 (vp_in_nI (n := 4 + wk) (by omega) (by omega)) (congrArg (fun z => va_up h (o + 1) (arI κ 340 (upd d z v))) (nI_clamp (n := 4 + wk) (by omega))) ?_
    obtain ⟨zh7, ze8⟩ : ∃ z : Mm, z = va_up h (o + 1) (arI κ 340 (upd d (4 + wk) v)) := ⟨_, rfl⟩
    refine z_heap (h' := zh7) ze8.symm ?_
    have zK9 := up_off ze8 (show o ≠ o + 1 by omega) K0
    have zK10 := up_off ze8 (show o + 4 ≠ o + 1 by omega) K1
    have zK11 := up_at ze8
    refine z_iload_n X 0 dX12_set_32 rfl ?_
    refine z_iret X E dX12_set_33 (by omega) (by omega) ⟨?_, ?_, ?_⟩
    · generalize hz : opSet d (nI wk) v = z; unfold opSet at hz; (try simp only [i_nI (n := wk) (by omega), nI_clamp (n := wk) (by omega),  i_eq, i_lt, i_le, show (-1 : Int32).toInt = -1 by decide, show (0 : Int32).toInt = 0 by decide, show (1 : Int32).toInt = 1 by decide, show (2 : Int32).toInt = 2 by decide, show (3 : Int32).toInt = 3 by decide, show (4 : Int32).toInt = 4 by decide, show (5 : Int32).toInt = 5 by decide, show (6 : Int32).toInt = 6 by decide, show (7 : Int32).toInt = 7 by decide, show (8 : Int32).toInt = 8 by decide, show (9 : Int32).toInt = 9 by decide, show (10 : Int32).toInt = 10 by decide, show (11 : Int32).toInt = 11 by decide, show (12 : Int32).toInt = 12 by decide, show (13 : Int32).toInt = 13 by decide, show (14 : Int32).toInt = 14 by decide, show (15 : Int32).toInt = 15 by decide, show (16 : Int32).toInt = 16 by decide, show (20 : Int32).toInt = 20 by decide, show (39 : Int32).toInt = 39 by decide, show (40 : Int32).toInt = 40 by decide, show (50 : Int32).toInt = 50 by decide, show (60 : Int32).toInt = 60 by decide, show (99 : Int32).toInt = 99 by decide, show (100 : Int32).toInt = 100 by decide, show (999 : Int32).toInt = 999 by decide, show (9999 : Int32).toInt = 9999 by decide, show (99999 : Int32).toInt = 99999 by decide, show (999999 : Int32).toInt = 999999 by decide, show (9999999 : Int32).toInt = 9999999 by decide, show (-50 : Int32).toInt = -50 by decide, show (32 : Int32).toInt = 32 by decide] at *); (repeat first | rw [if_pos (by omega)] at hz | rw [if_neg (by omega)] at hz); subst hz; rfl
    · generalize hz : opSet d (nI wk) v = z; unfold opSet at hz; (try simp only [i_nI (n := wk) (by omega), nI_clamp (n := wk) (by omega),  i_eq, i_lt, i_le, show (-1 : Int32).toInt = -1 by decide, show (0 : Int32).toInt = 0 by decide, show (1 : Int32).toInt = 1 by decide, show (2 : Int32).toInt = 2 by decide, show (3 : Int32).toInt = 3 by decide, show (4 : Int32).toInt = 4 by decide, show (5 : Int32).toInt = 5 by decide, show (6 : Int32).toInt = 6 by decide, show (7 : Int32).toInt = 7 by decide, show (8 : Int32).toInt = 8 by decide, show (9 : Int32).toInt = 9 by decide, show (10 : Int32).toInt = 10 by decide, show (11 : Int32).toInt = 11 by decide, show (12 : Int32).toInt = 12 by decide, show (13 : Int32).toInt = 13 by decide, show (14 : Int32).toInt = 14 by decide, show (15 : Int32).toInt = 15 by decide, show (16 : Int32).toInt = 16 by decide, show (20 : Int32).toInt = 20 by decide, show (39 : Int32).toInt = 39 by decide, show (40 : Int32).toInt = 40 by decide, show (50 : Int32).toInt = 50 by decide, show (60 : Int32).toInt = 60 by decide, show (99 : Int32).toInt = 99 by decide, show (100 : Int32).toInt = 100 by decide, show (999 : Int32).toInt = 999 by decide, show (9999 : Int32).toInt = 9999 by decide, show (99999 : Int32).toInt = 99999 by decide, show (999999 : Int32).toInt = 999999 by decide, show (9999999 : Int32).toInt = 9999999 by decide, show (-50 : Int32).toInt = -50 by decide, show (32 : Int32).toInt = 32 by decide] at *); (repeat first | rw [if_pos (by omega)] at hz | rw [if_neg (by omega)] at hz); subst hz; unfold dSet; (try simp only [i_nI (n := wk) (by omega), nI_clamp (n := wk) (by omega),  i_eq]); (repeat first | rw [if_pos (by omega)] | rw [if_neg (by omega)]); rw [ze8]; (first | rfl | (funext zz; simp only [va_up, bump, ↓reduceIte]; (repeat' split) <;> first | rfl | (exfalso; omega) | (simp_all; done)))
    · rfl
  · replace zc6 := b2i_f zc6
    refine z_aload_n X 0 dX12_set_8 rfl ?_
    refine z_iconst (v := 1) X dX12_set_9 (by decide) ?_
    refine z_callV X (r_finds (κ := κ) (n := n) (o := (o)) (k := (1)) (fo := (fo)) (im := (im)) (ba := (ba)) (at_ := (at_)) (sz := (sz)) (fa := (fa)) (op := (op)) (rm := (rm)) (ti := (ti)) (tm := (tm)) (wh := (wh)) K0 K1 (by first | assumption | omega) (by first | assumption | omega)) mk_X12_finds dX12_set_10 wd_1018 wd_1020 wd_24 rfl K0 rfl rfl rfl (Nat.le_of_ble_eq_true rfl) (Nat.le_of_ble_eq_true rfl) (Nat.le_of_ble_eq_true rfl) (by omega) (by omega) (fun q zh12 zm14 zp15 => ?_)
    obtain ⟨rfl, ze13, zn16⟩ := zp15
    subst zm14
    refine z_st (st' := [.int (lowE 1)]) rfl ?_
    have zK17 : zh12 o = some (.inr (12, [.ref (o + 1), .ref (o + 2), .ref (o + 3), .int im, .ref (o + 4), .int ba, .int at_, .int sz, .int fa, .int op, .ref (o + 5), .ref (o + 6), .int rm, .ref (o + 7), .ref (o + 8), .int ti, .ref (o + 9), .int tm, .int wh, .ref (o + 10), .ref (o + 11), .ref (o + 12), .ref (o + 13)])) := by rw [ze13]; rw [va_up_ne _ _ (show o ≠ o + 4 by omega)]; exact K0
    have zK18 : zh12 (o + 4) = arI κ 6 (bmp fo 1) := by rw [ze13]; exact va_up_self _ _ _
    have zK19 : zh12 (o + 1) = arI κ 340 d := by rw [ze13]; rw [va_up_ne _ _ (show o + 1 ≠ o + 4 by omega)]; exact K2
    refine z_iret X E dX12_set_13 (by omega) (by omega) ⟨?_, ?_, ?_⟩
    · generalize hz : opSet d w v = z; unfold opSet at hz; (try simp only [ i_eq, i_lt, i_le, show (-1 : Int32).toInt = -1 by decide, show (0 : Int32).toInt = 0 by decide, show (1 : Int32).toInt = 1 by decide, show (2 : Int32).toInt = 2 by decide, show (3 : Int32).toInt = 3 by decide, show (4 : Int32).toInt = 4 by decide, show (5 : Int32).toInt = 5 by decide, show (6 : Int32).toInt = 6 by decide, show (7 : Int32).toInt = 7 by decide, show (8 : Int32).toInt = 8 by decide, show (9 : Int32).toInt = 9 by decide, show (10 : Int32).toInt = 10 by decide, show (11 : Int32).toInt = 11 by decide, show (12 : Int32).toInt = 12 by decide, show (13 : Int32).toInt = 13 by decide, show (14 : Int32).toInt = 14 by decide, show (15 : Int32).toInt = 15 by decide, show (16 : Int32).toInt = 16 by decide, show (20 : Int32).toInt = 20 by decide, show (39 : Int32).toInt = 39 by decide, show (40 : Int32).toInt = 40 by decide, show (50 : Int32).toInt = 50 by decide, show (60 : Int32).toInt = 60 by decide, show (99 : Int32).toInt = 99 by decide, show (100 : Int32).toInt = 100 by decide, show (999 : Int32).toInt = 999 by decide, show (9999 : Int32).toInt = 9999 by decide, show (99999 : Int32).toInt = 99999 by decide, show (999999 : Int32).toInt = 999999 by decide, show (9999999 : Int32).toInt = 9999999 by decide, show (-50 : Int32).toInt = -50 by decide, show (32 : Int32).toInt = 32 by decide] at *); (repeat first | rw [if_pos (by omega)] at hz | rw [if_neg (by omega)] at hz); subst hz; rfl
    · generalize hz : opSet d w v = z; unfold opSet at hz; (try simp only [ i_eq, i_lt, i_le, show (-1 : Int32).toInt = -1 by decide, show (0 : Int32).toInt = 0 by decide, show (1 : Int32).toInt = 1 by decide, show (2 : Int32).toInt = 2 by decide, show (3 : Int32).toInt = 3 by decide, show (4 : Int32).toInt = 4 by decide, show (5 : Int32).toInt = 5 by decide, show (6 : Int32).toInt = 6 by decide, show (7 : Int32).toInt = 7 by decide, show (8 : Int32).toInt = 8 by decide, show (9 : Int32).toInt = 9 by decide, show (10 : Int32).toInt = 10 by decide, show (11 : Int32).toInt = 11 by decide, show (12 : Int32).toInt = 12 by decide, show (13 : Int32).toInt = 13 by decide, show (14 : Int32).toInt = 14 by decide, show (15 : Int32).toInt = 15 by decide, show (16 : Int32).toInt = 16 by decide, show (20 : Int32).toInt = 20 by decide, show (39 : Int32).toInt = 39 by decide, show (40 : Int32).toInt = 40 by decide, show (50 : Int32).toInt = 50 by decide, show (60 : Int32).toInt = 60 by decide, show (99 : Int32).toInt = 99 by decide, show (100 : Int32).toInt = 100 by decide, show (999 : Int32).toInt = 999 by decide, show (9999 : Int32).toInt = 9999 by decide, show (99999 : Int32).toInt = 99999 by decide, show (999999 : Int32).toInt = 999999 by decide, show (9999999 : Int32).toInt = 9999999 by decide, show (-50 : Int32).toInt = -50 by decide, show (32 : Int32).toInt = 32 by decide] at *); (repeat first | rw [if_pos (by omega)] at hz | rw [if_neg (by omega)] at hz); subst hz; unfold dSet; (try simp only [ i_eq]); (repeat first | rw [if_pos (by omega)] | rw [if_neg (by omega)]); rw [ze13]; (first | rfl | (funext zz; simp only [va_up, bump, ↓reduceIte]; (repeat' split) <;> first | rfl | (exfalso; omega) | (simp_all; done)))
    · rfl
set_option maxHeartbeats 4000000 in
set_option maxRecDepth 100000 in
theorem r_seed {κ : Wc} {l : Launch} {h : Mm} {n : Nat} {o : Nat} {v : Int32} {d : Nat → Int32} {im : Int32} {ba : Int32} {at_ : Int32} {sz : Int32} {fa : Int32} {op : Int32} {rm : Int32} {ti : Int32} {tm : Int32} {wh : Int32} (K0 : h o = some (.inr (12, [.ref (o + 1), .ref (o + 2), .ref (o + 3), .int im, .ref (o + 4), .int ba, .int at_, .int sz, .int fa, .int op, .ref (o + 5), .ref (o + 6), .int rm, .ref (o + 7), .ref (o + 8), .int ti, .ref (o + 9), .int tm, .int wh, .ref (o + 10), .ref (o + 11), .ref (o + 12), .ref (o + 13)]))) (K1 : h (o + 1) = arI κ 340 d)  : Con κ l yX12_seed cX12_seed 3 (some .int) 1 0 0 [.ref o, .int v] h n (fun q h' n' => q = some (.int (d 13)) ∧ h' = va_up h (o + 1) (arI κ 340 (upd d 13 v)) ∧ n' = n) := by
  refine Con.of mk_X12_seed (Nat.le_of_ble_eq_true rfl) (fun G hG X E => ?_)
  subst hG
  refine z_ls (ls' := [(0, .ref o), (1, .int v)]) rfl ?_
  refine z_aload_n X 0 dX12_seed_0 rfl ?_
  refine z_get X fl_X12_7_12 dX12_seed_1 K0 rfl ?_
  refine z_bipush (v := 13) X dX12_seed_4 (by decide) ?_
  refine z_iald2 (v := d 13) X dX12_seed_6 K1 (vp_in_nI (n := 13) (by omega) (by omega)) (congrArg d (nI_clamp (n := 13) (by omega))) ?_
  refine z_istore_n (ls' := [(2, .int (d 13)), (0, .ref o), (1, .int v)]) X dX12_seed_7 (by decide) rfl ?_
  refine z_aload_n X 1 dX12_seed_8 rfl ?_
  refine z_get X fl_X12_7_12 dX12_seed_9 K0 rfl ?_
  refine z_bipush (v := 13) X dX12_seed_12 (by decide) ?_
  refine z_iload_n X 2 dX12_seed_14 rfl ?_
  refine z_iast X dX12_seed_15 K1 (vp_in_nI (n := 13) (by omega) (by omega)) (congrArg (fun z => va_up h (o + 1) (arI κ 340 (upd d z v))) (nI_clamp (n := 13) (by omega))) ?_
  obtain ⟨zh1, ze2⟩ : ∃ z : Mm, z = va_up h (o + 1) (arI κ 340 (upd d 13 v)) := ⟨_, rfl⟩
  refine z_heap (h' := zh1) ze2.symm ?_
  have zK3 := up_off ze2 (show o ≠ o + 1 by omega) K0
  have zK4 := up_at ze2
  refine z_iload_n X 0 dX12_seed_16 rfl ?_
  refine z_iret X E dX12_seed_17 (by omega) (by omega) ⟨?_, ?_, ?_⟩
  · rfl
  · first | (rw [ze2]; done) | (rw [ze2]; simp only [up_up]; done) | (rw [ze2]; funext zz; simp only [va_up]; (repeat' split) <;> first | rfl | (exfalso; omega) | simp_all)
  · rfl
