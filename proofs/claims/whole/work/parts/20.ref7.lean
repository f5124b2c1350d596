def rAt (m : Nat → Int32) (len j : Nat) : Nat := ((rl m len len)[j]?).getD 0
theorem rgOk_at {g m : Nat → Int32} {len j : Nat} (h : rgOk g (rl m len len)) (hj : j < rn m len len) : g j = nI (rAt m len j) := by
  have h1 := List.getElem?_eq_getElem (l := rl m len len) hj
  rw [h j _ h1, rAt, h1]
  rfl
set_option maxHeartbeats 4000000 in
set_option maxRecDepth 100000 in
theorem r_placesOfRings {κ : Wc} {l : Launch} {h : Mm} {n : Nat} {o : Nat} {k : Nat} {g : Nat → Int32} {im : Int32} {ba : Int32} {at_ : Int32} {sz : Int32} {fa : Int32} {op : Int32} {ti : Int32} {tm : Int32} {wh : Int32} (K0 : h o = some (.inr (12, [.ref (o + 1), .ref (o + 2), .ref (o + 3), .int im, .ref (o + 4), .int ba, .int at_, .int sz, .int fa, .int op, .ref (o + 5), .ref (o + 6), .int (nI k), .ref (o + 7), .ref (o + 8), .int ti, .ref (o + 9), .int tm, .int wh, .ref (o + 10), .ref (o + 11), .ref (o + 12), .ref (o + 13)]))) (K1 : h (o + 6) = arI κ 40 g) (q1 : k ≤ 40) : Con κ l yX12_placesOfRings cX12_placesOfRings 3 (some .int) 1 0 0 [.ref o] h n (fun q h' n' => q = some (.int (sumN g k)) ∧ h' = h ∧ n' = n) := by
  refine Con.of mk_X12_placesOfRings (Nat.le_of_ble_eq_true rfl) (fun G hG X E => ?_)
  subst hG
  refine z_ls (ls' := [(0, .ref o)]) rfl ?_
  refine z_iconst (v := 0) X dX12_placesOfRings_0 (by decide) ?_
  refine z_istore_n (ls' := [(1, .int 0), (0, .ref o)]) X dX12_placesOfRings_1 (by decide) rfl ?_
  refine z_iconst (v := 0) X dX12_placesOfRings_2 (by decide) ?_
  refine z_istore_n (ls' := [(2, .int 0), (1, .int 0), (0, .ref o)]) X dX12_placesOfRings_3 (by decide) rfl ?_
  have L4 : ∀ (jj : Nat)  (i : Nat), (k - i < jj) → (hi : i ≤ k) → Z κ G 3 4 [(0, .ref o), (1, .int (sumN g i)), (2, .int (nI i))] [] h n 0 (0) := by
    intro jj
    induction jj with
    | zero => intro  i hmu; exact absurd hmu (Nat.not_lt_zero _)
    | succ jj ih4 =>
      intro  i hmu  hi
      refine z_iload_n X 2 dX12_placesOfRings_4 rfl ?_
      refine z_aload_n X 0 dX12_placesOfRings_5 rfl ?_
      refine z_get X fl_X12_191_12 dX12_placesOfRings_6 K0 rfl ?_
      refine z_icmp_ge X 27 dX12_placesOfRings_9 (by decide) (fun zc3 => ?_) (fun zc3 => ?_)
      · try replace zc3 := (nI_leI (a := k) (b := i) (by omega) (by omega)).mp zc3
        refine z_iload_n X 1 dX12_placesOfRings_27 rfl ?_
        refine z_iret X E dX12_placesOfRings_28 (by omega) (by omega) ⟨?_, ?_, ?_⟩
        · rw [show i = k by omega]
        · first | rfl | (funext zz; simp only [va_up]; (repeat' split) <;> first | rfl | (exfalso; omega) | simp_all)
        · rfl
      · try replace zc3 := mt (nI_leI (a := k) (b := i) (by omega) (by omega)).mpr zc3
        refine z_iload_n X 1 dX12_placesOfRings_12 rfl ?_
        refine z_aload_n X 0 dX12_placesOfRings_13 rfl ?_
        refine z_get X fl_X12_25_12 dX12_placesOfRings_14 K0 rfl ?_
        refine z_iload_n X 2 dX12_placesOfRings_17 rfl ?_
        refine z_iald2 (v := g i) X dX12_placesOfRings_18 K1 (vp_in_nI (n := i) (by omega) (by omega)) (congrArg g (nI_clamp (n := i) (by omega))) ?_
        refine z_iadd X dX12_placesOfRings_19 ?_
        refine z_istore_n (ls' := [(1, .int ((sumN g i) + (g i))), (0, .ref o), (2, .int (nI i))]) X dX12_placesOfRings_20 (by decide) rfl ?_
        refine z_iinc (v := nI (i + 1)) (ls' := [(2, .int (nI (i + 1))), (1, .int ((sumN g i) + (g i))), (0, .ref o)]) X 2 dX12_placesOfRings_21 rfl (nI_1 (i)) (by decide) rfl ?_
        refine z_goto X 4 dX12_placesOfRings_24 (by decide) ?_
        refine z_sub (ls' := [(0, .ref o), (1, .int ((sumN g i) + (g i))), (2, .int (nI (i + 1)))]) [2, 1, 0] rfl ?_
        exact ih4 (i + 1) (by omega) (by first | assumption | rfl | omega)
  refine z_sub (ls' := [(0, .ref o), (1, .int 0), (2, .int 0)]) [2, 1, 0] rfl ?_
  exact L4 _ 0 (Nat.lt_succ_self _) (by first | assumption | rfl | omega)
def opRing (d : Nat → Int32) (len : Nat) (i : Int32) : Nat × Int32 := if i.toInt < -1 then (1, 0) else if i.toInt = -1 then (0, nI (rn d len len)) else if i.toInt < rn d len len then (0, nI (rAt d len i.toNatClampNeg)) else (2, 0)
set_option maxHeartbeats 4000000 in
set_option maxRecDepth 100000 in
theorem r_ring {κ : Wc} {l : Launch} {h : Mm} {n : Nat} {o : Nat} {fo : Nat → Int32} {g : Nat → Int32} {d : Nat → Int32} {len : Nat} {im : Int32} {ba : Int32} {at_ : Int32} {sz : Int32} {fa : Int32} {op : Int32} {rm : Int32} {ti : Int32} {tm : Int32} {wh : Int32} {i : Int32} (K0 : h o = some (.inr (12, [.ref (o + 1), .ref (o + 2), .ref (o + 3), .int im, .ref (o + 4), .int ba, .int at_, .int sz, .int fa, .int op, .ref (o + 5), .ref (o + 6), .int rm, .ref (o + 7), .ref (o + 8), .int ti, .ref (o + 9), .int tm, .int wh, .ref (o + 10), .ref (o + 11), .ref (o + 12), .ref (o + 13)]))) (K1 : h (o + 4) = arI κ 6 fo) (K2 : h (o + 1) = arI κ 340 d) (K3 : h (o + 6) = arI κ 40 g) (q1 : d 1 = nI len) (q2 : 1 ≤ len) (q3 : len ≤ 40) : Con κ l yX12_ring cX12_ring 2 (some .int) 3 0 0 [.ref o, .int i] h n (fun q h' n' => ∃ rm' : Int32, ∃ g' : Nat → Int32, q = some (.int (ansOf (opRing d len i))) ∧ h' = va_up (va_up (va_up h o (some (.inr (12, [.ref (o + 1), .ref (o + 2), .ref (o + 3), .int im, .ref (o + 4), .int ba, .int at_, .int sz, .int fa, .int op, .ref (o + 5), .ref (o + 6), .int rm', .ref (o + 7), .ref (o + 8), .int ti, .ref (o + 9), .int tm, .int wh, .ref (o + 10), .ref (o + 11), .ref (o + 12), .ref (o + 13)])))) (o + 6) (arI κ 40 g')) (o + 4) (arI κ 6 (bump (opRing d len i) fo)) ∧ n' = n) := by
  refine Con.of mk_X12_ring (Nat.le_of_ble_eq_true rfl) (fun G hG X E => ?_)
  subst hG
  refine z_ls (ls' := [(0, .ref o), (1, .int i)]) rfl ?_
  refine z_iload_n X 1 dX12_ring_0 rfl ?_
  refine z_iconst (v := -1) X dX12_ring_1 (by decide) ?_
  refine z_icmp_ge X 11 dX12_ring_2 (by decide) (fun zc1 => ?_) (fun zc1 => ?_)
  · refine z_aload_n X 0 dX12_ring_11 rfl ?_
    refine z_aload_n X 0 dX12_ring_12 rfl ?_
    refine z_get X fl_X12_7_12 dX12_ring_13 K0 rfl ?_
    refine z_callV X (r_findRings (κ := κ) (n := n) (o := (o)) (a := (o + 1)) (m := (d)) (g := (g)) (im := (im)) (ba := (ba)) (at_ := (at_)) (sz := (sz)) (fa := (fa)) (op := (op)) (rm := (rm)) (ti := (ti)) (tm := (tm)) (wh := (wh)) K0 K2 K3 (by first | assumption | omega) (by first | assumption | omega) (by first | assumption | omega) (Or.inl rfl)) mk_X12_findRings dX12_ring_16 wd_1188 wd_1190 wd_41 rfl K0 rfl rfl rfl (Nat.le_of_ble_eq_true rfl) (Nat.le_of_ble_eq_true rfl) (Nat.le_of_ble_eq_true rfl) (by omega) (by omega) (fun q zh3 zm5 zp6 => ?_)
    obtain ⟨g'2, rfl, ze4, zn8, zf7⟩ := zp6
    subst zm5
    refine z_st (st' := []) rfl ?_
    have zK9 : zh3 o = some (.inr (12, [.ref (o + 1), .ref (o + 2), .ref (o + 3), .int im, .ref (o + 4), .int ba, .int at_, .int sz, .int fa, .int op, .ref (o + 5), .ref (o + 6), .int (nI (rn d len len)), .ref (o + 7), .ref (o + 8), .int ti, .ref (o + 9), .int tm, .int wh, .ref (o + 10), .ref (o + 11), .ref (o + 12), .ref (o + 13)])) := by rw [ze4]; rw [va_up_ne _ _ (show o ≠ o + 6 by omega)]; exact va_up_self _ _ _
    have zK10 : zh3 (o + 4) = arI κ 6 fo := by rw [ze4]; rw [va_up_ne _ _ (show o + 4 ≠ o + 6 by omega)]; rw [va_up_ne _ _ (show o + 4 ≠ o by omega)]; exact K1
    have zK11 : zh3 (o + 1) = arI κ 340 d := by rw [ze4]; rw [va_up_ne _ _ (show o + 1 ≠ o + 6 by omega)]; rw [va_up_ne _ _ (show o + 1 ≠ o by omega)]; exact K2
    have zK12 : zh3 (o + 6) = arI κ 40 g'2 := by rw [ze4]; exact va_up_self _ _ _
    have hrn := rn_le d len len
    refine z_iload_n X 1 dX12_ring_19 rfl ?_
    refine z_iconst (v := -1) X dX12_ring_20 (by decide) ?_
    refine z_icmp_ne X 31 dX12_ring_21 (by decide) (fun zc13 => ?_) (fun zc13 => ?_)
    · refine z_iload_n X 1 dX12_ring_31 rfl ?_
      refine z_aload_n X 0 dX12_ring_32 rfl ?_
      refine z_get X fl_X12_191_12 dX12_ring_33 zK9 rfl ?_
      refine z_icmp_ge X 48 dX12_ring_36 (by decide) (fun zc14 => ?_) (fun zc14 => ?_)
      · rw [i_le, i_nI (n := rn d len len) (by omega)] at zc14
        refine z_aload_n X 0 dX12_ring_48 rfl ?_
        refine z_iconst (v := 2) X dX12_ring_49 (by decide) ?_
        refine z_callV X (r_finds (κ := κ) (n := n) (o := (o)) (k := (2)) (fo := (fo)) (im := (im)) (ba := (ba)) (at_ := (at_)) (sz := (sz)) (fa := (fa)) (op := (op)) (rm := (nI (rn d len len))) (ti := (ti)) (tm := (tm)) (wh := (wh)) zK9 zK10 (by first | assumption | omega) (by first | assumption | omega)) mk_X12_finds dX12_ring_50 wd_1018 wd_1020 wd_24 rfl zK9 rfl rfl rfl (Nat.le_of_ble_eq_true rfl) (Nat.le_of_ble_eq_true rfl) (Nat.le_of_ble_eq_true rfl) (by omega) (by omega) (fun q zh15 zm17 zp18 => ?_)
        obtain ⟨rfl, ze16, zn19⟩ := zp18
        subst zm17
        refine z_st (st' := [.int (lowE 2)]) rfl ?_
        have zK20 : zh15 o = some (.inr (12, [.ref (o + 1), .ref (o + 2), .ref (o + 3), .int im, .ref (o + 4), .int ba, .int at_, .int sz, .int fa, .int op, .ref (o + 5), .ref (o + 6), .int (nI (rn d len len)), .ref (o + 7), .ref (o + 8), .int ti, .ref (o + 9), .int tm, .int wh, .ref (o + 10), .ref (o + 11), .ref (o + 12), .ref (o + 13)])) := by rw [ze16]; rw [va_up_ne _ _ (show o ≠ o + 4 by omega)]; exact zK9
        have zK21 : zh15 (o + 4) = arI κ 6 (bmp fo 2) := by rw [ze16]; exact va_up_self _ _ _
        have zK22 : zh15 (o + 1) = arI κ 340 d := by rw [ze16]; rw [va_up_ne _ _ (show o + 1 ≠ o + 4 by omega)]; exact zK11
        have zK23 : zh15 (o + 6) = arI κ 40 g'2 := by rw [ze16]; rw [va_up_ne _ _ (show o + 6 ≠ o + 4 by omega)]; exact zK12
        refine z_iret X E dX12_ring_53 (by omega) (by omega) ⟨(nI (rn d len len)), g'2, ?_, ?_, ?_⟩
        · generalize hz : opRing d len i = z; unfold opRing at hz; (try simp only [ i_eq, i_lt, i_le, show (-1 : Int32).toInt = -1 by decide, show (0 : Int32).toInt = 0 by decide, show (1 : Int32).toInt = 1 by decide, show (2 : Int32).toInt = 2 by decide, show (3 : Int32).toInt = 3 by decide, show (4 : Int32).toInt = 4 by decide, show (5 : Int32).toInt = 5 by decide, show (6 : Int32).toInt = 6 by decide, show (7 : Int32).toInt = 7 by decide, show (8 : Int32).toInt = 8 by decide, show (9 : Int32).toInt = 9 by decide, show (10 : Int32).toInt = 10 by decide, show (11 : Int32).toInt = 11 by decide, show (12 : Int32).toInt = 12 by decide, show (13 : Int32).toInt = 13 by decide, show (14 : Int32).toInt = 14 by decide, show (15 : Int32).toInt = 15 by decide, show (16 : Int32).toInt = 16 by decide, show (20 : Int32).toInt = 20 by decide, show (39 : Int32).toInt = 39 by decide, show (40 : Int32).toInt = 40 by decide, show (50 : Int32).toInt = 50 by decide, show (60 : Int32).toInt = 60 by decide, show (99 : Int32).toInt = 99 by decide, show (100 : Int32).toInt = 100 by decide, show (999 : Int32).toInt = 999 by decide, show (9999 : Int32).toInt = 9999 by decide, show (99999 : Int32).toInt = 99999 by decide, show (999999 : Int32).toInt = 999999 by decide, show (9999999 : Int32).toInt = 9999999 by decide, show (-50 : Int32).toInt = -50 by decide, show (32 : Int32).toInt = 32 by decide] at *); (repeat first | rw [if_pos (by omega)] at hz | rw [if_neg (by omega)] at hz); subst hz; rfl
        · generalize hz : opRing d len i = z; unfold opRing at hz; (try simp only [ i_eq, i_lt, i_le, show (-1 : Int32).toInt = -1 by decide, show (0 : Int32).toInt = 0 by decide, show (1 : Int32).toInt = 1 by decide, show (2 : Int32).toInt = 2 by decide, show (3 : Int32).toInt = 3 by decide, show (4 : Int32).toInt = 4 by decide, show (5 : Int32).toInt = 5 by decide, show (6 : Int32).toInt = 6 by decide, show (7 : Int32).toInt = 7 by decide, show (8 : Int32).toInt = 8 by decide, show (9 : Int32).toInt = 9 by decide, show (10 : Int32).toInt = 10 by decide, show (11 : Int32).toInt = 11 by decide, show (12 : Int32).toInt = 12 by decide, show (13 : Int32).toInt = 13 by decide, show (14 : Int32).toInt = 14 by decide, show (15 : Int32).toInt = 15 by decide, show (16 : Int32).toInt = 16 by decide, show (20 : Int32).toInt = 20 by decide, show (39 : Int32).toInt = 39 by decide, show (40 : Int32).toInt = 40 by decide, show (50 : Int32).toInt = 50 by decide, show (60 : Int32).toInt = 60 by decide, show (99 : Int32).toInt = 99 by decide, show (100 : Int32).toInt = 100 by decide, show (999 : Int32).toInt = 999 by decide, show (9999 : Int32).toInt = 9999 by decide, show (99999 : Int32).toInt = 99999 by decide, show (999999 : Int32).toInt = 999999 by decide, show (9999999 : Int32).toInt = 9999999 by decide, show (-50 : Int32).toInt = -50 by decide, show (32 : Int32).toInt = 32 by decide] at *); (repeat first | rw [if_pos (by omega)] at hz | rw [if_neg (by omega)] at hz); subst hz; rw [ze16, ze4]; (first | rfl | (funext zz; simp only [va_up, bump, ↓reduceIte]; (repeat' split) <;> first | rfl | (exfalso; omega) | (simp_all; done)))
        · rfl
      · rw [i_le, i_nI (n := rn d len len) (by omega)] at zc14
        have hi0 : 0 ≤ i.toInt := by (simp only [i_eq, i_lt, i_le, show (-1 : Int32).toInt = -1 by decide, show (0 : Int32).toInt = 0 by decide, show (1 : Int32).toInt = 1 by decide, show (2 : Int32).toInt = 2 by decide, show (3 : Int32).toInt = 3 by decide, show (4 : Int32).toInt = 4 by decide, show (5 : Int32).toInt = 5 by decide, show (6 : Int32).toInt = 6 by decide, show (7 : Int32).toInt = 7 by decide, show (8 : Int32).toInt = 8 by decide, show (9 : Int32).toInt = 9 by decide, show (10 : Int32).toInt = 10 by decide, show (11 : Int32).toInt = 11 by decide, show (12 : Int32).toInt = 12 by decide, show (13 : Int32).toInt = 13 by decide, show (14 : Int32).toInt = 14 by decide, show (15 : Int32).toInt = 15 by decide, show (16 : Int32).toInt = 16 by decide, show (20 : Int32).toInt = 20 by decide, show (39 : Int32).toInt = 39 by decide, show (40 : Int32).toInt = 40 by decide, show (50 : Int32).toInt = 50 by decide, show (60 : Int32).toInt = 60 by decide, show (99 : Int32).toInt = 99 by decide, show (100 : Int32).toInt = 100 by decide, show (999 : Int32).toInt = 999 by decide, show (9999 : Int32).toInt = 9999 by decide, show (99999 : Int32).toInt = 99999 by decide, show (999999 : Int32).toInt = 999999 by decide, show (9999999 : Int32).toInt = 9999999 by decide, show (-50 : Int32).toInt = -50 by decide, show (32 : Int32).toInt = 32 by decide] at *; omega)
        obtain ⟨ik, hik, rfl⟩ := ix_of (c := i) (len := rn d len len) (by omega) (by omega)
        refine z_aload_n X 0 dX12_ring_39 rfl ?_
        refine z_get X fl_X12_25_12 dX12_ring_40 zK9 rfl ?_
        refine z_iload_n X 1 dX12_ring_43 rfl ?_
        refine z_iald2 (v := g'2 ik) X dX12_ring_44 zK12 (vp_in_nI (n := ik) (by omega) (by omega)) (congrArg g'2 (nI_clamp (n := ik) (by omega))) ?_
        refine z_toe (y := nI (rAt d len ik)) (rgOk_at zf7 hik) ?_
        refine z_goto X 53 dX12_ring_45 (by decide) ?_
        refine z_iret X E dX12_ring_53 (by omega) (by omega) ⟨(nI (rn d len len)), g'2, ?_, ?_, ?_⟩
        · generalize hz : opRing d len (nI ik) = z; unfold opRing at hz; (try simp only [i_nI (n := ik) (by omega), nI_clamp (n := ik) (by omega),  i_eq, i_lt, i_le, show (-1 : Int32).toInt = -1 by decide, show (0 : Int32).toInt = 0 by decide, show (1 : Int32).toInt = 1 by decide, show (2 : Int32).toInt = 2 by decide, show (3 : Int32).toInt = 3 by decide, show (4 : Int32).toInt = 4 by decide, show (5 : Int32).toInt = 5 by decide, show (6 : Int32).toInt = 6 by decide, show (7 : Int32).toInt = 7 by decide, show (8 : Int32).toInt = 8 by decide, show (9 : Int32).toInt = 9 by decide, show (10 : Int32).toInt = 10 by decide, show (11 : Int32).toInt = 11 by decide, show (12 : Int32).toInt = 12 by decide, show (13 : Int32).toInt = 13 by decide, show (14 : Int32).toInt = 14 by decide, show (15 : Int32).toInt = 15 by decide, show (16 : Int32).toInt = 16 by decide, show (20 : Int32).toInt = 20 by decide, show (39 : Int32).toInt = 39 by decide, show (40 : Int32).toInt = 40 by decide, show (50 : Int32).toInt = 50 by decide, show (60 : Int32).toInt = 60 by decide, show (99 : Int32).toInt = 99 by decide, show (100 : Int32).toInt = 100 by decide, show (999 : Int32).toInt = 999 by decide, show (9999 : Int32).toInt = 9999 by decide, show (99999 : Int32).toInt = 99999 by decide, show (999999 : Int32).toInt = 999999 by decide, show (9999999 : Int32).toInt = 9999999 by decide, show (-50 : Int32).toInt = -50 by decide, show (32 : Int32).toInt = 32 by decide] at *); (repeat first | rw [if_pos (by omega)] at hz | rw [if_neg (by omega)] at hz); subst hz; rfl
        · generalize hz : opRing d len (nI ik) = z; unfold opRing at hz; (try simp only [i_nI (n := ik) (by omega), nI_clamp (n := ik) (by omega),  i_eq, i_lt, i_le, show (-1 : Int32).toInt = -1 by decide, show (0 : Int32).toInt = 0 by decide, show (1 : Int32).toInt = 1 by decide, show (2 : Int32).toInt = 2 by decide, show (3 : Int32).toInt = 3 by decide, show (4 : Int32).toInt = 4 by decide, show (5 : Int32).toInt = 5 by decide, show (6 : Int32).toInt = 6 by decide, show (7 : Int32).toInt = 7 by decide, show (8 : Int32).toInt = 8 by decide, show (9 : Int32).toInt = 9 by decide, show (10 : Int32).toInt = 10 by decide, show (11 : Int32).toInt = 11 by decide, show (12 : Int32).toInt = 12 by decide, show (13 : Int32).toInt = 13 by decide, show (14 : Int32).toInt = 14 by decide, show (15 : Int32).toInt = 15 by decide, show (16 : Int32).toInt = 16 by decide, show (20 : Int32).toInt = 20 by decide, show (39 : Int32).toInt = 39 by decide, show (40 : Int32).toInt = 40 by decide, show (50 : Int32).toInt = 50 by decide, show (60 : Int32).toInt = 60 by decide, show (99 : Int32).toInt = 99 by decide, show (100 : Int32).toInt = 100 by decide, show (999 : Int32).toInt = 999 by decide, show (9999 : Int32).toInt = 9999 by decide, show (99999 : Int32).toInt = 99999 by decide, show (999999 : Int32).toInt = 999999 by decide, show (9999999 : Int32).toInt = 9999999 by decide, show (-50 : Int32).toInt = -50 by decide, show (32 : Int32).toInt = 32 by decide] at *); (repeat first | rw [if_pos (by omega)] at hz | rw [if_neg (by omega)] at hz); subst hz; rw [ze4]; (first | rfl | (funext zz; simp only [va_up, bump, ↓reduceIte]; (repeat' split) <;> first | rfl | (exfalso; omega) | (simp_all; done)))
        · rfl
    · refine z_aload_n X 0 dX12_ring_24 rfl ?_
      refine z_get X fl_X12_191_12 dX12_ring_25 zK9 rfl ?_
      refine z_goto X 53 dX12_ring_28 (by decide) ?_
      refine z_iret X E dX12_ring_53 (by omega) (by omega) ⟨(nI (rn d len len)), g'2, ?_, ?_, ?_⟩
      · generalize hz : opRing d len i = z; unfold opRing at hz; (try simp only [ i_eq, i_lt, i_le, show (-1 : Int32).toInt = -1 by decide, show (0 : Int32).toInt = 0 by decide, show (1 : Int32).toInt = 1 by decide, show (2 : Int32).toInt = 2 by decide, show (3 : Int32).toInt = 3 by decide, show (4 : Int32).toInt = 4 by decide, show (5 : Int32).toInt = 5 by decide, show (6 : Int32).toInt = 6 by decide, show (7 : Int32).toInt = 7 by decide, show (8 : Int32).toInt = 8 by decide, show (9 : Int32).toInt = 9 by decide, show (10 : Int32).toInt = 10 by decide, show (11 : Int32).toInt = 11 by decide, show (12 : Int32).toInt = 12 by decide, show (13 : Int32).toInt = 13 by decide, show (14 : Int32).toInt = 14 by decide, show (15 : Int32).toInt = 15 by decide, show (16 : Int32).toInt = 16 by decide, show (20 : Int32).toInt = 20 by decide, show (39 : Int32).toInt = 39 by decide, show (40 : Int32).toInt = 40 by decide, show (50 : Int32).toInt = 50 by decide, show (60 : Int32).toInt = 60 by decide, show (99 : Int32).toInt = 99 by decide, show (100 : Int32).toInt = 100 by decide, show (999 : Int32).toInt = 999 by decide, show (9999 : Int32).toInt = 9999 by decide, show (99999 : Int32).toInt = 99999 by decide, show (999999 : Int32).toInt = 999999 by decide, show (9999999 : Int32).toInt = 9999999 by decide, show (-50 : Int32).toInt = -50 by decide, show (32 : Int32).toInt = 32 by decide] at *); (repeat first | rw [if_pos (by omega)] at hz | rw [if_neg (by omega)] at hz); subst hz; rfl
      · generalize hz : opRing d len i = z; unfold opRing at hz; (try simp only [ i_eq, i_lt, i_le, show (-1 : Int32).toInt = -1 by decide, show (0 : Int32).toInt = 0 by decide, show (1 : Int32).toInt = 1 by decide, show (2 : Int32).toInt = 2 by decide, show (3 : Int32).toInt = 3 by decide, show (4 : Int32).toInt = 4 by decide, show (5 : Int32).toInt = 5 by decide, show (6 : Int32).toInt = 6 by decide, show (7 : Int32).toInt = 7 by decide, show (8 : Int32).toInt = 8 by decide, show (9 : Int32).toInt = 9 by decide, show (10 : Int32).toInt = 10 by decide, show (11 : Int32).toInt = 11 by decide, show (12 : Int32).toInt = 12 by decide, show (13 : Int32).toInt = 13 by decide, show (14 : Int32).toInt = 14 by decide, show (15 : Int32).toInt = 15 by decide, show (16 : Int32).toInt = 16 by decide, show (20 : Int32).toInt = 20 by decide, show (39 : Int32).toInt = 39 by decide, show (40 : Int32).toInt = 40 by decide, show (50 : Int32).toInt = 50 by decide, show (60 : Int32).toInt = 60 by decide, show (99 : Int32).toInt = 99 by decide, show (100 : Int32).toInt = 100 by decide, show (999 : Int32).toInt = 999 by decide, show (9999 : Int32).toInt = 9999 by decide, show (99999 : Int32).toInt = 99999 by decide, show (999999 : Int32).toInt = 999999 by decide, show (9999999 : Int32).toInt = 9999999 by decide, show (-50 : Int32).toInt = -50 by decide, show (32 : Int32).toInt = 32 by decide] at *); (repeat first | rw [if_pos (by omega)] at hz | rw [if_neg (by omega)] at hz); subst hz; rw [ze4]; (first | rfl | (funext zz; simp only [va_up, bump, ↓reduceIte]; (repeat' split) <;> first | rfl | (exfalso; omega) | (simp_all; done)))
      · rfl
  · refine z_aload_n X 0 dX12_ring_5 rfl ?_
    refine z_iconst (v := 1) X dX12_ring_6 (by decide) ?_
    refine z_callV X (r_finds (κ := κ) (n := n) (o := (o)) (k := (1)) (fo := (fo)) (im := (im)) (ba := (ba)) (at_ := (at_)) (sz := (sz)) (fa := (fa)) (op := (op)) (rm := (rm)) (ti := (ti)) (tm := (tm)) (wh := (wh)) K0 K1 (by first | assumption | omega) (by first | assumption | omega)) mk_X12_finds dX12_ring_7 wd_1018 wd_1020 wd_24 rfl K0 rfl rfl rfl (Nat.le_of_ble_eq_true rfl) (Nat.le_of_ble_eq_true rfl) (Nat.le_of_ble_eq_true rfl) (by omega) (by omega) (fun q zh24 zm26 zp27 => ?_)
    obtain ⟨rfl, ze25, zn28⟩ := zp27
    subst zm26
    refine z_st (st' := [.int (lowE 1)]) rfl ?_
    have zK29 : zh24 o = some (.inr (12, [.ref (o + 1), .ref (o + 2), .ref (o + 3), .int im, .ref (o + 4), .int ba, .int at_, .int sz, .int fa, .int op, .ref (o + 5), .ref (o + 6), .int rm, .ref (o + 7), .ref (o + 8), .int ti, .ref (o + 9), .int tm, .int wh, .ref (o + 10), .ref (o + 11), .ref (o + 12), .ref (o + 13)])) := by rw [ze25]; rw [va_up_ne _ _ (show o ≠ o + 4 by omega)]; exact K0
    have zK30 : zh24 (o + 4) = arI κ 6 (bmp fo 1) := by rw [ze25]; exact va_up_self _ _ _
    have zK31 : zh24 (o + 1) = arI κ 340 d := by rw [ze25]; rw [va_up_ne _ _ (show o + 1 ≠ o + 4 by omega)]; exact K2
    have zK32 : zh24 (o + 6) = arI κ 40 g := by rw [ze25]; rw [va_up_ne _ _ (show o + 6 ≠ o + 4 by omega)]; exact K3
    refine z_iret X E dX12_ring_10 (by omega) (by omega) ⟨rm, g, ?_, ?_, ?_⟩
    · generalize hz : opRing d len i = z; unfold opRing at hz; (try simp only [ i_eq, i_lt, i_le, show (-1 : Int32).toInt = -1 by decide, show (0 : Int32).toInt = 0 by decide, show (1 : Int32).toInt = 1 by decide, show (2 : Int32).toInt = 2 by decide, show (3 : Int32).toInt = 3 by decide, show (4 : Int32).toInt = 4 by decide, show (5 : Int32).toInt = 5 by decide, show (6 : Int32).toInt = 6 by decide, show (7 : Int32).toInt = 7 by decide, show (8 : Int32).toInt = 8 by decide, show (9 : Int32).toInt = 9 by decide, show (10 : Int32).toInt = 10 by decide, show (11 : Int32).toInt = 11 by decide, show (12 : Int32).toInt = 12 by decide, show (13 : Int32).toInt = 13 by decide, show (14 : Int32).toInt = 14 by decide, show (15 : Int32).toInt = 15 by decide, show (16 : Int32).toInt = 16 by decide, show (20 : Int32).toInt = 20 by decide, show (39 : Int32).toInt = 39 by decide, show (40 : Int32).toInt = 40 by decide, show (50 : Int32).toInt = 50 by decide, show (60 : Int32).toInt = 60 by decide, show (99 : Int32).toInt = 99 by decide, show (100 : Int32).toInt = 100 by decide, show (999 : Int32).toInt = 999 by decide, show (9999 : Int32).toInt = 9999 by decide, show (99999 : Int32).toInt = 99999 by decide, show (999999 : Int32).toInt = 999999 by decide, show (9999999 : Int32).toInt = 9999999 by decide, show (-50 : Int32).toInt = -50 by decide, show (32 : Int32).toInt = 32 by decide] at *); (repeat first | rw [if_pos (by omega)] at hz | rw [if_neg (by omega)] at hz); subst hz; rfl
    · generalize hz : opRing d len i = z; unfold opRing at hz; (try simp only [ i_eq, i_lt, i_le, show (-1 : Int32).toInt = -1 by decide, show (0 : Int32).toInt = 0 by decide, show (1 : Int32).toInt = 1 by decide, show (2 : Int32).toInt = 2 by decide, show (3 : Int32).toInt = 3 by decide, show (4 : Int32).toInt = 4 by decide, show (5 : Int32).toInt = 5 by decide, show (6 : Int32).toInt = 6 by decide, show (7 : Int32).toInt = 7 by decide, show (8 : Int32).toInt = 8 by decide, show (9 : Int32).toInt = 9 by decide, show (10 : Int32).toInt = 10 by decide, show (11 : Int32).toInt = 11 by decide, show (12 : Int32).toInt = 12 by decide, show (13 : Int32).toInt = 13 by decide, show (14 : Int32).toInt = 14 by decide, show (15 : Int32).toInt = 15 by decide, show (16 : Int32).toInt = 16 by decide, show (20 : Int32).toInt = 20 by decide, show (39 : Int32).toInt = 39 by decide, show (40 : Int32).toInt = 40 by decide, show (50 : Int32).toInt = 50 by decide, show (60 : Int32).toInt = 60 by decide, show (99 : Int32).toInt = 99 by decide, show (100 : Int32).toInt = 100 by decide, show (999 : Int32).toInt = 999 by decide, show (9999 : Int32).toInt = 9999 by decide, show (99999 : Int32).toInt = 99999 by decide, show (999999 : Int32).toInt = 999999 by decide, show (9999999 : Int32).toInt = 9999999 by decide, show (-50 : Int32).toInt = -50 by decide, show (32 : Int32).toInt = 32 by decide] at *); (repeat first | rw [if_pos (by omega)] at hz | rw [if_neg (by omega)] at hz); subst hz; rw [ze25]; (first | rfl | (funext zz; simp only [va_up, bump, ↓reduceIte]; (repeat' split) <;> first | rfl | (exfalso; omega) | (simp_all; done)))
    · rfl
def opApart (d : Nat → Int32) (len : Nat) : Nat × Int32 := if rn d len len < 2 then (2, 0) else (0, (nI (rAt d len (rn d len len - 1)) - nI (rAt d len 0)) / nI (rn d len len - 1))
set_option maxHeartbeats 4000000 in
set_option maxRecDepth 100000 in
theorem r_apart {κ : Wc} {l : Launch} {h : Mm} {n : Nat} {o : Nat} {fo : Nat → Int32} {g : Nat → Int32} {d : Nat → Int32} {len : Nat} {im : Int32} {ba : Int32} {at_ : Int32} {sz : Int32} {fa : Int32} {op : Int32} {rm : Int32} {ti : Int32} {tm : Int32} {wh : Int32} (K0 : h o = some (.inr (12, [.ref (o + 1), .ref (o + 2), .ref (o + 3), .int im, .ref (o + 4), .int ba, .int at_, .int sz, .int fa, .int op, .ref (o + 5), .ref (o + 6), .int rm, .ref (o + 7), .ref (o + 8), .int ti, .ref (o + 9), .int tm, .int wh, .ref (o + 10), .ref (o + 11), .ref (o + 12), .ref (o + 13)]))) (K1 : h (o + 4) = arI κ 6 fo) (K2 : h (o + 1) = arI κ 340 d) (K3 : h (o + 6) = arI κ 40 g) (q1 : d 1 = nI len) (q2 : 1 ≤ len) (q3 : len ≤ 40) : Con κ l yX12_apart cX12_apart 1 (some .int) 3 0 0 [.ref o] h n (fun q h' n' => ∃ rm' : Int32, ∃ g' : Nat → Int32, q = some (.int (ansOf (opApart d len))) ∧ h' = va_up (va_up (va_up h o (some (.inr (12, [.ref (o + 1), .ref (o + 2), .ref (o + 3), .int im, .ref (o + 4), .int ba, .int at_, .int sz, .int fa, .int op, .ref (o + 5), .ref (o + 6), .int rm', .ref (o + 7), .ref (o + 8), .int ti, .ref (o + 9), .int tm, .int wh, .ref (o + 10), .ref (o + 11), .ref (o + 12), .ref (o + 13)])))) (o + 6) (arI κ 40 g')) (o + 4) (arI κ 6 (bump (opApart d len) fo)) ∧ n' = n) := by
  refine Con.of mk_X12_apart (Nat.le_of_ble_eq_true rfl) (fun G hG X E => ?_)
  subst hG
  refine z_ls (ls' := [(0, .ref o)]) rfl ?_
  refine z_aload_n X 0 dX12_apart_0 rfl ?_
  refine z_aload_n X 0 dX12_apart_1 rfl ?_
  refine z_get X fl_X12_7_12 dX12_apart_2 K0 rfl ?_
  refine z_callV X (r_findRings (κ := κ) (n := n) (o := (o)) (a := (o + 1)) (m := (d)) (g := (g)) (im := (im)) (ba := (ba)) (at_ := (at_)) (sz := (sz)) (fa := (fa)) (op := (op)) (rm := (rm)) (ti := (ti)) (tm := (tm)) (wh := (wh)) K0 K2 K3 (by first | assumption | omega) (by first | assumption | omega) (by first | assumption | omega) (Or.inl rfl)) mk_X12_findRings dX12_apart_5 wd_1188 wd_1190 wd_41 rfl K0 rfl rfl rfl (Nat.le_of_ble_eq_true rfl) (Nat.le_of_ble_eq_true rfl) (Nat.le_of_ble_eq_true rfl) (by omega) (by omega) (fun q zh2 zm4 zp5 => ?_)
  obtain ⟨g'1, rfl, ze3, zn7, zf6⟩ := zp5
  subst zm4
  refine z_st (st' := []) rfl ?_
  have zK8 : zh2 o = some (.inr (12, [.ref (o + 1), .ref (o + 2), .ref (o + 3), .int im, .ref (o + 4), .int ba, .int at_, .int sz, .int fa, .int op, .ref (o + 5), .ref (o + 6), .int (nI (rn d len len)), .ref (o + 7), .ref (o + 8), .int ti, .ref (o + 9), .int tm, .int wh, .ref (o + 10), .ref (o + 11), .ref (o + 12), .ref (o + 13)])) := by rw [ze3]; rw [va_up_ne _ _ (show o ≠ o + 6 by omega)]; exact va_up_self _ _ _
  have zK9 : zh2 (o + 4) = arI κ 6 fo := by rw [ze3]; rw [va_up_ne _ _ (show o + 4 ≠ o + 6 by omega)]; rw [va_up_ne _ _ (show o + 4 ≠ o by omega)]; exact K1
  have zK10 : zh2 (o + 1) = arI κ 340 d := by rw [ze3]; rw [va_up_ne _ _ (show o + 1 ≠ o + 6 by omega)]; rw [va_up_ne _ _ (show o + 1 ≠ o by omega)]; exact K2
  have zK11 : zh2 (o + 6) = arI κ 40 g'1 := by rw [ze3]; exact va_up_self _ _ _
  have hrn := rn_le d len len
  refine z_aload_n X 0 dX12_apart_8 rfl ?_
  refine z_get X fl_X12_191_12 dX12_apart_9 zK8 rfl ?_
  refine z_iconst (v := 2) X dX12_apart_12 (by decide) ?_
  refine z_icmp_ge X 24 dX12_apart_13 (by decide) (fun zc12 => ?_) (fun zc12 => ?_)
  · try replace zc12 := (nI_leI (a := 2) (b := rn d len len) (by omega) (by omega)).mp zc12
    refine z_aload_n X 0 dX12_apart_24 rfl ?_
    refine z_get X fl_X12_25_12 dX12_apart_25 zK8 rfl ?_
    refine z_aload_n X 0 dX12_apart_28 rfl ?_
    refine z_get X fl_X12_191_12 dX12_apart_29 zK8 rfl ?_
    refine z_iconst (v := 1) X dX12_apart_32 (by decide) ?_
    refine z_isub X dX12_apart_33 ?_
    refine z_toe (y := nI (rn d len len - 1)) (pk_sub (a := rn d len len) (b := 1) (by omega)) ?_
    refine z_iald2 (v := g'1 (rn d len len - 1)) X dX12_apart_34 zK11 (vp_in_nI (n := rn d len len - 1) (by omega) (by omega)) (congrArg g'1 (nI_clamp (n := rn d len len - 1) (by omega))) ?_
    refine z_toe (y := nI (rAt d len (rn d len len - 1))) (rgOk_at zf6 (by omega)) ?_
    refine z_aload_n X 0 dX12_apart_35 rfl ?_
    refine z_get X fl_X12_25_12 dX12_apart_36 zK8 rfl ?_
    refine z_iconst (v := 0) X dX12_apart_39 (by decide) ?_
    refine z_iald2 (v := g'1 0) X dX12_apart_40 zK11 (vp_in_nI (n := 0) (by omega) (by omega)) (congrArg g'1 (nI_clamp (n := 0) (by omega))) ?_
    refine z_toe (y := nI (rAt d len 0)) (rgOk_at zf6 (by omega)) ?_
    refine z_isub X dX12_apart_41 ?_
    refine z_aload_n X 0 dX12_apart_42 rfl ?_
    refine z_get X fl_X12_191_12 dX12_apart_43 zK8 rfl ?_
    refine z_iconst (v := 1) X dX12_apart_46 (by decide) ?_
    refine z_isub X dX12_apart_47 ?_
    refine z_toe (y := nI (rn d len len - 1)) (pk_sub (a := rn d len len) (b := 1) (by omega)) ?_
    refine z_idiv X dX12_apart_48 (fun q => absurd ((nI_eq (a := rn d len len - 1) (b := 0) (by omega) (by omega)).mp q) (by omega)) ?_
    refine z_iret X E dX12_apart_49 (by omega) (by omega) ⟨(nI (rn d len len)), g'1, ?_, ?_, ?_⟩
    · generalize hz : opApart d len = z; unfold opApart at hz; (try simp only [ i_eq, i_lt, i_le, show (-1 : Int32).toInt = -1 by decide, show (0 : Int32).toInt = 0 by decide, show (1 : Int32).toInt = 1 by decide, show (2 : Int32).toInt = 2 by decide, show (3 : Int32).toInt = 3 by decide, show (4 : Int32).toInt = 4 by decide, show (5 : Int32).toInt = 5 by decide, show (6 : Int32).toInt = 6 by decide, show (7 : Int32).toInt = 7 by decide, show (8 : Int32).toInt = 8 by decide, show (9 : Int32).toInt = 9 by decide, show (10 : Int32).toInt = 10 by decide, show (11 : Int32).toInt = 11 by decide, show (12 : Int32).toInt = 12 by decide, show (13 : Int32).toInt = 13 by decide, show (14 : Int32).toInt = 14 by decide, show (15 : Int32).toInt = 15 by decide, show (16 : Int32).toInt = 16 by decide, show (20 : Int32).toInt = 20 by decide, show (39 : Int32).toInt = 39 by decide, show (40 : Int32).toInt = 40 by decide, show (50 : Int32).toInt = 50 by decide, show (60 : Int32).toInt = 60 by decide, show (99 : Int32).toInt = 99 by decide, show (100 : Int32).toInt = 100 by decide, show (999 : Int32).toInt = 999 by decide, show (9999 : Int32).toInt = 9999 by decide, show (99999 : Int32).toInt = 99999 by decide, show (999999 : Int32).toInt = 999999 by decide, show (9999999 : Int32).toInt = 9999999 by decide, show (-50 : Int32).toInt = -50 by decide, show (32 : Int32).toInt = 32 by decide] at *); (repeat first | rw [if_pos (by omega)] at hz | rw [if_neg (by omega)] at hz); subst hz; rfl
    · generalize hz : opApart d len = z; unfold opApart at hz; (try simp only [ i_eq, i_lt, i_le, show (-1 : Int32).toInt = -1 by decide, show (0 : Int32).toInt = 0 by decide, show (1 : Int32).toInt = 1 by decide, show (2 : Int32).toInt = 2 by decide, show (3 : Int32).toInt = 3 by decide, show (4 : Int32).toInt = 4 by decide, show (5 : Int32).toInt = 5 by decide, show (6 : Int32).toInt = 6 by decide, show (7 : Int32).toInt = 7 by decide, show (8 : Int32).toInt = 8 by decide, show (9 : Int32).toInt = 9 by decide, show (10 : Int32).toInt = 10 by decide, show (11 : Int32).toInt = 11 by decide, show (12 : Int32).toInt = 12 by decide, show (13 : Int32).toInt = 13 by decide, show (14 : Int32).toInt = 14 by decide, show (15 : Int32).toInt = 15 by decide, show (16 : Int32).toInt = 16 by decide, show (20 : Int32).toInt = 20 by decide, show (39 : Int32).toInt = 39 by decide, show (40 : Int32).toInt = 40 by decide, show (50 : Int32).toInt = 50 by decide, show (60 : Int32).toInt = 60 by decide, show (99 : Int32).toInt = 99 by decide, show (100 : Int32).toInt = 100 by decide, show (999 : Int32).toInt = 999 by decide, show (9999 : Int32).toInt = 9999 by decide, show (99999 : Int32).toInt = 99999 by decide, show (999999 : Int32).toInt = 999999 by decide, show (9999999 : Int32).toInt = 9999999 by decide, show (-50 : Int32).toInt = -50 by decide, show (32 : Int32).toInt = 32 by decide] at *); (repeat first | rw [if_pos (by omega)] at hz | rw [if_neg (by omega)] at hz); subst hz; rw [ze3]; (first | rfl | (funext zz; simp only [va_up, bump, ↓reduceIte]; (repeat' split) <;> first | rfl | (exfalso; omega) | (simp_all; done)))
    · rfl
  · try replace zc12 := mt (nI_leI (a := 2) (b := rn d len len) (by omega) (by omega)).mpr zc12
    refine z_aload_n X 0 dX12_apart_16 rfl ?_
    refine z_iconst (v := 2) X dX12_apart_17 (by decide) ?_
    refine z_callV X (r_finds (κ := κ) (n := n) (o := (o)) (k := (2)) (fo := (fo)) (im := (im)) (ba := (ba)) (at_ := (at_)) (sz := (sz)) (fa := (fa)) (op := (op)) (rm := (nI (rn d len len))) (ti := (ti)) (tm := (tm)) (wh := (wh)) zK8 zK9 (by first | assumption | omega) (by first | assumption | omega)) mk_X12_finds dX12_apart_18 wd_1018 wd_1020 wd_24 rfl zK8 rfl rfl rfl (Nat.le_of_ble_eq_true rfl) (Nat.le_of_ble_eq_true rfl) (Nat.le_of_ble_eq_true rfl) (by omega) (by omega) (fun q zh13 zm15 zp16 => ?_)
    obtain ⟨rfl, ze14, zn17⟩ := zp16
    subst zm15
    refine z_st (st' := [.int (lowE 2)]) rfl ?_
    have zK18 : zh13 o = some (.inr (12, [.ref (o + 1), .ref (o + 2), .ref (o + 3), .int im, .ref (o + 4), .int ba, .int at_, .int sz, .int fa, .int op, .ref (o + 5), .ref (o + 6), .int (nI (rn d len len)), .ref (o + 7), .ref (o + 8), .int ti, .ref (o + 9), .int tm, .int wh, .ref (o + 10), .ref (o + 11), .ref (o + 12), .ref (o + 13)])) := by rw [ze14]; rw [va_up_ne _ _ (show o ≠ o + 4 by omega)]; exact zK8
    have zK19 : zh13 (o + 4) = arI κ 6 (bmp fo 2) := by rw [ze14]; exact va_up_self _ _ _
    have zK20 : zh13 (o + 1) = arI κ 340 d := by rw [ze14]; rw [va_up_ne _ _ (show o + 1 ≠ o + 4 by omega)]; exact zK10
    have zK21 : zh13 (o + 6) = arI κ 40 g'1 := by rw [ze14]; rw [va_up_ne _ _ (show o + 6 ≠ o + 4 by omega)]; exact zK11
    refine z_goto X 49 dX12_apart_21 (by decide) ?_
    refine z_iret X E dX12_apart_49 (by omega) (by omega) ⟨(nI (rn d len len)), g'1, ?_, ?_, ?_⟩
    · generalize hz : opApart d len = z; unfold opApart at hz; (try simp only [ i_eq, i_lt, i_le, show (-1 : Int32).toInt = -1 by decide, show (0 : Int32).toInt = 0 by decide, show (1 : Int32).toInt = 1 by decide, show (2 : Int32).toInt = 2 by decide, show (3 : Int32).toInt = 3 by decide, show (4 : Int32).toInt = 4 by decide, show (5 : Int32).toInt = 5 by decide, show (6 : Int32).toInt = 6 by decide, show (7 : Int32).toInt = 7 by decide, show (8 : Int32).toInt = 8 by decide, show (9 : Int32).toInt = 9 by decide, show (10 : Int32).toInt = 10 by decide, show (11 : Int32).toInt = 11 by decide, show (12 : Int32).toInt = 12 by decide, show (13 : Int32).toInt = 13 by decide, show (14 : Int32).toInt = 14 by decide, show (15 : Int32).toInt = 15 by decide, show (16 : Int32).toInt = 16 by decide, show (20 : Int32).toInt = 20 by decide, show (39 : Int32).toInt = 39 by decide, show (40 : Int32).toInt = 40 by decide, show (50 : Int32).toInt = 50 by decide, show (60 : Int32).toInt = 60 by decide, show (99 : Int32).toInt = 99 by decide, show (100 : Int32).toInt = 100 by decide, show (999 : Int32).toInt = 999 by decide, show (9999 : Int32).toInt = 9999 by decide, show (99999 : Int32).toInt = 99999 by decide, show (999999 : Int32).toInt = 999999 by decide, show (9999999 : Int32).toInt = 9999999 by decide, show (-50 : Int32).toInt = -50 by decide, show (32 : Int32).toInt = 32 by decide] at *); (repeat first | rw [if_pos (by omega)] at hz | rw [if_neg (by omega)] at hz); subst hz; rfl
    · generalize hz : opApart d len = z; unfold opApart at hz; (try simp only [ i_eq, i_lt, i_le, show (-1 : Int32).toInt = -1 by decide, show (0 : Int32).toInt = 0 by decide, show (1 : Int32).toInt = 1 by decide, show (2 : Int32).toInt = 2 by decide, show (3 : Int32).toInt = 3 by decide, show (4 : Int32).toInt = 4 by decide, show (5 : Int32).toInt = 5 by decide, show (6 : Int32).toInt = 6 by decide, show (7 : Int32).toInt = 7 by decide, show (8 : Int32).toInt = 8 by decide, show (9 : Int32).toInt = 9 by decide, show (10 : Int32).toInt = 10 by decide, show (11 : Int32).toInt = 11 by decide, show (12 : Int32).toInt = 12 by decide, show (13 : Int32).toInt = 13 by decide, show (14 : Int32).toInt = 14 by decide, show (15 : Int32).toInt = 15 by decide, show (16 : Int32).toInt = 16 by decide, show (20 : Int32).toInt = 20 by decide, show (39 : Int32).toInt = 39 by decide, show (40 : Int32).toInt = 40 by decide, show (50 : Int32).toInt = 50 by decide, show (60 : Int32).toInt = 60 by decide, show (99 : Int32).toInt = 99 by decide, show (100 : Int32).toInt = 100 by decide, show (999 : Int32).toInt = 999 by decide, show (9999 : Int32).toInt = 9999 by decide, show (99999 : Int32).toInt = 99999 by decide, show (999999 : Int32).toInt = 999999 by decide, show (9999999 : Int32).toInt = 9999999 by decide, show (-50 : Int32).toInt = -50 by decide, show (32 : Int32).toInt = 32 by decide] at *); (repeat first | rw [if_pos (by omega)] at hz | rw [if_neg (by omega)] at hz); subst hz; rw [ze14, ze3]; (first | rfl | (funext zz; simp only [va_up, bump, ↓reduceIte]; (repeat' split) <;> first | rfl | (exfalso; omega) | (simp_all; done)))
    · rfl
def aboveR (k : Int32) : Int32 := if k.toInt = 3 then 2 else if k.toInt = 4 then 3 else if k.toInt = 6 then 1 else 0
set_option maxHeartbeats 4000000 in
set_option maxRecDepth 100000 in
theorem r_above {κ : Wc} {l : Launch} {h : Mm} {n : Nat} {k : Int32}   : Con κ l yX12_above cX12_above 1 (some .int) 1 0 0 [.int k] h n (fun q h' n' => q = some (.int (aboveR k)) ∧ h' = h ∧ n' = n) := by
  refine Con.of mk_X12_above (Nat.le_of_ble_eq_true rfl) (fun G hG X E => ?_)
  subst hG
  refine z_ls (ls' := [(0, .int k)]) rfl ?_
  refine z_iload_n X 0 dX12_above_0 rfl ?_
  refine z_iconst (v := 3) X dX12_above_1 (by decide) ?_
  refine z_icmp_ne X 9 dX12_above_2 (by decide) (fun zc1 => ?_) (fun zc1 => ?_)
  · refine z_iload_n X 0 dX12_above_9 rfl ?_
    refine z_iconst (v := 4) X dX12_above_10 (by decide) ?_
    refine z_icmp_ne X 18 dX12_above_11 (by decide) (fun zc2 => ?_) (fun zc2 => ?_)
    · refine z_iload_n X 0 dX12_above_18 rfl ?_
      refine z_bipush (v := 6) X dX12_above_19 (by decide) ?_
      refine z_icmp_ne X 28 dX12_above_21 (by decide) (fun zc3 => ?_) (fun zc3 => ?_)
      · refine z_iconst (v := 0) X dX12_above_28 (by decide) ?_
        refine z_iret X E dX12_above_29 (by omega) (by omega) ⟨?_, ?_, ?_⟩
        · (try simp only [ i_eq, i_lt, i_le, show (-1 : Int32).toInt = -1 by decide, show (0 : Int32).toInt = 0 by decide, show (1 : Int32).toInt = 1 by decide, show (2 : Int32).toInt = 2 by decide, show (3 : Int32).toInt = 3 by decide, show (4 : Int32).toInt = 4 by decide, show (5 : Int32).toInt = 5 by decide, show (6 : Int32).toInt = 6 by decide, show (7 : Int32).toInt = 7 by decide, show (8 : Int32).toInt = 8 by decide, show (9 : Int32).toInt = 9 by decide, show (10 : Int32).toInt = 10 by decide, show (11 : Int32).toInt = 11 by decide, show (12 : Int32).toInt = 12 by decide, show (13 : Int32).toInt = 13 by decide, show (14 : Int32).toInt = 14 by decide, show (15 : Int32).toInt = 15 by decide, show (16 : Int32).toInt = 16 by decide, show (20 : Int32).toInt = 20 by decide, show (39 : Int32).toInt = 39 by decide, show (40 : Int32).toInt = 40 by decide, show (50 : Int32).toInt = 50 by decide, show (60 : Int32).toInt = 60 by decide, show (99 : Int32).toInt = 99 by decide, show (100 : Int32).toInt = 100 by decide, show (999 : Int32).toInt = 999 by decide, show (9999 : Int32).toInt = 9999 by decide, show (99999 : Int32).toInt = 99999 by decide, show (999999 : Int32).toInt = 999999 by decide, show (9999999 : Int32).toInt = 9999999 by decide, show (-50 : Int32).toInt = -50 by decide, show (32 : Int32).toInt = 32 by decide] at *); rw [aboveR]; (repeat first | rw [if_pos (by omega)] | rw [if_neg (by omega)])
        · first | rfl | (funext zz; simp only [va_up]; (repeat' split) <;> first | rfl | (exfalso; omega) | simp_all)
        · rfl
      · refine z_iconst (v := 1) X dX12_above_24 (by decide) ?_
        refine z_goto X 29 dX12_above_25 (by decide) ?_
        refine z_iret X E dX12_above_29 (by omega) (by omega) ⟨?_, ?_, ?_⟩
        · (try simp only [ i_eq, i_lt, i_le, show (-1 : Int32).toInt = -1 by decide, show (0 : Int32).toInt = 0 by decide, show (1 : Int32).toInt = 1 by decide, show (2 : Int32).toInt = 2 by decide, show (3 : Int32).toInt = 3 by decide, show (4 : Int32).toInt = 4 by decide, show (5 : Int32).toInt = 5 by decide, show (6 : Int32).toInt = 6 by decide, show (7 : Int32).toInt = 7 by decide, show (8 : Int32).toInt = 8 by decide, show (9 : Int32).toInt = 9 by decide, show (10 : Int32).toInt = 10 by decide, show (11 : Int32).toInt = 11 by decide, show (12 : Int32).toInt = 12 by decide, show (13 : Int32).toInt = 13 by decide, show (14 : Int32).toInt = 14 by decide, show (15 : Int32).toInt = 15 by decide, show (16 : Int32).toInt = 16 by decide, show (20 : Int32).toInt = 20 by decide, show (39 : Int32).toInt = 39 by decide, show (40 : Int32).toInt = 40 by decide, show (50 : Int32).toInt = 50 by decide, show (60 : Int32).toInt = 60 by decide, show (99 : Int32).toInt = 99 by decide, show (100 : Int32).toInt = 100 by decide, show (999 : Int32).toInt = 999 by decide, show (9999 : Int32).toInt = 9999 by decide, show (99999 : Int32).toInt = 99999 by decide, show (999999 : Int32).toInt = 999999 by decide, show (9999999 : Int32).toInt = 9999999 by decide, show (-50 : Int32).toInt = -50 by decide, show (32 : Int32).toInt = 32 by decide] at *); rw [aboveR]; (repeat first | rw [if_pos (by omega)] | rw [if_neg (by omega)])
        · first | rfl | (funext zz; simp only [va_up]; (repeat' split) <;> first | rfl | (exfalso; omega) | simp_all)
        · rfl
    · refine z_iconst (v := 3) X dX12_above_14 (by decide) ?_
      refine z_goto X 29 dX12_above_15 (by decide) ?_
      refine z_iret X E dX12_above_29 (by omega) (by omega) ⟨?_, ?_, ?_⟩
      · (try simp only [ i_eq, i_lt, i_le, show (-1 : Int32).toInt = -1 by decide, show (0 : Int32).toInt = 0 by decide, show (1 : Int32).toInt = 1 by decide, show (2 : Int32).toInt = 2 by decide, show (3 : Int32).toInt = 3 by decide, show (4 : Int32).toInt = 4 by decide, show (5 : Int32).toInt = 5 by decide, show (6 : Int32).toInt = 6 by decide, show (7 : Int32).toInt = 7 by decide, show (8 : Int32).toInt = 8 by decide, show (9 : Int32).toInt = 9 by decide, show (10 : Int32).toInt = 10 by decide, show (11 : Int32).toInt = 11 by decide, show (12 : Int32).toInt = 12 by decide, show (13 : Int32).toInt = 13 by decide, show (14 : Int32).toInt = 14 by decide, show (15 : Int32).toInt = 15 by decide, show (16 : Int32).toInt = 16 by decide, show (20 : Int32).toInt = 20 by decide, show (39 : Int32).toInt = 39 by decide, show (40 : Int32).toInt = 40 by decide, show (50 : Int32).toInt = 50 by decide, show (60 : Int32).toInt = 60 by decide, show (99 : Int32).toInt = 99 by decide, show (100 : Int32).toInt = 100 by decide, show (999 : Int32).toInt = 999 by decide, show (9999 : Int32).toInt = 9999 by decide, show (99999 : Int32).toInt = 99999 by decide, show (999999 : Int32).toInt = 999999 by decide, show (9999999 : Int32).toInt = 9999999 by decide, show (-50 : Int32).toInt = -50 by decide, show (32 : Int32).toInt = 32 by decide] at *); rw [aboveR]; (repeat first | rw [if_pos (by omega)] | rw [if_neg (by omega)])
      · first | rfl | (funext zz; simp only [va_up]; (repeat' split) <;> first | rfl | (exfalso; omega) | simp_all)
      · rfl
  · refine z_iconst (v := 2) X dX12_above_5 (by decide) ?_
    refine z_goto X 29 dX12_above_6 (by decide) ?_
    refine z_iret X E dX12_above_29 (by omega) (by omega) ⟨?_, ?_, ?_⟩
    · (try simp only [ i_eq, i_lt, i_le, show (-1 : Int32).toInt = -1 by decide, show (0 : Int32).toInt = 0 by decide, show (1 : Int32).toInt = 1 by decide, show (2 : Int32).toInt = 2 by decide, show (3 : Int32).toInt = 3 by decide, show (4 : Int32).toInt = 4 by decide, show (5 : Int32).toInt = 5 by decide, show (6 : Int32).toInt = 6 by decide, show (7 : Int32).toInt = 7 by decide, show (8 : Int32).toInt = 8 by decide, show (9 : Int32).toInt = 9 by decide, show (10 : Int32).toInt = 10 by decide, show (11 : Int32).toInt = 11 by decide, show (12 : Int32).toInt = 12 by decide, show (13 : Int32).toInt = 13 by decide, show (14 : Int32).toInt = 14 by decide, show (15 : Int32).toInt = 15 by decide, show (16 : Int32).toInt = 16 by decide, show (20 : Int32).toInt = 20 by decide, show (39 : Int32).toInt = 39 by decide, show (40 : Int32).toInt = 40 by decide, show (50 : Int32).toInt = 50 by decide, show (60 : Int32).toInt = 60 by decide, show (99 : Int32).toInt = 99 by decide, show (100 : Int32).toInt = 100 by decide, show (999 : Int32).toInt = 999 by decide, show (9999 : Int32).toInt = 9999 by decide, show (99999 : Int32).toInt = 99999 by decide, show (999999 : Int32).toInt = 999999 by decide, show (9999999 : Int32).toInt = 9999999 by decide, show (-50 : Int32).toInt = -50 by decide, show (32 : Int32).toInt = 32 by decide] at *); rw [aboveR]; (repeat first | rw [if_pos (by omega)] | rw [if_neg (by omega)])
    · first | rfl | (funext zz; simp only [va_up]; (repeat' split) <;> first | rfl | (exfalso; omega) | simp_all)
    · rfl
def ranN (tn : Nat) : Nat := if tn < 40 then tn + 1 else tn
def ranF (tr : Nat → Int32) (tn : Nat) (b : Int32) : Nat → Int32 := if tn < 40 then upd tr tn b else tr
set_option maxHeartbeats 4000000 in
set_option maxRecDepth 100000 in
theorem r_ran {κ : Wc} {l : Launch} {h : Mm} {n : Nat} {o : Nat} {b : Int32} {tn : Nat} {tr : Nat → Int32} {im : Int32} {ba : Int32} {at_ : Int32} {sz : Int32} {fa : Int32} {op : Int32} {rm : Int32} {ti : Int32} {wh : Int32} (K0 : h o = some (.inr (12, [.ref (o + 1), .ref (o + 2), .ref (o + 3), .int im, .ref (o + 4), .int ba, .int at_, .int sz, .int fa, .int op, .ref (o + 5), .ref (o + 6), .int rm, .ref (o + 7), .ref (o + 8), .int ti, .ref (o + 9), .int (nI tn), .int wh, .ref (o + 10), .ref (o + 11), .ref (o + 12), .ref (o + 13)]))) (K1 : h (o + 9) = arI κ 40 tr) (p1 : tn ≤ 40) : Con κ l yX12_ran cX12_ran 2 none 1 0 0 [.ref o, .int b] h n (fun q h' n' => q = none ∧ h' = va_up (va_up h o (some (.inr (12, [.ref (o + 1), .ref (o + 2), .ref (o + 3), .int im, .ref (o + 4), .int ba, .int at_, .int sz, .int fa, .int op, .ref (o + 5), .ref (o + 6), .int rm, .ref (o + 7), .ref (o + 8), .int ti, .ref (o + 9), .int (nI (ranN tn)), .int wh, .ref (o + 10), .ref (o + 11), .ref (o + 12), .ref (o + 13)])))) (o + 9) (arI κ 40 (ranF tr tn b)) ∧ n' = n) := by
  refine Con.of mk_X12_ran (Nat.le_of_ble_eq_true rfl) (fun G hG X E => ?_)
  subst hG
  refine z_ls (ls' := [(0, .ref o), (1, .int b)]) rfl ?_
  refine z_aload_n X 0 dX12_ran_0 rfl ?_
  refine z_get X fl_X12_241_12 dX12_ran_1 K0 rfl ?_
  refine z_bipush (v := 40) X dX12_ran_4 (by decide) ?_
  refine z_icmp_ge X 29 dX12_ran_6 (by decide) (fun zc1 => ?_) (fun zc1 => ?_)
  · try replace zc1 := (nI_leI (a := 40) (b := tn) (by omega) (by omega)).mp zc1
    refine z_vret X E dX12_ran_29 (by omega) (by omega) ⟨?_, ?_, ?_⟩
    · rfl
    · unfold ranN ranF; (first | rw [if_pos (by omega), if_pos (by omega)] | rw [if_neg (by omega), if_neg (by omega)]); rw [up_same _ _ K0, up_same _ _ K1]
    · rfl
  · try replace zc1 := mt (nI_leI (a := 40) (b := tn) (by omega) (by omega)).mpr zc1
    refine z_aload_n X 0 dX12_ran_9 rfl ?_
    refine z_get X fl_X12_34_12 dX12_ran_10 K0 rfl ?_
    refine z_aload_n X 0 dX12_ran_13 rfl ?_
    refine z_get X fl_X12_241_12 dX12_ran_14 K0 rfl ?_
    refine z_iload_n X 1 dX12_ran_17 rfl ?_
    refine z_iast X dX12_ran_18 K1 (vp_in_nI (n := tn) (by omega) (by omega)) (congrArg (fun z => va_up h (o + 9) (arI κ 40 (upd tr z b))) (nI_clamp (n := tn) (by omega))) ?_
    obtain ⟨zh2, ze3⟩ : ∃ z : Mm, z = va_up h (o + 9) (arI κ 40 (upd tr tn b)) := ⟨_, rfl⟩
    refine z_heap (h' := zh2) ze3.symm ?_
    have zK4 := up_off ze3 (show o ≠ o + 9 by omega) K0
    have zK5 := up_at ze3
    refine z_aload_n X 0 dX12_ran_19 rfl ?_
    refine z_dup X dX12_ran_20 rfl ?_
    refine z_get X fl_X12_241_12 dX12_ran_21 zK4 rfl ?_
    refine z_iconst (v := 1) X dX12_ran_24 (by decide) ?_
    refine z_iadd X dX12_ran_25 ?_
    refine z_toe (y := nI (tn + 1)) (nI_add (tn) (1)) ?_
    refine z_put X fp_X12_241_12 dX12_ran_26 zK4 (by first | rfl | decide) (by first | rfl | decide) (Nat.le_of_ble_eq_true rfl) rfl ?_
    obtain ⟨zh6, ze7⟩ : ∃ z : Mm, z = va_up zh2 o (some (.inr (12, [.ref (o + 1), .ref (o + 2), .ref (o + 3), .int im, .ref (o + 4), .int ba, .int at_, .int sz, .int fa, .int op, .ref (o + 5), .ref (o + 6), .int rm, .ref (o + 7), .ref (o + 8), .int ti, .ref (o + 9), .int (nI (tn + 1)), .int wh, .ref (o + 10), .ref (o + 11), .ref (o + 12), .ref (o + 13)]))) := ⟨_, rfl⟩
    refine z_heap (h' := zh6) ze7.symm ?_
    have zK8 := up_at ze7
    have zK9 := up_off ze7 (show o + 9 ≠ o by omega) zK5
    refine z_vret X E dX12_ran_29 (by omega) (by omega) ⟨?_, ?_, ?_⟩
    · rfl
    · unfold ranN ranF; (first | rw [if_pos (by omega), if_pos (by omega)] | rw [if_neg (by omega), if_neg (by omega)]); rw [ze7, ze3]; funext zz; simp only [va_up]; (repeat' split) <;> first | rfl | (exfalso; omega) | (simp_all; done)
    · rfl
set_option maxHeartbeats 4000000 in
set_option maxRecDepth 100000 in
theorem r_own {κ : Wc} {l : Launch} {h : Mm} {n : Nat} {o : Nat} {d : Nat → Int32} {who : Nat} {im : Int32} {ba : Int32} {at_ : Int32} {sz : Int32} {fa : Int32} {op : Int32} {rm : Int32} {ti : Int32} {tm : Int32} (K0 : h o = some (.inr (12, [.ref (o + 1), .ref (o + 2), .ref (o + 3), .int im, .ref (o + 4), .int ba, .int at_, .int sz, .int fa, .int op, .ref (o + 5), .ref (o + 6), .int rm, .ref (o + 7), .ref (o + 8), .int ti, .ref (o + 9), .int tm, .int (nI who), .ref (o + 10), .ref (o + 11), .ref (o + 12), .ref (o + 13)]))) (K1 : h (o + 1) = arI κ 340 d) (p1 : who < 6) : Con κ l yX12_own cX12_own 1 (some .int) 1 0 0 [.ref o] h n (fun q h' n' => q = some (.int (d (20 + 2 * who))) ∧ h' = h ∧ n' = n) := by
  refine Con.of mk_X12_own (Nat.le_of_ble_eq_true rfl) (fun G hG X E => ?_)
  subst hG
  refine z_ls (ls' := [(0, .ref o)]) rfl ?_
  refine z_aload_n X 0 dX12_own_0 rfl ?_
  refine z_get X fl_X12_7_12 dX12_own_1 K0 rfl ?_
  refine z_bipush (v := 20) X dX12_own_4 (by decide) ?_
  refine z_iconst (v := 2) X dX12_own_6 (by decide) ?_
  refine z_aload_n X 0 dX12_own_7 rfl ?_
  refine z_get X fl_X12_244_12 dX12_own_8 K0 rfl ?_
  refine z_imul X dX12_own_11 ?_
  refine z_toe (y := nI (2 * who)) (pk_mul (2) (who)) ?_
  refine z_iadd X dX12_own_12 ?_
  refine z_toe (y := nI (20 + (2 * who))) (nI_add (20) (2 * who)) ?_
  refine z_iald2 (v := d (20 + (2 * who))) X dX12_own_13 K1 (vp_in_nI (n := 20 + (2 * who)) (by omega) (by omega)) (congrArg d (nI_clamp (n := 20 + (2 * who)) (by omega))) ?_
  refine z_iret X E dX12_own_14 (by omega) (by omega) ⟨?_, ?_, ?_⟩
  · rfl
  · first | rfl | (funext zz; simp only [va_up]; (repeat' split) <;> first | rfl | (exfalso; omega) | simp_all)
  · rfl
set_option maxHeartbeats 4000000 in
set_option maxRecDepth 100000 in
theorem r_toldM {κ : Wc} {l : Launch} {h : Mm} {n : Nat} {o : Nat} {d : Nat → Int32} {who : Nat} {im : Int32} {ba : Int32} {at_ : Int32} {sz : Int32} {fa : Int32} {op : Int32} {rm : Int32} {ti : Int32} {tm : Int32} (K0 : h o = some (.inr (12, [.ref (o + 1), .ref (o + 2), .ref (o + 3), .int im, .ref (o + 4), .int ba, .int at_, .int sz, .int fa, .int op, .ref (o + 5), .ref (o + 6), .int rm, .ref (o + 7), .ref (o + 8), .int ti, .ref (o + 9), .int tm, .int (nI who), .ref (o + 10), .ref (o + 11), .ref (o + 12), .ref (o + 13)]))) (K1 : h (o + 1) = arI κ 340 d) (p1 : who < 6) : Con κ l yX12_toldM cX12_toldM 1 (some .int) 1 0 0 [.ref o] h n (fun q h' n' => q = some (.int (d (20 + 2 * who + 1))) ∧ h' = h ∧ n' = n) := by
  refine Con.of mk_X12_toldM (Nat.le_of_ble_eq_true rfl) (fun G hG X E => ?_)
  subst hG
  refine z_ls (ls' := [(0, .ref o)]) rfl ?_
  refine z_aload_n X 0 dX12_toldM_0 rfl ?_
  refine z_get X fl_X12_7_12 dX12_toldM_1 K0 rfl ?_
  refine z_bipush (v := 20) X dX12_toldM_4 (by decide) ?_
  refine z_iconst (v := 2) X dX12_toldM_6 (by decide) ?_
  refine z_aload_n X 0 dX12_toldM_7 rfl ?_
  refine z_get X fl_X12_244_12 dX12_toldM_8 K0 rfl ?_
  refine z_imul X dX12_toldM_11 ?_
  refine z_toe (y := nI (2 * who)) (pk_mul (2) (who)) ?_
  refine z_iadd X dX12_toldM_12 ?_
  refine z_toe (y := nI (20 + (2 * who))) (nI_add (20) (2 * who)) ?_
  refine z_iconst (v := 1) X dX12_toldM_13 (by decide) ?_
  refine z_iadd X dX12_toldM_14 ?_
  refine z_toe (y := nI ((20 + (2 * who)) + 1)) (nI_add (20 + (2 * who)) (1)) ?_
  refine z_iald2 (v := d ((20 + (2 * who)) + 1)) X dX12_toldM_15 K1 (vp_in_nI (n := (20 + (2 * who)) + 1) (by omega) (by omega)) (congrArg d (nI_clamp (n := (20 + (2 * who)) + 1) (by omega))) ?_
  refine z_iret X E dX12_toldM_16 (by omega) (by omega) ⟨?_, ?_, ?_⟩
  · rfl
  · first | rfl | (funext zz; simp only [va_up]; (repeat' split) <;> first | rfl | (exfalso; omega) | simp_all)
  · rfl
set_option maxHeartbeats 4000000 in
set_option maxRecDepth 100000 in
theorem r_isLate {κ : Wc} {l : Launch} {h : Mm} {n : Nat} {o : Nat} {v : Int32} {d : Nat → Int32} {im : Int32} {ba : Int32} {at_ : Int32} {sz : Int32} {fa : Int32} {op : Int32} {rm : Int32} {ti : Int32} {tm : Int32} {wh : Int32} (K0 : h o = some (.inr (12, [.ref (o + 1), .ref (o + 2), .ref (o + 3), .int im, .ref (o + 4), .int ba, .int at_, .int sz, .int fa, .int op, .ref (o + 5), .ref (o + 6), .int rm, .ref (o + 7), .ref (o + 8), .int ti, .ref (o + 9), .int tm, .int wh, .ref (o + 10), .ref (o + 11), .ref (o + 12), .ref (o + 13)]))) (K1 : h (o + 1) = arI κ 340 d)  : Con κ l yX12_isLate cX12_isLate 2 (some .boolean) 1 0 0 [.ref o, .int v] h n (fun q h' n' => q = some (.int (b2i (9999 < d 0 + v))) ∧ h' = h ∧ n' = n) := by
  refine Con.of mk_X12_isLate (Nat.le_of_ble_eq_true rfl) (fun G hG X E => ?_)
  subst hG
  refine z_ls (ls' := [(0, .ref o), (1, .int v)]) rfl ?_
  refine z_aload_n X 0 dX12_isLate_0 rfl ?_
  refine z_get X fl_X12_7_12 dX12_isLate_1 K0 rfl ?_
  refine z_iconst (v := 0) X dX12_isLate_4 (by decide) ?_
  refine z_iald2 (v := d 0) X dX12_isLate_5 K1 (vp_in_nI (n := 0) (by omega) (by omega)) (congrArg d (nI_clamp (n := 0) (by omega))) ?_
  refine z_iload_n X 1 dX12_isLate_6 rfl ?_
  refine z_iadd X dX12_isLate_7 ?_
  refine z_sipush (v := 9999) X dX12_isLate_8 (by decide) ?_
  refine z_icmp_le X 18 dX12_isLate_11 (by decide) (fun zc1 => ?_) (fun zc1 => ?_)
  · refine z_iconst (v := 0) X dX12_isLate_18 (by decide) ?_
    refine z_zret X E dX12_isLate_19 (by first | rfl | exact b2i_nar _) (by omega) (by omega) ⟨?_, ?_, ?_⟩
    · first | rw [b2i_1 (Int32.not_le.mp (by assumption))] | rw [b2i_0 (Int32.not_lt.mpr (by assumption))]
    · first | rfl | (funext zz; simp only [va_up]; (repeat' split) <;> first | rfl | (exfalso; omega) | simp_all)
    · rfl
  · refine z_iconst (v := 1) X dX12_isLate_14 (by decide) ?_
    refine z_goto X 19 dX12_isLate_15 (by decide) ?_
    refine z_zret X E dX12_isLate_19 (by first | rfl | exact b2i_nar _) (by omega) (by omega) ⟨?_, ?_, ?_⟩
    · first | rw [b2i_1 (Int32.not_le.mp (by assumption))] | rw [b2i_0 (Int32.not_lt.mpr (by assumption))]
    · first | rfl | (funext zz; simp only [va_up]; (repeat' split) <;> first | rfl | (exfalso; omega) | simp_all)
    · rfl
