abbrev litE (T : Nat → Nat → Int32) (tx : Nat → Nat) (d : Nat → Int32) (v s : Nat) : Nat → Int32 := gbyN T tx v (upd d 5 (nI s))
def litF (T : Nat → Nat → Int32) (tx : Nat → Nat) (d : Nat → Int32) (v : Nat) (r : Int32) : Nat → Nat → Option Nat
  | 0, _ => none
  | f + 1, s => if r.toInt ≤ rnE (litE T tx d v s) then some s else litF T tx d v r f (s + 1)
theorem litF_go {T : Nat → Nat → Int32} {tx : Nat → Nat} {d : Nat → Int32} {v i : Nat} {r : Int32} (hi : i < 100) (h : ¬ r.toInt ≤ rnE (litE T tx d v i)) : litF T tx d v r (100 - i) i = litF T tx d v r (100 - (i + 1)) (i + 1) := by
  rw [show 100 - i = (100 - (i + 1)) + 1 by omega]
  exact if_neg h
theorem litF_hit {T : Nat → Nat → Int32} {tx : Nat → Nat} {d : Nat → Int32} {v i : Nat} {r : Int32} (hi : i < 100) (h : r.toInt ≤ rnE (litE T tx d v i)) : litF T tx d v r (100 - i) i = some i := by
  rw [show 100 - i = (100 - (i + 1)) + 1 by omega]
  exact if_pos h
def opLittle (T : Nat → Nat → Int32) (tx : Nat → Nat) (d : Nat → Int32) (v r : Int32) : Nat × Int32 := if ¬ (0 ≤ v.toInt ∧ v.toInt ≤ 60 ∧ 0 ≤ r.toInt ∧ r.toInt ≤ 40) then (1, 0) else match litF T tx d v.toNatClampNeg r 100 0 with
  | none => (2, 0)
  | some s => (0, nI s)
theorem opLittle_0 {T : Nat → Nat → Int32} {tx : Nat → Nat} {d : Nat → Int32} {v j : Nat} {r : Int32} (h : v ≤ 60) (h2 : 0 ≤ r.toInt ∧ r.toInt ≤ 40) (hb : litF T tx d v r 100 0 = some j) : opLittle T tx d (nI v) r = (0, nI j) := by
  unfold opLittle
  rw [i_nI (by omega), nI_clamp (by omega), if_neg (by omega), hb]
theorem opLittle_2 {T : Nat → Nat → Int32} {tx : Nat → Nat} {d : Nat → Int32} {v : Nat} {r : Int32} (h : v ≤ 60) (h2 : 0 ≤ r.toInt ∧ r.toInt ≤ 40) (hb : litF T tx d v r 100 0 = none) : opLittle T tx d (nI v) r = (2, 0) := by
  unfold opLittle
  rw [i_nI (by omega), nI_clamp (by omega), if_neg (by omega), hb]
set_option maxHeartbeats 4000000 in
set_option maxRecDepth 100000 in
theorem r_little {κ : Wc} {l : Launch} {h : Mm} {n : Nat} {o : Nat} {fo : Nat → Int32} {d : Nat → Int32} {e : Nat → Int32} {g : Nat → Int32} {nm : Nat → Int32} {nc : Nat} {tx : Nat → Nat} {im : Int32} {ba : Int32} {at_ : Int32} {sz : Int32} {fa : Int32} {op : Int32} {rm : Int32} {ti : Int32} {tm : Int32} {wh : Int32} {v : Int32} {r : Int32} (K0 : h o = some (.inr (12, [.ref (o + 1), .ref (o + 2), .ref (o + 3), .int im, .ref (o + 4), .int ba, .int at_, .int sz, .int fa, .int op, .ref (o + 5), .ref (o + 6), .int rm, .ref (o + 7), .ref (o + 8), .int ti, .ref (o + 9), .int tm, .int wh, .ref (o + 10), .ref (o + 11), .ref (o + 12), .ref (o + 13)]))) (K1 : h (o + 4) = arI κ 6 fo) (K2 : h (o + 1) = arI κ 340 d) (K3 : h (o + 2) = arI κ 340 e) (K4 : h (o + 5) = arI κ 3 nm) (K5 : h (o + 6) = arI κ 40 g) (q8 : ∀ u, u < 2 → d (60 + u) = nI (tx u) ∧ tx u ≤ 50) (hOk : lnOk d) (q4 : d 11 = nI nc) (q5 : nc ≤ 6) : Con κ l yX12_little cX12_little 4 (some .int) 45 0 0 [.ref o, .int v, .int r] h n (fun q h' n' => ∃ ba' : Int32, ∃ at' : Int32, ∃ sz' : Int32, ∃ fa' : Int32, ∃ op' : Int32, ∃ nm' : Nat → Int32, ∃ rm' : Int32, ∃ e' : Nat → Int32, ∃ g' : Nat → Int32, q = some (.int (ansOf (opLittle (Tx d) tx d v r))) ∧ h' = va_up (va_up (va_up (va_up (va_up h o (some (.inr (12, [.ref (o + 1), .ref (o + 2), .ref (o + 3), .int im, .ref (o + 4), .int ba', .int at', .int sz', .int fa', .int op', .ref (o + 5), .ref (o + 6), .int rm', .ref (o + 7), .ref (o + 8), .int ti, .ref (o + 9), .int tm, .int wh, .ref (o + 10), .ref (o + 11), .ref (o + 12), .ref (o + 13)])))) (o + 5) (arI κ 3 nm')) (o + 2) (arI κ 340 e')) (o + 6) (arI κ 40 g')) (o + 4) (arI κ 6 (bump (opLittle (Tx d) tx d v r) fo)) ∧ n' = n) := by
  refine Con.of mk_X12_little (Nat.le_of_ble_eq_true rfl) (fun G hG X E => ?_)
  subst hG
  refine z_ls (ls' := [(0, .ref o), (1, .int v), (2, .int r)]) rfl ?_
  refine z_iload_n X 1 dX12_little_0 rfl ?_
  refine z_callS X (r_isAhead (κ := κ) (n := n) (v := (v))  ) mk_X12_isAhead dX12_little_1 wd_1200 wd_1201 rfl rfl (Nat.le_of_ble_eq_true rfl) (Nat.le_of_ble_eq_true rfl) (Nat.le_of_ble_eq_true rfl) (by omega) (by omega) (fun q zh1 zm3 zp4 => ?_)
  obtain ⟨rfl, ze2, zn5⟩ := zp4
  subst zm3
  subst zh1
  refine z_st (st' := [.int (b2i (0 ≤ (v : Int32).toInt ∧ (v : Int32).toInt ≤ 60))]) rfl ?_
  refine z_if_eq X 19 dX12_little_4 (by decide) (fun zc6 => ?_) (fun zc6 => ?_)
  · replace zc6 := b2i_f zc6
    refine z_aload_n X 0 dX12_little_19 rfl ?_
    refine z_iconst (v := 1) X dX12_little_20 (by decide) ?_
    refine z_callV X (r_finds (κ := κ) (n := n) (o := (o)) (k := (1)) (fo := (fo)) (im := (im)) (ba := (ba)) (at_ := (at_)) (sz := (sz)) (fa := (fa)) (op := (op)) (rm := (rm)) (ti := (ti)) (tm := (tm)) (wh := (wh)) K0 K1 (by first | assumption | omega) (by first | assumption | omega)) mk_X12_finds dX12_little_21 wd_1018 wd_1020 wd_24 rfl K0 rfl rfl rfl (Nat.le_of_ble_eq_true rfl) (Nat.le_of_ble_eq_true rfl) (Nat.le_of_ble_eq_true rfl) (by omega) (by omega) (fun q zh7 zm9 zp10 => ?_)
    obtain ⟨rfl, ze8, zn11⟩ := zp10
    subst zm9
    refine z_st (st' := [.int (lowE 1)]) rfl ?_
    have zK12 : zh7 o = some (.inr (12, [.ref (o + 1), .ref (o + 2), .ref (o + 3), .int im, .ref (o + 4), .int ba, .int at_, .int sz, .int fa, .int op, .ref (o + 5), .ref (o + 6), .int rm, .ref (o + 7), .ref (o + 8), .int ti, .ref (o + 9), .int tm, .int wh, .ref (o + 10), .ref (o + 11), .ref (o + 12), .ref (o + 13)])) := by rw [ze8]; rw [va_up_ne _ _ (show o ≠ o + 4 by omega)]; exact K0
    have zK13 : zh7 (o + 4) = arI κ 6 (bmp fo 1) := by rw [ze8]; exact va_up_self _ _ _
    have zK14 : zh7 (o + 1) = arI κ 340 d := by rw [ze8]; rw [va_up_ne _ _ (show o + 1 ≠ o + 4 by omega)]; exact K2
    have zK15 : zh7 (o + 2) = arI κ 340 e := by rw [ze8]; rw [va_up_ne _ _ (show o + 2 ≠ o + 4 by omega)]; exact K3
    have zK16 : zh7 (o + 5) = arI κ 3 nm := by rw [ze8]; rw [va_up_ne _ _ (show o + 5 ≠ o + 4 by omega)]; exact K4
    have zK17 : zh7 (o + 6) = arI κ 40 g := by rw [ze8]; rw [va_up_ne _ _ (show o + 6 ≠ o + 4 by omega)]; exact K5
    refine z_iret X E dX12_little_24 (by omega) (by omega) ⟨ba, at_, sz, fa, op, nm, rm, e, g, ?_, ?_, ?_⟩
    · generalize hz : opLittle (Tx d) tx d v r = z; unfold opLittle at hz; (try simp only [ i_eq, i_lt, i_le, show (-1 : Int32).toInt = -1 by decide, show (0 : Int32).toInt = 0 by decide, show (1 : Int32).toInt = 1 by decide, show (2 : Int32).toInt = 2 by decide, show (3 : Int32).toInt = 3 by decide, show (4 : Int32).toInt = 4 by decide, show (5 : Int32).toInt = 5 by decide, show (6 : Int32).toInt = 6 by decide, show (7 : Int32).toInt = 7 by decide, show (8 : Int32).toInt = 8 by decide, show (9 : Int32).toInt = 9 by decide, show (10 : Int32).toInt = 10 by decide, show (11 : Int32).toInt = 11 by decide, show (12 : Int32).toInt = 12 by decide, show (13 : Int32).toInt = 13 by decide, show (14 : Int32).toInt = 14 by decide, show (15 : Int32).toInt = 15 by decide, show (16 : Int32).toInt = 16 by decide, show (20 : Int32).toInt = 20 by decide, show (39 : Int32).toInt = 39 by decide, show (40 : Int32).toInt = 40 by decide, show (50 : Int32).toInt = 50 by decide, show (60 : Int32).toInt = 60 by decide, show (99 : Int32).toInt = 99 by decide, show (100 : Int32).toInt = 100 by decide, show (999 : Int32).toInt = 999 by decide, show (9999 : Int32).toInt = 9999 by decide, show (99999 : Int32).toInt = 99999 by decide, show (999999 : Int32).toInt = 999999 by decide, show (9999999 : Int32).toInt = 9999999 by decide, show (-50 : Int32).toInt = -50 by decide, show (32 : Int32).toInt = 32 by decide] at *); (repeat first | rw [if_pos (by omega)] at hz | rw [if_neg (by omega)] at hz); subst hz; first | exact congrArg (fun z => some (Value.int z)) (ansOf_0 _).symm | rfl
    · generalize hz : opLittle (Tx d) tx d v r = z; unfold opLittle at hz; (try simp only [ i_eq, i_lt, i_le, show (-1 : Int32).toInt = -1 by decide, show (0 : Int32).toInt = 0 by decide, show (1 : Int32).toInt = 1 by decide, show (2 : Int32).toInt = 2 by decide, show (3 : Int32).toInt = 3 by decide, show (4 : Int32).toInt = 4 by decide, show (5 : Int32).toInt = 5 by decide, show (6 : Int32).toInt = 6 by decide, show (7 : Int32).toInt = 7 by decide, show (8 : Int32).toInt = 8 by decide, show (9 : Int32).toInt = 9 by decide, show (10 : Int32).toInt = 10 by decide, show (11 : Int32).toInt = 11 by decide, show (12 : Int32).toInt = 12 by decide, show (13 : Int32).toInt = 13 by decide, show (14 : Int32).toInt = 14 by decide, show (15 : Int32).toInt = 15 by decide, show (16 : Int32).toInt = 16 by decide, show (20 : Int32).toInt = 20 by decide, show (39 : Int32).toInt = 39 by decide, show (40 : Int32).toInt = 40 by decide, show (50 : Int32).toInt = 50 by decide, show (60 : Int32).toInt = 60 by decide, show (99 : Int32).toInt = 99 by decide, show (100 : Int32).toInt = 100 by decide, show (999 : Int32).toInt = 999 by decide, show (9999 : Int32).toInt = 9999 by decide, show (99999 : Int32).toInt = 99999 by decide, show (999999 : Int32).toInt = 999999 by decide, show (9999999 : Int32).toInt = 9999999 by decide, show (-50 : Int32).toInt = -50 by decide, show (32 : Int32).toInt = 32 by decide] at *); (repeat first | rw [if_pos (by omega)] at hz | rw [if_neg (by omega)] at hz); subst hz; funext zz; by_cases zq4 : zz = o + 4; (rw [zq4, va_up_self]; exact zK13); by_cases zq3 : zz = o + 6; (rw [zq3, va_up_ne _ _ (show o + 6 ≠ o + 4 by omega), va_up_self]; exact zK17); by_cases zq2 : zz = o + 2; (rw [zq2, va_up_ne _ _ (show o + 2 ≠ o + 4 by omega), va_up_ne _ _ (show o + 2 ≠ o + 6 by omega), va_up_self]; exact zK15); by_cases zq1 : zz = o + 5; (rw [zq1, va_up_ne _ _ (show o + 5 ≠ o + 4 by omega), va_up_ne _ _ (show o + 5 ≠ o + 6 by omega), va_up_ne _ _ (show o + 5 ≠ o + 2 by omega), va_up_self]; exact zK16); by_cases zq0 : zz = o; (rw [zq0, va_up_ne _ _ (show o ≠ o + 4 by omega), va_up_ne _ _ (show o ≠ o + 6 by omega), va_up_ne _ _ (show o ≠ o + 2 by omega), va_up_ne _ _ (show o ≠ o + 5 by omega), va_up_self]; exact zK12); rw [va_up_ne _ _ zq4, va_up_ne _ _ zq3, va_up_ne _ _ zq2, va_up_ne _ _ zq1, va_up_ne _ _ zq0]; rw [ze8]; simp only [va_up, if_neg zq0, if_neg zq1, if_neg zq2, if_neg zq3, if_neg zq4]
    · rfl
  · replace zc6 := b2i_t zc6
    refine z_iload_n X 2 dX12_little_7 rfl ?_
    refine z_i2l X dX12_little_8 rfl ?_
    refine z_lconst (v := 0) X dX12_little_9 (by decide) ?_
    refine z_ldc2 X dX12_little_10 wd_1236 ?_
    refine z_callS X (r_in (κ := κ) (n := n) (v := (r.toInt64)) (lo := (0 : Int64)) (hi := (40 : Int64))  ) mk_X12_in dX12_little_13 wd_1014 wd_1015 rfl rfl (Nat.le_of_ble_eq_true rfl) (Nat.le_of_ble_eq_true rfl) (Nat.le_of_ble_eq_true rfl) (by omega) (by omega) (fun q zh18 zm20 zp21 => ?_)
    obtain ⟨rfl, ze19, zn22⟩ := zp21
    subst zm20
    subst zh18
    refine z_st (st' := [.int (b2i ((0 : Int64).toInt ≤ (r.toInt64 : Int64).toInt ∧ (r.toInt64 : Int64).toInt ≤ (40 : Int64).toInt))]) rfl ?_
    refine z_toe (y := b2i (0 ≤ r.toInt ∧ r.toInt ≤ 40)) (by simp only [Int32.toInt_toInt64, show (0 : Int64).toInt = 0 by decide, show (40 : Int64).toInt = 40 by decide]) ?_
    refine z_if_ne X 25 dX12_little_16 (by decide) (fun zc23 => ?_) (fun zc23 => ?_)
    · replace zc23 := b2i_t zc23
      have hrr : 0 ≤ r.toInt ∧ r.toInt ≤ 40 := by assumption
      obtain ⟨vk, hvk, rfl⟩ := ix_of (c := v) (len := 61) (by omega) (by omega)
      refine z_iconst (v := 0) X dX12_little_25 (by decide) ?_
      refine z_istore_n (ls' := [(3, .int 0), (0, .ref o), (1, .int (nI vk)), (2, .int r)]) X dX12_little_26 (by decide) rfl ?_
      have L27 : ∀ (jj : Nat) (hh27 : Mm)  (i : Nat) (ba2 : Int32) (at2 : Int32) (sz2 : Int32) (fa2 : Int32) (op2 : Int32) (nm2 : Nat → Int32) (e2 : Nat → Int32) (rm2 : Int32) (g2 : Nat → Int32), (100 - i < jj) → (hh27 = va_up (va_up (va_up (va_up h o (some (.inr (12, [.ref (o + 1), .ref (o + 2), .ref (o + 3), .int im, .ref (o + 4), .int ba2, .int at2, .int sz2, .int fa2, .int op2, .ref (o + 5), .ref (o + 6), .int rm2, .ref (o + 7), .ref (o + 8), .int ti, .ref (o + 9), .int tm, .int wh, .ref (o + 10), .ref (o + 11), .ref (o + 12), .ref (o + 13)])))) (o + 5) (arI κ 3 nm2)) (o + 2) (arI κ 340 e2)) (o + 6) (arI κ 40 g2)) → (hi : i ≤ 100) → (hR : litF (Tx d) tx d vk r 100 0 = litF (Tx d) tx d vk r (100 - i) i) → Z κ G 4 27 [(0, .ref o), (1, .int (nI vk)), (2, .int r), (3, .int (nI i))] [] hh27 n 0 (0) := by
        intro jj
        induction jj with
        | zero => intro hh27 i ba2 at2 sz2 fa2 op2 nm2 e2 rm2 g2 hmu; exact absurd hmu (Nat.not_lt_zero _)
        | succ jj ih27 =>
          intro hh27 i ba2 at2 sz2 fa2 op2 nm2 e2 rm2 g2 hmu he27 hi hR
          have zK24 : hh27 o = some (.inr (12, [.ref (o + 1), .ref (o + 2), .ref (o + 3), .int im, .ref (o + 4), .int ba2, .int at2, .int sz2, .int fa2, .int op2, .ref (o + 5), .ref (o + 6), .int rm2, .ref (o + 7), .ref (o + 8), .int ti, .ref (o + 9), .int tm, .int wh, .ref (o + 10), .ref (o + 11), .ref (o + 12), .ref (o + 13)])) := by rw [he27]; rw [va_up_ne _ _ (show o ≠ o + 6 by omega)]; rw [va_up_ne _ _ (show o ≠ o + 2 by omega)]; rw [va_up_ne _ _ (show o ≠ o + 5 by omega)]; exact va_up_self _ _ _
          have zK25 : hh27 (o + 4) = arI κ 6 fo := by rw [he27]; rw [va_up_ne _ _ (show o + 4 ≠ o + 6 by omega)]; rw [va_up_ne _ _ (show o + 4 ≠ o + 2 by omega)]; rw [va_up_ne _ _ (show o + 4 ≠ o + 5 by omega)]; rw [va_up_ne _ _ (show o + 4 ≠ o by omega)]; exact K1
          have zK26 : hh27 (o + 1) = arI κ 340 d := by rw [he27]; rw [va_up_ne _ _ (show o + 1 ≠ o + 6 by omega)]; rw [va_up_ne _ _ (show o + 1 ≠ o + 2 by omega)]; rw [va_up_ne _ _ (show o + 1 ≠ o + 5 by omega)]; rw [va_up_ne _ _ (show o + 1 ≠ o by omega)]; exact K2
          have zK27 : hh27 (o + 2) = arI κ 340 e2 := by rw [he27]; rw [va_up_ne _ _ (show o + 2 ≠ o + 6 by omega)]; exact va_up_self _ _ _
          have zK28 : hh27 (o + 5) = arI κ 3 nm2 := by rw [he27]; rw [va_up_ne _ _ (show o + 5 ≠ o + 6 by omega)]; rw [va_up_ne _ _ (show o + 5 ≠ o + 2 by omega)]; exact va_up_self _ _ _
          have zK29 : hh27 (o + 6) = arI κ 40 g2 := by rw [he27]; exact va_up_self _ _ _
          refine z_iload_n X 3 dX12_little_27 rfl ?_
          refine z_bipush (v := 100) X dX12_little_28 (by decide) ?_
          refine z_icmp_ge X 80 dX12_little_30 (by decide) (fun zc30 => ?_) (fun zc30 => ?_)
          · try replace zc30 := (nI_leI (a := 100) (b := i) (by omega) (by omega)).mp zc30
            refine z_aload_n X 0 dX12_little_80 rfl ?_
            refine z_iconst (v := 2) X dX12_little_81 (by decide) ?_
            refine z_callV X (r_finds (κ := κ) (n := n) (o := (o)) (k := (2)) (fo := (fo)) (im := (im)) (ba := (ba2)) (at_ := (at2)) (sz := (sz2)) (fa := (fa2)) (op := (op2)) (rm := (rm2)) (ti := (ti)) (tm := (tm)) (wh := (wh)) zK24 zK25 (by first | assumption | omega) (by first | assumption | omega)) mk_X12_finds dX12_little_82 wd_1018 wd_1020 wd_24 rfl zK24 rfl rfl rfl (Nat.le_of_ble_eq_true rfl) (Nat.le_of_ble_eq_true rfl) (Nat.le_of_ble_eq_true rfl) (by omega) (by omega) (fun q zh31 zm33 zp34 => ?_)
            obtain ⟨rfl, ze32, zn35⟩ := zp34
            subst zm33
            refine z_st (st' := [.int (lowE 2)]) rfl ?_
            have zK36 : zh31 o = some (.inr (12, [.ref (o + 1), .ref (o + 2), .ref (o + 3), .int im, .ref (o + 4), .int ba2, .int at2, .int sz2, .int fa2, .int op2, .ref (o + 5), .ref (o + 6), .int rm2, .ref (o + 7), .ref (o + 8), .int ti, .ref (o + 9), .int tm, .int wh, .ref (o + 10), .ref (o + 11), .ref (o + 12), .ref (o + 13)])) := by rw [ze32]; rw [va_up_ne _ _ (show o ≠ o + 4 by omega)]; exact zK24
            have zK37 : zh31 (o + 4) = arI κ 6 (bmp fo 2) := by rw [ze32]; exact va_up_self _ _ _
            have zK38 : zh31 (o + 1) = arI κ 340 d := by rw [ze32]; rw [va_up_ne _ _ (show o + 1 ≠ o + 4 by omega)]; exact zK26
            have zK39 : zh31 (o + 2) = arI κ 340 e2 := by rw [ze32]; rw [va_up_ne _ _ (show o + 2 ≠ o + 4 by omega)]; exact zK27
            have zK40 : zh31 (o + 5) = arI κ 3 nm2 := by rw [ze32]; rw [va_up_ne _ _ (show o + 5 ≠ o + 4 by omega)]; exact zK28
            have zK41 : zh31 (o + 6) = arI κ 40 g2 := by rw [ze32]; rw [va_up_ne _ _ (show o + 6 ≠ o + 4 by omega)]; exact zK29
            refine z_iret X E dX12_little_85 (by omega) (by omega) ⟨ba2, at2, sz2, fa2, op2, nm2, rm2, e2, g2, ?_, ?_, ?_⟩
            · rw [opLittle_2 (by omega) hrr (hR.trans (by rw [show 100 - i = 0 by omega]; rfl))]; first | exact congrArg (fun z => some (Value.int z)) (ansOf_0 _).symm | rfl
            · rw [opLittle_2 (by omega) hrr (hR.trans (by rw [show 100 - i = 0 by omega]; rfl))]; funext zz; by_cases zq4 : zz = o + 4; (rw [zq4, va_up_self]; exact zK37); by_cases zq3 : zz = o + 6; (rw [zq3, va_up_ne _ _ (show o + 6 ≠ o + 4 by omega), va_up_self]; exact zK41); by_cases zq2 : zz = o + 2; (rw [zq2, va_up_ne _ _ (show o + 2 ≠ o + 4 by omega), va_up_ne _ _ (show o + 2 ≠ o + 6 by omega), va_up_self]; exact zK39); by_cases zq1 : zz = o + 5; (rw [zq1, va_up_ne _ _ (show o + 5 ≠ o + 4 by omega), va_up_ne _ _ (show o + 5 ≠ o + 6 by omega), va_up_ne _ _ (show o + 5 ≠ o + 2 by omega), va_up_self]; exact zK40); by_cases zq0 : zz = o; (rw [zq0, va_up_ne _ _ (show o ≠ o + 4 by omega), va_up_ne _ _ (show o ≠ o + 6 by omega), va_up_ne _ _ (show o ≠ o + 2 by omega), va_up_ne _ _ (show o ≠ o + 5 by omega), va_up_self]; exact zK36); rw [va_up_ne _ _ zq4, va_up_ne _ _ zq3, va_up_ne _ _ zq2, va_up_ne _ _ zq1, va_up_ne _ _ zq0]; rw [ze32, he27]; simp only [va_up, if_neg zq0, if_neg zq1, if_neg zq2, if_neg zq3, if_neg zq4]
            · rfl
          · try replace zc30 := mt (nI_leI (a := 100) (b := i) (by omega) (by omega)).mpr zc30
            refine z_aload_n X 0 dX12_little_33 rfl ?_
            refine z_get X fl_X12_7_12 dX12_little_34 zK24 rfl ?_
            refine z_aload_n X 0 dX12_little_37 rfl ?_
            refine z_get X fl_X12_13_12 dX12_little_38 zK24 rfl ?_
            refine z_callS X (r_copies (κ := κ) (n := n) (a := (o + 1)) (b := (o + 2)) (f := (d)) (g := (e2)) zK26 zK27 (by first | assumption | omega)) mk_X12_copies dX12_little_41 wd_1208 wd_1209 rfl rfl (Nat.le_of_ble_eq_true rfl) (Nat.le_of_ble_eq_true rfl) (Nat.le_of_ble_eq_true rfl) (by omega) (by omega) (fun q zh42 zm44 zp45 => ?_)
            obtain ⟨rfl, ze43, zn46⟩ := zp45
            subst zm44
            refine z_st (st' := []) rfl ?_
            have zK47 : zh42 o = some (.inr (12, [.ref (o + 1), .ref (o + 2), .ref (o + 3), .int im, .ref (o + 4), .int ba2, .int at2, .int sz2, .int fa2, .int op2, .ref (o + 5), .ref (o + 6), .int rm2, .ref (o + 7), .ref (o + 8), .int ti, .ref (o + 9), .int tm, .int wh, .ref (o + 10), .ref (o + 11), .ref (o + 12), .ref (o + 13)])) := by rw [ze43]; rw [va_up_ne _ _ (show o ≠ o + 2 by omega)]; exact zK24
            have zK48 : zh42 (o + 4) = arI κ 6 fo := by rw [ze43]; rw [va_up_ne _ _ (show o + 4 ≠ o + 2 by omega)]; exact zK25
            have zK49 : zh42 (o + 1) = arI κ 340 d := by rw [ze43]; rw [va_up_ne _ _ (show o + 1 ≠ o + 2 by omega)]; exact zK26
            have zK50 : zh42 (o + 2) = arI κ 340 d := by rw [ze43]; exact va_up_self _ _ _
            have zK51 : zh42 (o + 5) = arI κ 3 nm2 := by rw [ze43]; rw [va_up_ne _ _ (show o + 5 ≠ o + 2 by omega)]; exact zK28
            have zK52 : zh42 (o + 6) = arI κ 40 g2 := by rw [ze43]; rw [va_up_ne _ _ (show o + 6 ≠ o + 2 by omega)]; exact zK29
            refine z_aload_n X 0 dX12_little_44 rfl ?_
            refine z_get X fl_X12_13_12 dX12_little_45 zK47 rfl ?_
            refine z_iconst (v := 5) X dX12_little_48 (by decide) ?_
            refine z_iload_n X 3 dX12_little_49 rfl ?_
            refine z_iast X dX12_little_50 zK50 (vp_in_nI (n := 5) (by omega) (by omega)) (congrArg (fun z => va_up zh42 (o + 2) (arI κ 340 (upd d z (nI i)))) (nI_clamp (n := 5) (by omega))) ?_
            obtain ⟨zh53, ze54⟩ : ∃ z : Mm, z = va_up zh42 (o + 2) (arI κ 340 (upd d 5 (nI i))) := ⟨_, rfl⟩
            refine z_heap (h' := zh53) ze54.symm ?_
            have zK55 := up_off ze54 (show o ≠ o + 2 by omega) zK47
            have zK56 := up_off ze54 (show o + 4 ≠ o + 2 by omega) zK48
            have zK57 := up_off ze54 (show o + 1 ≠ o + 2 by omega) zK49
            have zK58 := up_at ze54
            have zK59 := up_off ze54 (show o + 5 ≠ o + 2 by omega) zK51
            have zK60 := up_off ze54 (show o + 6 ≠ o + 2 by omega) zK52
            refine z_aload_n X 0 dX12_little_51 rfl ?_
            refine z_iload_n X 1 dX12_little_52 rfl ?_
            refine z_callV X (r_goesAhead (κ := κ) (n := n) (o := (o)) (v := (vk)) (d := (d)) (m := (upd d 5 (nI i))) (nm := (nm2)) (nc := (nc)) (im := (im)) (ba := (ba2)) (at_ := (at2)) (sz := (sz2)) (fa := (fa2)) (op := (op2)) (rm := (rm2)) (ti := (ti)) (tm := (tm)) (wh := (wh)) zK55 zK57 zK58 zK59 (q8) (lnOk_upd hOk (by omega)) ((pk_un (by omega)).trans q4) (by first | assumption | omega) (by first | assumption | omega)) mk_X12_goesAhead dX12_little_53 wd_1211 wd_1213 wd_43 rfl zK55 rfl rfl rfl (Nat.le_of_ble_eq_true rfl) (Nat.le_of_ble_eq_true rfl) (Nat.le_of_ble_eq_true rfl) (by omega) (by omega) (fun q zh67 zm69 zp70 => ?_)
            obtain ⟨ba'61, at'62, sz'63, fa'64, op'65, nm'66, rfl, ze68, zn71⟩ := zp70
            subst zm69
            refine z_st (st' := []) rfl ?_
            have zK72 : zh67 o = some (.inr (12, [.ref (o + 1), .ref (o + 2), .ref (o + 3), .int im, .ref (o + 4), .int ba'61, .int at'62, .int sz'63, .int fa'64, .int op'65, .ref (o + 5), .ref (o + 6), .int rm2, .ref (o + 7), .ref (o + 8), .int ti, .ref (o + 9), .int tm, .int wh, .ref (o + 10), .ref (o + 11), .ref (o + 12), .ref (o + 13)])) := by rw [ze68]; rw [va_up_ne _ _ (show o ≠ o + 2 by omega)]; rw [va_up_ne _ _ (show o ≠ o + 5 by omega)]; exact va_up_self _ _ _
            have zK73 : zh67 (o + 4) = arI κ 6 fo := by rw [ze68]; rw [va_up_ne _ _ (show o + 4 ≠ o + 2 by omega)]; rw [va_up_ne _ _ (show o + 4 ≠ o + 5 by omega)]; rw [va_up_ne _ _ (show o + 4 ≠ o by omega)]; exact zK56
            have zK74 : zh67 (o + 1) = arI κ 340 d := by rw [ze68]; rw [va_up_ne _ _ (show o + 1 ≠ o + 2 by omega)]; rw [va_up_ne _ _ (show o + 1 ≠ o + 5 by omega)]; rw [va_up_ne _ _ (show o + 1 ≠ o by omega)]; exact zK57
            have zK75 : zh67 (o + 2) = arI κ 340 (gbyN (Tx d) tx vk (upd d 5 (nI i))) := by rw [ze68]; exact va_up_self _ _ _
            have zK76 : zh67 (o + 5) = arI κ 3 nm'66 := by rw [ze68]; rw [va_up_ne _ _ (show o + 5 ≠ o + 2 by omega)]; exact va_up_self _ _ _
            have zK77 : zh67 (o + 6) = arI κ 40 g2 := by rw [ze68]; rw [va_up_ne _ _ (show o + 6 ≠ o + 2 by omega)]; rw [va_up_ne _ _ (show o + 6 ≠ o + 5 by omega)]; rw [va_up_ne _ _ (show o + 6 ≠ o by omega)]; exact zK60
            refine z_aload_n X 0 dX12_little_56 rfl ?_
            refine z_aload_n X 0 dX12_little_57 rfl ?_
            refine z_get X fl_X12_13_12 dX12_little_58 zK72 rfl ?_
            refine z_callV X (r_findRings (κ := κ) (n := n) (o := (o)) (a := (o + 2)) (m := (gbyN (Tx d) tx vk (upd d 5 (nI i)))) (len := (lnO (gbyN (Tx d) tx vk (upd d 5 (nI i))))) (g := (g2)) (im := (im)) (ba := (ba'61)) (at_ := (at'62)) (sz := (sz'63)) (fa := (fa'64)) (op := (op'65)) (rm := (rm2)) (ti := (ti)) (tm := (tm)) (wh := (wh)) zK72 zK75 zK77 ((gbyN_ok (lnOk_upd hOk (by omega)) vk).1) ((gbyN_ok (lnOk_upd hOk (by omega)) vk).2.1) ((gbyN_ok (lnOk_upd hOk (by omega)) vk).2.2) (Or.inr rfl)) mk_X12_findRings dX12_little_61 wd_1188 wd_1190 wd_41 rfl zK72 rfl rfl rfl (Nat.le_of_ble_eq_true rfl) (Nat.le_of_ble_eq_true rfl) (Nat.le_of_ble_eq_true rfl) (by omega) (by omega) (fun q zh79 zm81 zp82 => ?_)
            obtain ⟨g'78, rfl, ze80, zn84, zf83⟩ := zp82
            subst zm81
            refine z_st (st' := []) rfl ?_
            have zK85 : zh79 o = some (.inr (12, [.ref (o + 1), .ref (o + 2), .ref (o + 3), .int im, .ref (o + 4), .int ba'61, .int at'62, .int sz'63, .int fa'64, .int op'65, .ref (o + 5), .ref (o + 6), .int (nI (rn (gbyN (Tx d) tx vk (upd d 5 (nI i))) (lnO (gbyN (Tx d) tx vk (upd d 5 (nI i)))) (lnO (gbyN (Tx d) tx vk (upd d 5 (nI i)))))), .ref (o + 7), .ref (o + 8), .int ti, .ref (o + 9), .int tm, .int wh, .ref (o + 10), .ref (o + 11), .ref (o + 12), .ref (o + 13)])) := by rw [ze80]; rw [va_up_ne _ _ (show o ≠ o + 6 by omega)]; exact va_up_self _ _ _
            have zK86 : zh79 (o + 4) = arI κ 6 fo := by rw [ze80]; rw [va_up_ne _ _ (show o + 4 ≠ o + 6 by omega)]; rw [va_up_ne _ _ (show o + 4 ≠ o by omega)]; exact zK73
            have zK87 : zh79 (o + 1) = arI κ 340 d := by rw [ze80]; rw [va_up_ne _ _ (show o + 1 ≠ o + 6 by omega)]; rw [va_up_ne _ _ (show o + 1 ≠ o by omega)]; exact zK74
            have zK88 : zh79 (o + 2) = arI κ 340 (gbyN (Tx d) tx vk (upd d 5 (nI i))) := by rw [ze80]; rw [va_up_ne _ _ (show o + 2 ≠ o + 6 by omega)]; rw [va_up_ne _ _ (show o + 2 ≠ o by omega)]; exact zK75
            have zK89 : zh79 (o + 5) = arI κ 3 nm'66 := by rw [ze80]; rw [va_up_ne _ _ (show o + 5 ≠ o + 6 by omega)]; rw [va_up_ne _ _ (show o + 5 ≠ o by omega)]; exact zK76
            have zK90 : zh79 (o + 6) = arI κ 40 g'78 := by rw [ze80]; exact va_up_self _ _ _
            have hrn := rn_le (gbyN (Tx d) tx vk (upd d 5 (nI i))) (lnO (gbyN (Tx d) tx vk (upd d 5 (nI i)))) (lnO (gbyN (Tx d) tx vk (upd d 5 (nI i))))
            have hrnq : lnO (gbyN (Tx d) tx vk (upd d 5 (nI i))) ≤ 40 := (gbyN_ok (lnOk_upd hOk (by omega)) vk).2.2
            refine z_aload_n X 0 dX12_little_64 rfl ?_
            refine z_get X fl_X12_191_12 dX12_little_65 zK85 rfl ?_
            refine z_iload_n X 2 dX12_little_68 rfl ?_
            refine z_icmp_lt X 74 dX12_little_69 (by decide) (fun zc91 => ?_) (fun zc91 => ?_)
            · have hbn : ¬ r.toInt ≤ rnE (gbyN (Tx d) tx vk (upd d 5 (nI i))) := by (unfold rnE; rw [i_lt, i_nI (by omega)] at zc91; omega)
              refine z_iinc (v := nI (i + 1)) (ls' := [(3, .int (nI (i + 1))), (0, .ref o), (1, .int (nI vk)), (2, .int r)]) X 3 dX12_little_74 rfl (nI_1 (i)) (by decide) rfl ?_
              refine z_goto X 27 dX12_little_77 (by decide) ?_
              refine z_sub (ls' := [(0, .ref o), (1, .int (nI vk)), (2, .int r), (3, .int (nI (i + 1)))]) [1, 2, 3, 0] rfl ?_
              exact ih27 _ (i + 1) ba'61 at'62 sz'63 fa'64 op'65 nm'66 (gbyN (Tx d) tx vk (upd d 5 (nI i))) (nI (rn (gbyN (Tx d) tx vk (upd d 5 (nI i))) (lnO (gbyN (Tx d) tx vk (upd d 5 (nI i)))) (lnO (gbyN (Tx d) tx vk (upd d 5 (nI i)))))) g'78 (by omega) (by funext zz; by_cases zq3 : zz = o + 6; (rw [zq3, va_up_self]; exact zK90); by_cases zq2 : zz = o + 2; (rw [zq2, va_up_ne _ _ (show o + 2 ≠ o + 6 by omega), va_up_self]; exact zK88); by_cases zq1 : zz = o + 5; (rw [zq1, va_up_ne _ _ (show o + 5 ≠ o + 6 by omega), va_up_ne _ _ (show o + 5 ≠ o + 2 by omega), va_up_self]; exact zK89); by_cases zq0 : zz = o; (rw [zq0, va_up_ne _ _ (show o ≠ o + 6 by omega), va_up_ne _ _ (show o ≠ o + 2 by omega), va_up_ne _ _ (show o ≠ o + 5 by omega), va_up_self]; exact zK85); rw [va_up_ne _ _ zq3, va_up_ne _ _ zq2, va_up_ne _ _ zq1, va_up_ne _ _ zq0]; rw [ze80, ze68, ze54, ze43, he27]; simp only [va_up, if_neg zq0, if_neg zq1, if_neg zq2, if_neg zq3]) (by first | assumption | rfl | omega) (by rw [hR]; exact litF_go (by omega) hbn)
            · have hbn : r.toInt ≤ rnE (gbyN (Tx d) tx vk (upd d 5 (nI i))) := by (unfold rnE; rw [i_lt, i_nI (by omega)] at zc91; omega)
              refine z_iload_n X 3 dX12_little_72 rfl ?_
              refine z_iret X E dX12_little_73 (by omega) (by omega) ⟨ba'61, at'62, sz'63, fa'64, op'65, nm'66, (nI (rn (gbyN (Tx d) tx vk (upd d 5 (nI i))) (lnO (gbyN (Tx d) tx vk (upd d 5 (nI i)))) (lnO (gbyN (Tx d) tx vk (upd d 5 (nI i)))))), (gbyN (Tx d) tx vk (upd d 5 (nI i))), g'78, ?_, ?_, ?_⟩
              · rw [opLittle_0 (by omega) hrr (hR.trans (litF_hit (by omega) hbn))]; first | exact congrArg (fun z => some (Value.int z)) (ansOf_0 _).symm | rfl
              · rw [opLittle_0 (by omega) hrr (hR.trans (litF_hit (by omega) hbn))]; funext zz; by_cases zq4 : zz = o + 4; (rw [zq4, va_up_self]; exact zK86); by_cases zq3 : zz = o + 6; (rw [zq3, va_up_ne _ _ (show o + 6 ≠ o + 4 by omega), va_up_self]; exact zK90); by_cases zq2 : zz = o + 2; (rw [zq2, va_up_ne _ _ (show o + 2 ≠ o + 4 by omega), va_up_ne _ _ (show o + 2 ≠ o + 6 by omega), va_up_self]; exact zK88); by_cases zq1 : zz = o + 5; (rw [zq1, va_up_ne _ _ (show o + 5 ≠ o + 4 by omega), va_up_ne _ _ (show o + 5 ≠ o + 6 by omega), va_up_ne _ _ (show o + 5 ≠ o + 2 by omega), va_up_self]; exact zK89); by_cases zq0 : zz = o; (rw [zq0, va_up_ne _ _ (show o ≠ o + 4 by omega), va_up_ne _ _ (show o ≠ o + 6 by omega), va_up_ne _ _ (show o ≠ o + 2 by omega), va_up_ne _ _ (show o ≠ o + 5 by omega), va_up_self]; exact zK85); rw [va_up_ne _ _ zq4, va_up_ne _ _ zq3, va_up_ne _ _ zq2, va_up_ne _ _ zq1, va_up_ne _ _ zq0]; rw [ze80, ze68, ze54, ze43, he27]; simp only [va_up, if_neg zq0, if_neg zq1, if_neg zq2, if_neg zq3, if_neg zq4]
              · rfl
      refine z_sub (ls' := [(0, .ref o), (1, .int (nI vk)), (2, .int r), (3, .int 0)]) [1, 2, 3, 0] rfl ?_
      exact L27 _ _ 0 ba at_ sz fa op nm e rm g (Nat.lt_succ_self _) (by rw [up_same _ _ K0, up_same _ _ K4, up_same _ _ K3, up_same _ _ K5]) (by first | assumption | rfl | omega) (by rfl)
    · replace zc23 := b2i_f zc23
      refine z_aload_n X 0 dX12_little_19 rfl ?_
      refine z_iconst (v := 1) X dX12_little_20 (by decide) ?_
      refine z_callV X (r_finds (κ := κ) (n := n) (o := (o)) (k := (1)) (fo := (fo)) (im := (im)) (ba := (ba)) (at_ := (at_)) (sz := (sz)) (fa := (fa)) (op := (op)) (rm := (rm)) (ti := (ti)) (tm := (tm)) (wh := (wh)) K0 K1 (by first | assumption | omega) (by first | assumption | omega)) mk_X12_finds dX12_little_21 wd_1018 wd_1020 wd_24 rfl K0 rfl rfl rfl (Nat.le_of_ble_eq_true rfl) (Nat.le_of_ble_eq_true rfl) (Nat.le_of_ble_eq_true rfl) (by omega) (by omega) (fun q zh92 zm94 zp95 => ?_)
      obtain ⟨rfl, ze93, zn96⟩ := zp95
      subst zm94
      refine z_st (st' := [.int (lowE 1)]) rfl ?_
      have zK97 : zh92 o = some (.inr (12, [.ref (o + 1), .ref (o + 2), .ref (o + 3), .int im, .ref (o + 4), .int ba, .int at_, .int sz, .int fa, .int op, .ref (o + 5), .ref (o + 6), .int rm, .ref (o + 7), .ref (o + 8), .int ti, .ref (o + 9), .int tm, .int wh, .ref (o + 10), .ref (o + 11), .ref (o + 12), .ref (o + 13)])) := by rw [ze93]; rw [va_up_ne _ _ (show o ≠ o + 4 by omega)]; exact K0
      have zK98 : zh92 (o + 4) = arI κ 6 (bmp fo 1) := by rw [ze93]; exact va_up_self _ _ _
      have zK99 : zh92 (o + 1) = arI κ 340 d := by rw [ze93]; rw [va_up_ne _ _ (show o + 1 ≠ o + 4 by omega)]; exact K2
      have zK100 : zh92 (o + 2) = arI κ 340 e := by rw [ze93]; rw [va_up_ne _ _ (show o + 2 ≠ o + 4 by omega)]; exact K3
      have zK101 : zh92 (o + 5) = arI κ 3 nm := by rw [ze93]; rw [va_up_ne _ _ (show o + 5 ≠ o + 4 by omega)]; exact K4
      have zK102 : zh92 (o + 6) = arI κ 40 g := by rw [ze93]; rw [va_up_ne _ _ (show o + 6 ≠ o + 4 by omega)]; exact K5
      refine z_iret X E dX12_little_24 (by omega) (by omega) ⟨ba, at_, sz, fa, op, nm, rm, e, g, ?_, ?_, ?_⟩
      · generalize hz : opLittle (Tx d) tx d v r = z; unfold opLittle at hz; (try simp only [ i_eq, i_lt, i_le, show (-1 : Int32).toInt = -1 by decide, show (0 : Int32).toInt = 0 by decide, show (1 : Int32).toInt = 1 by decide, show (2 : Int32).toInt = 2 by decide, show (3 : Int32).toInt = 3 by decide, show (4 : Int32).toInt = 4 by decide, show (5 : Int32).toInt = 5 by decide, show (6 : Int32).toInt = 6 by decide, show (7 : Int32).toInt = 7 by decide, show (8 : Int32).toInt = 8 by decide, show (9 : Int32).toInt = 9 by decide, show (10 : Int32).toInt = 10 by decide, show (11 : Int32).toInt = 11 by decide, show (12 : Int32).toInt = 12 by decide, show (13 : Int32).toInt = 13 by decide, show (14 : Int32).toInt = 14 by decide, show (15 : Int32).toInt = 15 by decide, show (16 : Int32).toInt = 16 by decide, show (20 : Int32).toInt = 20 by decide, show (39 : Int32).toInt = 39 by decide, show (40 : Int32).toInt = 40 by decide, show (50 : Int32).toInt = 50 by decide, show (60 : Int32).toInt = 60 by decide, show (99 : Int32).toInt = 99 by decide, show (100 : Int32).toInt = 100 by decide, show (999 : Int32).toInt = 999 by decide, show (9999 : Int32).toInt = 9999 by decide, show (99999 : Int32).toInt = 99999 by decide, show (999999 : Int32).toInt = 999999 by decide, show (9999999 : Int32).toInt = 9999999 by decide, show (-50 : Int32).toInt = -50 by decide, show (32 : Int32).toInt = 32 by decide] at *); (repeat first | rw [if_pos (by omega)] at hz | rw [if_neg (by omega)] at hz); subst hz; first | exact congrArg (fun z => some (Value.int z)) (ansOf_0 _).symm | rfl
      · generalize hz : opLittle (Tx d) tx d v r = z; unfold opLittle at hz; (try simp only [ i_eq, i_lt, i_le, show (-1 : Int32).toInt = -1 by decide, show (0 : Int32).toInt = 0 by decide, show (1 : Int32).toInt = 1 by decide, show (2 : Int32).toInt = 2 by decide, show (3 : Int32).toInt = 3 by decide, show (4 : Int32).toInt = 4 by decide, show (5 : Int32).toInt = 5 by decide, show (6 : Int32).toInt = 6 by decide, show (7 : Int32).toInt = 7 by decide, show (8 : Int32).toInt = 8 by decide, show (9 : Int32).toInt = 9 by decide, show (10 : Int32).toInt = 10 by decide, show (11 : Int32).toInt = 11 by decide, show (12 : Int32).toInt = 12 by decide, show (13 : Int32).toInt = 13 by decide, show (14 : Int32).toInt = 14 by decide, show (15 : Int32).toInt = 15 by decide, show (16 : Int32).toInt = 16 by decide, show (20 : Int32).toInt = 20 by decide, show (39 : Int32).toInt = 39 by decide, show (40 : Int32).toInt = 40 by decide, show (50 : Int32).toInt = 50 by decide, show (60 : Int32).toInt = 60 by decide, show (99 : Int32).toInt = 99 by decide, show (100 : Int32).toInt = 100 by decide, show (999 : Int32).toInt = 999 by decide, show (9999 : Int32).toInt = 9999 by decide, show (99999 : Int32).toInt = 99999 by decide, show (999999 : Int32).toInt = 999999 by decide, show (9999999 : Int32).toInt = 9999999 by decide, show (-50 : Int32).toInt = -50 by decide, show (32 : Int32).toInt = 32 by decide] at *); (repeat first | rw [if_pos (by omega)] at hz | rw [if_neg (by omega)] at hz); subst hz; funext zz; by_cases zq4 : zz = o + 4; (rw [zq4, va_up_self]; exact zK98); by_cases zq3 : zz = o + 6; (rw [zq3, va_up_ne _ _ (show o + 6 ≠ o + 4 by omega), va_up_self]; exact zK102); by_cases zq2 : zz = o + 2; (rw [zq2, va_up_ne _ _ (show o + 2 ≠ o + 4 by omega), va_up_ne _ _ (show o + 2 ≠ o + 6 by omega), va_up_self]; exact zK100); by_cases zq1 : zz = o + 5; (rw [zq1, va_up_ne _ _ (show o + 5 ≠ o + 4 by omega), va_up_ne _ _ (show o + 5 ≠ o + 6 by omega), va_up_ne _ _ (show o + 5 ≠ o + 2 by omega), va_up_self]; exact zK101); by_cases zq0 : zz = o; (rw [zq0, va_up_ne _ _ (show o ≠ o + 4 by omega), va_up_ne _ _ (show o ≠ o + 6 by omega), va_up_ne _ _ (show o ≠ o + 2 by omega), va_up_ne _ _ (show o ≠ o + 5 by omega), va_up_self]; exact zK97); rw [va_up_ne _ _ zq4, va_up_ne _ _ zq3, va_up_ne _ _ zq2, va_up_ne _ _ zq1, va_up_ne _ _ zq0]; rw [ze93]; simp only [va_up, if_neg zq0, if_neg zq1, if_neg zq2, if_neg zq3, if_neg zq4]
      · rfl
abbrev nedE (T : Nat → Nat → Int32) (tx : Nat → Nat) (d : Nat → Int32) (v k : Nat) : Nat → Int32 := gbyN T tx v (upd d 10 (d 10 &&& ((1 <<< (nI k &&& 31)) ^^^ (-1))))
abbrev onK (d : Nat → Int32) (k : Nat) : Prop := d 10 >>> (nI k &&& 31) &&& 1 = 1
/-- the needed ones among the first k causes -/
def nedF (T : Nat → Nat → Int32) (tx : Nat → Nat) (d : Nat → Int32) (v many : Nat) : Nat → Int32
  | 0 => 0
  | k + 1 => if onK d k ∧ rnE (nedE T tx d v k) < many then nedF T tx d v many k ||| 1 <<< (nI k &&& 31) else nedF T tx d v many k
theorem nedF_t {T : Nat → Nat → Int32} {tx : Nat → Nat} {d : Nat → Int32} {v many k : Nat} {acc : Int32} (ha : acc = nedF T tx d v many k) (h : onK d k) (h2 : rnE (nedE T tx d v k) < many) : acc ||| 1 <<< (nI k &&& 31) = nedF T tx d v many (k + 1) := by
  rw [ha]
  exact (if_pos ⟨h, h2⟩).symm
theorem or0 (x : Int32) : x ||| 0 = x := Int32.or_zero
theorem nedF_f {T : Nat → Nat → Int32} {tx : Nat → Nat} {d : Nat → Int32} {v many k : Nat} {acc : Int32} (ha : acc = nedF T tx d v many k) (h : ¬ (onK d k ∧ rnE (nedE T tx d v k) < many)) : acc = nedF T tx d v many (k + 1) := by
  rw [ha]
  exact (if_neg h).symm
def opNeeded (T : Nat → Nat → Int32) (tx : Nat → Nat) (d : Nat → Int32) (nc : Nat) (v : Int32) : Nat × Int32 := if ¬ (0 ≤ v.toInt ∧ v.toInt ≤ 60) then (1, 0) else (0, nedF T tx d v.toNatClampNeg (rnE (ahd T tx d v)) nc)
theorem opNeeded_0 {T : Nat → Nat → Int32} {tx : Nat → Nat} {d : Nat → Int32} {v nc : Nat} (h : v ≤ 60) : opNeeded T tx d nc (nI v) = (0, nedF T tx d v (rnE (gbyN T tx v d)) nc) := by
  unfold opNeeded
  rw [i_nI (by omega), nI_clamp (by omega), if_neg (by omega), ahd_n _ _ _ (by omega)]
set_option maxHeartbeats 4000000 in
set_option maxRecDepth 100000 in
theorem r_needed {κ : Wc} {l : Launch} {h : Mm} {n : Nat} {o : Nat} {fo : Nat → Int32} {d : Nat → Int32} {e : Nat → Int32} {g : Nat → Int32} {nm : Nat → Int32} {nc : Nat} {tx : Nat → Nat} {im : Int32} {ba : Int32} {at_ : Int32} {sz : Int32} {fa : Int32} {op : Int32} {rm : Int32} {ti : Int32} {tm : Int32} {wh : Int32} {v : Int32} (K0 : h o = some (.inr (12, [.ref (o + 1), .ref (o + 2), .ref (o + 3), .int im, .ref (o + 4), .int ba, .int at_, .int sz, .int fa, .int op, .ref (o + 5), .ref (o + 6), .int rm, .ref (o + 7), .ref (o + 8), .int ti, .ref (o + 9), .int tm, .int wh, .ref (o + 10), .ref (o + 11), .ref (o + 12), .ref (o + 13)]))) (K1 : h (o + 4) = arI κ 6 fo) (K2 : h (o + 1) = arI κ 340 d) (K3 : h (o + 2) = arI κ 340 e) (K4 : h (o + 5) = arI κ 3 nm) (K5 : h (o + 6) = arI κ 40 g) (q8 : ∀ u, u < 2 → d (60 + u) = nI (tx u) ∧ tx u ≤ 50) (hOk : lnOk d) (q4 : d 11 = nI nc) (q5 : nc ≤ 6) : Con κ l yX12_needed cX12_needed 5 (some .int) 45 0 0 [.ref o, .int v] h n (fun q h' n' => ∃ ba' : Int32, ∃ at' : Int32, ∃ sz' : Int32, ∃ fa' : Int32, ∃ op' : Int32, ∃ nm' : Nat → Int32, ∃ rm' : Int32, ∃ e' : Nat → Int32, ∃ g' : Nat → Int32, q = some (.int (ansOf (opNeeded (Tx d) tx d nc v))) ∧ h' = va_up (va_up (va_up (va_up (va_up h o (some (.inr (12, [.ref (o + 1), .ref (o + 2), .ref (o + 3), .int im, .ref (o + 4), .int ba', .int at', .int sz', .int fa', .int op', .ref (o + 5), .ref (o + 6), .int rm', .ref (o + 7), .ref (o + 8), .int ti, .ref (o + 9), .int tm, .int wh, .ref (o + 10), .ref (o + 11), .ref (o + 12), .ref (o + 13)])))) (o + 5) (arI κ 3 nm')) (o + 2) (arI κ 340 e')) (o + 6) (arI κ 40 g')) (o + 4) (arI κ 6 (bump (opNeeded (Tx d) tx d nc v) fo)) ∧ n' = n) := by
  refine Con.of mk_X12_needed (Nat.le_of_ble_eq_true rfl) (fun G hG X E => ?_)
  subst hG
  refine z_ls (ls' := [(0, .ref o), (1, .int v)]) rfl ?_
  refine z_iload_n X 1 dX12_needed_0 rfl ?_
  refine z_callS X (r_isAhead (κ := κ) (n := n) (v := (v))  ) mk_X12_isAhead dX12_needed_1 wd_1200 wd_1201 rfl rfl (Nat.le_of_ble_eq_true rfl) (Nat.le_of_ble_eq_true rfl) (Nat.le_of_ble_eq_true rfl) (by omega) (by omega) (fun q zh1 zm3 zp4 => ?_)
  obtain ⟨rfl, ze2, zn5⟩ := zp4
  subst zm3
  subst zh1
  refine z_st (st' := [.int (b2i (0 ≤ (v : Int32).toInt ∧ (v : Int32).toInt ≤ 60))]) rfl ?_
  refine z_if_ne X 13 dX12_needed_4 (by decide) (fun zc6 => ?_) (fun zc6 => ?_)
  · replace zc6 := b2i_t zc6
    obtain ⟨vk, hvk, rfl⟩ := ix_of (c := v) (len := 61) (by omega) (by omega)
    refine z_aload_n X 0 dX12_needed_13 rfl ?_
    refine z_iload_n X 1 dX12_needed_14 rfl ?_
    refine z_callV X (r_ahead (κ := κ) (n := n) (o := (o)) (v := (vk)) (d := (d)) (e := (e)) (nm := (nm)) (nc := (nc)) (im := (im)) (ba := (ba)) (at_ := (at_)) (sz := (sz)) (fa := (fa)) (op := (op)) (rm := (rm)) (ti := (ti)) (tm := (tm)) (wh := (wh)) K0 K2 K3 K4 (q8) (by first | assumption | omega) (by first | assumption | omega) (by first | assumption | omega) (by first | assumption | omega)) mk_X12_ahead dX12_needed_15 wd_1204 wd_1206 wd_42 rfl K0 rfl rfl rfl (Nat.le_of_ble_eq_true rfl) (Nat.le_of_ble_eq_true rfl) (Nat.le_of_ble_eq_true rfl) (by omega) (by omega) (fun q zh13 zm15 zp16 => ?_)
    obtain ⟨ba'7, at'8, sz'9, fa'10, op'11, nm'12, rfl, ze14, zn17⟩ := zp16
    subst zm15
    refine z_st (st' := []) rfl ?_
    have zK18 : zh13 o = some (.inr (12, [.ref (o + 1), .ref (o + 2), .ref (o + 3), .int im, .ref (o + 4), .int ba'7, .int at'8, .int sz'9, .int fa'10, .int op'11, .ref (o + 5), .ref (o + 6), .int rm, .ref (o + 7), .ref (o + 8), .int ti, .ref (o + 9), .int tm, .int wh, .ref (o + 10), .ref (o + 11), .ref (o + 12), .ref (o + 13)])) := by rw [ze14]; rw [va_up_ne _ _ (show o ≠ o + 2 by omega)]; rw [va_up_ne _ _ (show o ≠ o + 5 by omega)]; exact va_up_self _ _ _
    have zK19 : zh13 (o + 4) = arI κ 6 fo := by rw [ze14]; rw [va_up_ne _ _ (show o + 4 ≠ o + 2 by omega)]; rw [va_up_ne _ _ (show o + 4 ≠ o + 5 by omega)]; rw [va_up_ne _ _ (show o + 4 ≠ o by omega)]; exact K1
    have zK20 : zh13 (o + 1) = arI κ 340 d := by rw [ze14]; rw [va_up_ne _ _ (show o + 1 ≠ o + 2 by omega)]; rw [va_up_ne _ _ (show o + 1 ≠ o + 5 by omega)]; rw [va_up_ne _ _ (show o + 1 ≠ o by omega)]; exact K2
    have zK21 : zh13 (o + 2) = arI κ 340 (gbyN (Tx d) tx vk d) := by rw [ze14]; exact va_up_self _ _ _
    have zK22 : zh13 (o + 5) = arI κ 3 nm'12 := by rw [ze14]; rw [va_up_ne _ _ (show o + 5 ≠ o + 2 by omega)]; exact va_up_self _ _ _
    have zK23 : zh13 (o + 6) = arI κ 40 g := by rw [ze14]; rw [va_up_ne _ _ (show o + 6 ≠ o + 2 by omega)]; rw [va_up_ne _ _ (show o + 6 ≠ o + 5 by omega)]; rw [va_up_ne _ _ (show o + 6 ≠ o by omega)]; exact K5
    have hEl : lnO (gbyN (Tx d) tx vk d) ≤ 40 := (gbyN_ok hOk vk).2.2
    have hEl1 : 1 ≤ lnO (gbyN (Tx d) tx vk d) := (gbyN_ok hOk vk).2.1
    refine z_aload_n X 0 dX12_needed_18 rfl ?_
    refine z_aload_n X 0 dX12_needed_19 rfl ?_
    refine z_get X fl_X12_13_12 dX12_needed_20 zK18 rfl ?_
    refine z_callV X (r_findRings (κ := κ) (n := n) (o := (o)) (a := (o + 2)) (m := (gbyN (Tx d) tx vk d)) (len := (lnO (gbyN (Tx d) tx vk d))) (g := (g)) (im := (im)) (ba := (ba'7)) (at_ := (at'8)) (sz := (sz'9)) (fa := (fa'10)) (op := (op'11)) (rm := (rm)) (ti := (ti)) (tm := (tm)) (wh := (wh)) zK18 zK21 zK23 ((gbyN_ok hOk vk).1) ((gbyN_ok hOk vk).2.1) ((gbyN_ok hOk vk).2.2) (Or.inr rfl)) mk_X12_findRings dX12_needed_23 wd_1188 wd_1190 wd_41 rfl zK18 rfl rfl rfl (Nat.le_of_ble_eq_true rfl) (Nat.le_of_ble_eq_true rfl) (Nat.le_of_ble_eq_true rfl) (by omega) (by omega) (fun q zh25 zm27 zp28 => ?_)
    obtain ⟨g'24, rfl, ze26, zn30, zf29⟩ := zp28
    subst zm27
    refine z_st (st' := []) rfl ?_
    have zK31 : zh25 o = some (.inr (12, [.ref (o + 1), .ref (o + 2), .ref (o + 3), .int im, .ref (o + 4), .int ba'7, .int at'8, .int sz'9, .int fa'10, .int op'11, .ref (o + 5), .ref (o + 6), .int (nI (rn (gbyN (Tx d) tx vk d) (lnO (gbyN (Tx d) tx vk d)) (lnO (gbyN (Tx d) tx vk d)))), .ref (o + 7), .ref (o + 8), .int ti, .ref (o + 9), .int tm, .int wh, .ref (o + 10), .ref (o + 11), .ref (o + 12), .ref (o + 13)])) := by rw [ze26]; rw [va_up_ne _ _ (show o ≠ o + 6 by omega)]; exact va_up_self _ _ _
    have zK32 : zh25 (o + 4) = arI κ 6 fo := by rw [ze26]; rw [va_up_ne _ _ (show o + 4 ≠ o + 6 by omega)]; rw [va_up_ne _ _ (show o + 4 ≠ o by omega)]; exact zK19
    have zK33 : zh25 (o + 1) = arI κ 340 d := by rw [ze26]; rw [va_up_ne _ _ (show o + 1 ≠ o + 6 by omega)]; rw [va_up_ne _ _ (show o + 1 ≠ o by omega)]; exact zK20
    have zK34 : zh25 (o + 2) = arI κ 340 (gbyN (Tx d) tx vk d) := by rw [ze26]; rw [va_up_ne _ _ (show o + 2 ≠ o + 6 by omega)]; rw [va_up_ne _ _ (show o + 2 ≠ o by omega)]; exact zK21
    have zK35 : zh25 (o + 5) = arI κ 3 nm'12 := by rw [ze26]; rw [va_up_ne _ _ (show o + 5 ≠ o + 6 by omega)]; rw [va_up_ne _ _ (show o + 5 ≠ o by omega)]; exact zK22
    have zK36 : zh25 (o + 6) = arI κ 40 g'24 := by rw [ze26]; exact va_up_self _ _ _
    have hrm := rn_le (gbyN (Tx d) tx vk d) (lnO (gbyN (Tx d) tx vk d)) (lnO (gbyN (Tx d) tx vk d))
    have hrmq : lnO (gbyN (Tx d) tx vk d) ≤ 40 := (gbyN_ok hOk vk).2.2
    refine z_aload_n X 0 dX12_needed_26 rfl ?_
    refine z_get X fl_X12_191_12 dX12_needed_27 zK31 rfl ?_
    refine z_istore_n (ls' := [(2, .int (nI (rn (gbyN (Tx d) tx vk d) (lnO (gbyN (Tx d) tx vk d)) (lnO (gbyN (Tx d) tx vk d))))), (0, .ref o), (1, .int (nI vk))]) X dX12_needed_30 (by decide) rfl ?_
    refine z_iconst (v := 0) X dX12_needed_31 (by decide) ?_
    refine z_istore_n (ls' := [(3, .int 0), (2, .int (nI (rn (gbyN (Tx d) tx vk d) (lnO (gbyN (Tx d) tx vk d)) (lnO (gbyN (Tx d) tx vk d))))), (0, .ref o), (1, .int (nI vk))]) X dX12_needed_32 (by decide) rfl ?_
    refine z_iconst (v := 0) X dX12_needed_33 (by decide) ?_
    refine z_istore (ls' := [(4, .int 0), (3, .int 0), (2, .int (nI (rn (gbyN (Tx d) tx vk d) (lnO (gbyN (Tx d) tx vk d)) (lnO (gbyN (Tx d) tx vk d))))), (0, .ref o), (1, .int (nI vk))]) X dX12_needed_34 (by decide) rfl ?_
    have L36 : ∀ (jj : Nat) (hh36 : Mm)  (i : Nat) (ba2 : Int32) (at2 : Int32) (sz2 : Int32) (fa2 : Int32) (op2 : Int32) (nm2 : Nat → Int32) (e2 : Nat → Int32) (rm2 : Int32) (g2 : Nat → Int32) (acc : Int32), (nc - i < jj) → (hh36 = va_up (va_up (va_up (va_up h o (some (.inr (12, [.ref (o + 1), .ref (o + 2), .ref (o + 3), .int im, .ref (o + 4), .int ba2, .int at2, .int sz2, .int fa2, .int op2, .ref (o + 5), .ref (o + 6), .int rm2, .ref (o + 7), .ref (o + 8), .int ti, .ref (o + 9), .int tm, .int wh, .ref (o + 10), .ref (o + 11), .ref (o + 12), .ref (o + 13)])))) (o + 5) (arI κ 3 nm2)) (o + 2) (arI κ 340 e2)) (o + 6) (arI κ 40 g2)) → (hi : i ≤ nc) → (hacc : acc = nedF (Tx d) tx d vk (rnE (gbyN (Tx d) tx vk d)) i) → Z κ G 5 36 [(0, .ref o), (1, .int (nI vk)), (2, .int (nI (rn (gbyN (Tx d) tx vk d) (lnO (gbyN (Tx d) tx vk d)) (lnO (gbyN (Tx d) tx vk d))))), (3, .int acc), (4, .int (nI i))] [] hh36 n 0 (0) := by
      intro jj
      induction jj with
      | zero => intro hh36 i ba2 at2 sz2 fa2 op2 nm2 e2 rm2 g2 acc hmu; exact absurd hmu (Nat.not_lt_zero _)
      | succ jj ih36 =>
        intro hh36 i ba2 at2 sz2 fa2 op2 nm2 e2 rm2 g2 acc hmu he36 hi hacc
        have zK37 : hh36 o = some (.inr (12, [.ref (o + 1), .ref (o + 2), .ref (o + 3), .int im, .ref (o + 4), .int ba2, .int at2, .int sz2, .int fa2, .int op2, .ref (o + 5), .ref (o + 6), .int rm2, .ref (o + 7), .ref (o + 8), .int ti, .ref (o + 9), .int tm, .int wh, .ref (o + 10), .ref (o + 11), .ref (o + 12), .ref (o + 13)])) := by rw [he36]; rw [va_up_ne _ _ (show o ≠ o + 6 by omega)]; rw [va_up_ne _ _ (show o ≠ o + 2 by omega)]; rw [va_up_ne _ _ (show o ≠ o + 5 by omega)]; exact va_up_self _ _ _
        have zK38 : hh36 (o + 4) = arI κ 6 fo := by rw [he36]; rw [va_up_ne _ _ (show o + 4 ≠ o + 6 by omega)]; rw [va_up_ne _ _ (show o + 4 ≠ o + 2 by omega)]; rw [va_up_ne _ _ (show o + 4 ≠ o + 5 by omega)]; rw [va_up_ne _ _ (show o + 4 ≠ o by omega)]; exact K1
        have zK39 : hh36 (o + 1) = arI κ 340 d := by rw [he36]; rw [va_up_ne _ _ (show o + 1 ≠ o + 6 by omega)]; rw [va_up_ne _ _ (show o + 1 ≠ o + 2 by omega)]; rw [va_up_ne _ _ (show o + 1 ≠ o + 5 by omega)]; rw [va_up_ne _ _ (show o + 1 ≠ o by omega)]; exact K2
        have zK40 : hh36 (o + 2) = arI κ 340 e2 := by rw [he36]; rw [va_up_ne _ _ (show o + 2 ≠ o + 6 by omega)]; exact va_up_self _ _ _
        have zK41 : hh36 (o + 5) = arI κ 3 nm2 := by rw [he36]; rw [va_up_ne _ _ (show o + 5 ≠ o + 6 by omega)]; rw [va_up_ne _ _ (show o + 5 ≠ o + 2 by omega)]; exact va_up_self _ _ _
        have zK42 : hh36 (o + 6) = arI κ 40 g2 := by rw [he36]; exact va_up_self _ _ _
        refine z_iload X 4 dX12_needed_36 rfl ?_
        refine z_aload_n X 0 dX12_needed_38 rfl ?_
        refine z_get X fl_X12_7_12 dX12_needed_39 zK37 rfl ?_
        refine z_bipush (v := 11) X dX12_needed_42 (by decide) ?_
        refine z_iald2 (v := d 11) X dX12_needed_44 zK39 (vp_in_nI (n := 11) (by omega) (by omega)) (congrArg d (nI_clamp (n := 11) (by omega))) ?_
        refine z_toe (y := nI nc) (q4) ?_
        refine z_icmp_ge X 129 dX12_needed_45 (by decide) (fun zc43 => ?_) (fun zc43 => ?_)
        · try replace zc43 := (nI_leI (a := nc) (b := i) (by omega) (by omega)).mp zc43
          refine z_iload_n X 3 dX12_needed_129 rfl ?_
          refine z_iret X E dX12_needed_130 (by omega) (by omega) ⟨ba2, at2, sz2, fa2, op2, nm2, rm2, e2, g2, ?_, ?_, ?_⟩
          · (have hin : i = nc := by omega); (have hop : opNeeded (Tx d) tx d nc (nI vk) = (0, acc) := by (rw [opNeeded_0 (by omega), hacc, hin])); rw [hop, ansOf_0]
          · (have hin : i = nc := by omega); (have hop : opNeeded (Tx d) tx d nc (nI vk) = (0, acc) := by (rw [opNeeded_0 (by omega), hacc, hin])); rw [hop]; funext zz; by_cases zq4 : zz = o + 4; (rw [zq4, va_up_self]; exact zK38); by_cases zq3 : zz = o + 6; (rw [zq3, va_up_ne _ _ (show o + 6 ≠ o + 4 by omega), va_up_self]; exact zK42); by_cases zq2 : zz = o + 2; (rw [zq2, va_up_ne _ _ (show o + 2 ≠ o + 4 by omega), va_up_ne _ _ (show o + 2 ≠ o + 6 by omega), va_up_self]; exact zK40); by_cases zq1 : zz = o + 5; (rw [zq1, va_up_ne _ _ (show o + 5 ≠ o + 4 by omega), va_up_ne _ _ (show o + 5 ≠ o + 6 by omega), va_up_ne _ _ (show o + 5 ≠ o + 2 by omega), va_up_self]; exact zK41); by_cases zq0 : zz = o; (rw [zq0, va_up_ne _ _ (show o ≠ o + 4 by omega), va_up_ne _ _ (show o ≠ o + 6 by omega), va_up_ne _ _ (show o ≠ o + 2 by omega), va_up_ne _ _ (show o ≠ o + 5 by omega), va_up_self]; exact zK37); rw [va_up_ne _ _ zq4, va_up_ne _ _ zq3, va_up_ne _ _ zq2, va_up_ne _ _ zq1, va_up_ne _ _ zq0]; rw [he36]; simp only [va_up, if_neg zq0, if_neg zq1, if_neg zq2, if_neg zq3, if_neg zq4]
          · rfl
        · try replace zc43 := mt (nI_leI (a := nc) (b := i) (by omega) (by omega)).mpr zc43
          refine z_aload_n X 0 dX12_needed_48 rfl ?_
          refine z_get X fl_X12_7_12 dX12_needed_49 zK37 rfl ?_
          refine z_bipush (v := 10) X dX12_needed_52 (by decide) ?_
          refine z_iald2 (v := d 10) X dX12_needed_54 zK39 (vp_in_nI (n := 10) (by omega) (by omega)) (congrArg d (nI_clamp (n := 10) (by omega))) ?_
          refine z_iload X 4 dX12_needed_55 rfl ?_
          refine z_ishr X dX12_needed_57 ?_
          refine z_iconst (v := 1) X dX12_needed_58 (by decide) ?_
          refine z_iand X dX12_needed_59 ?_
          refine z_iconst (v := 1) X dX12_needed_60 (by decide) ?_
          refine z_icmp_ne X 123 dX12_needed_61 (by decide) (fun zc44 => ?_) (fun zc44 => ?_)
          · refine z_iinc (v := nI (i + 1)) (ls' := [(4, .int (nI (i + 1))), (0, .ref o), (1, .int (nI vk)), (2, .int (nI (rn (gbyN (Tx d) tx vk d) (lnO (gbyN (Tx d) tx vk d)) (lnO (gbyN (Tx d) tx vk d))))), (3, .int acc)]) X 4 dX12_needed_123 rfl (nI_1 (i)) (by decide) rfl ?_
            refine z_goto X 36 dX12_needed_126 (by decide) ?_
            refine z_sub (ls' := [(0, .ref o), (1, .int (nI vk)), (2, .int (nI (rn (gbyN (Tx d) tx vk d) (lnO (gbyN (Tx d) tx vk d)) (lnO (gbyN (Tx d) tx vk d))))), (3, .int acc), (4, .int (nI (i + 1)))]) [1, 2, 3, 4, 0] rfl ?_
            exact ih36 _ (i + 1) ba2 at2 sz2 fa2 op2 nm2 e2 rm2 g2 acc (by omega) (by funext zz; by_cases zq3 : zz = o + 6; (rw [zq3, va_up_self]; exact zK42); by_cases zq2 : zz = o + 2; (rw [zq2, va_up_ne _ _ (show o + 2 ≠ o + 6 by omega), va_up_self]; exact zK40); by_cases zq1 : zz = o + 5; (rw [zq1, va_up_ne _ _ (show o + 5 ≠ o + 6 by omega), va_up_ne _ _ (show o + 5 ≠ o + 2 by omega), va_up_self]; exact zK41); by_cases zq0 : zz = o; (rw [zq0, va_up_ne _ _ (show o ≠ o + 6 by omega), va_up_ne _ _ (show o ≠ o + 2 by omega), va_up_ne _ _ (show o ≠ o + 5 by omega), va_up_self]; exact zK37); rw [va_up_ne _ _ zq3, va_up_ne _ _ zq2, va_up_ne _ _ zq1, va_up_ne _ _ zq0]; rw [he36]; simp only [va_up, if_neg zq0, if_neg zq1, if_neg zq2, if_neg zq3]) (by first | assumption | rfl | omega) (by exact nedF_f hacc (fun q => zc44 q.1))
          · refine z_aload_n X 0 dX12_needed_64 rfl ?_
            refine z_get X fl_X12_7_12 dX12_needed_65 zK37 rfl ?_
            refine z_aload_n X 0 dX12_needed_68 rfl ?_
            refine z_get X fl_X12_13_12 dX12_needed_69 zK37 rfl ?_
            refine z_callS X (r_copies (κ := κ) (n := n) (a := (o + 1)) (b := (o + 2)) (f := (d)) (g := (e2)) zK39 zK40 (by first | assumption | omega)) mk_X12_copies dX12_needed_72 wd_1208 wd_1209 rfl rfl (Nat.le_of_ble_eq_true rfl) (Nat.le_of_ble_eq_true rfl) (Nat.le_of_ble_eq_true rfl) (by omega) (by omega) (fun q zh45 zm47 zp48 => ?_)
            obtain ⟨rfl, ze46, zn49⟩ := zp48
            subst zm47
            refine z_st (st' := []) rfl ?_
            have zK50 : zh45 o = some (.inr (12, [.ref (o + 1), .ref (o + 2), .ref (o + 3), .int im, .ref (o + 4), .int ba2, .int at2, .int sz2, .int fa2, .int op2, .ref (o + 5), .ref (o + 6), .int rm2, .ref (o + 7), .ref (o + 8), .int ti, .ref (o + 9), .int tm, .int wh, .ref (o + 10), .ref (o + 11), .ref (o + 12), .ref (o + 13)])) := by rw [ze46]; rw [va_up_ne _ _ (show o ≠ o + 2 by omega)]; exact zK37
            have zK51 : zh45 (o + 4) = arI κ 6 fo := by rw [ze46]; rw [va_up_ne _ _ (show o + 4 ≠ o + 2 by omega)]; exact zK38
            have zK52 : zh45 (o + 1) = arI κ 340 d := by rw [ze46]; rw [va_up_ne _ _ (show o + 1 ≠ o + 2 by omega)]; exact zK39
            have zK53 : zh45 (o + 2) = arI κ 340 d := by rw [ze46]; exact va_up_self _ _ _
            have zK54 : zh45 (o + 5) = arI κ 3 nm2 := by rw [ze46]; rw [va_up_ne _ _ (show o + 5 ≠ o + 2 by omega)]; exact zK41
            have zK55 : zh45 (o + 6) = arI κ 40 g2 := by rw [ze46]; rw [va_up_ne _ _ (show o + 6 ≠ o + 2 by omega)]; exact zK42
            refine z_aload_n X 0 dX12_needed_75 rfl ?_
            refine z_get X fl_X12_13_12 dX12_needed_76 zK50 rfl ?_
            refine z_bipush (v := 10) X dX12_needed_79 (by decide) ?_
            refine z_dup2 X dX12_needed_81 rfl rfl ?_
            refine z_iald2 (v := d 10) X dX12_needed_82 zK53 (vp_in_nI (n := 10) (by omega) (by omega)) (congrArg d (nI_clamp (n := 10) (by omega))) ?_
            refine z_iconst (v := 1) X dX12_needed_83 (by decide) ?_
            refine z_iload X 4 dX12_needed_84 rfl ?_
            refine z_ishl X dX12_needed_86 ?_
            refine z_iconst (v := -1) X dX12_needed_87 (by decide) ?_
            refine z_ixor X dX12_needed_88 ?_
            refine z_iand X dX12_needed_89 ?_
            refine z_iast X dX12_needed_90 zK53 (vp_in_nI (n := 10) (by omega) (by omega)) (congrArg (fun z => va_up zh45 (o + 2) (arI κ 340 (upd d z ((d 10) &&& ((1 <<< ((nI i) &&& 31)) ^^^ ((-1))))))) (nI_clamp (n := 10) (by omega))) ?_
            obtain ⟨zh56, ze57⟩ : ∃ z : Mm, z = va_up zh45 (o + 2) (arI κ 340 (upd d 10 ((d 10) &&& ((1 <<< ((nI i) &&& 31)) ^^^ ((-1)))))) := ⟨_, rfl⟩
            refine z_heap (h' := zh56) ze57.symm ?_
            have zK58 := up_off ze57 (show o ≠ o + 2 by omega) zK50
            have zK59 := up_off ze57 (show o + 4 ≠ o + 2 by omega) zK51
            have zK60 := up_off ze57 (show o + 1 ≠ o + 2 by omega) zK52
            have zK61 := up_at ze57
            have zK62 := up_off ze57 (show o + 5 ≠ o + 2 by omega) zK54
            have zK63 := up_off ze57 (show o + 6 ≠ o + 2 by omega) zK55
            refine z_aload_n X 0 dX12_needed_91 rfl ?_
            refine z_iload_n X 1 dX12_needed_92 rfl ?_
            refine z_callV X (r_goesAhead (κ := κ) (n := n) (o := (o)) (v := (vk)) (d := (d)) (m := (upd d 10 ((d 10) &&& ((1 <<< ((nI i) &&& 31)) ^^^ ((-1)))))) (nm := (nm2)) (nc := (nc)) (im := (im)) (ba := (ba2)) (at_ := (at2)) (sz := (sz2)) (fa := (fa2)) (op := (op2)) (rm := (rm2)) (ti := (ti)) (tm := (tm)) (wh := (wh)) zK58 zK60 zK61 zK62 (q8) (lnOk_upd hOk (by omega)) ((pk_un (by omega)).trans q4) (by first | assumption | omega) (by first | assumption | omega)) mk_X12_goesAhead dX12_needed_93 wd_1211 wd_1213 wd_43 rfl zK58 rfl rfl rfl (Nat.le_of_ble_eq_true rfl) (Nat.le_of_ble_eq_true rfl) (Nat.le_of_ble_eq_true rfl) (by omega) (by omega) (fun q zh70 zm72 zp73 => ?_)
            obtain ⟨ba'64, at'65, sz'66, fa'67, op'68, nm'69, rfl, ze71, zn74⟩ := zp73
            subst zm72
            refine z_st (st' := []) rfl ?_
            have zK75 : zh70 o = some (.inr (12, [.ref (o + 1), .ref (o + 2), .ref (o + 3), .int im, .ref (o + 4), .int ba'64, .int at'65, .int sz'66, .int fa'67, .int op'68, .ref (o + 5), .ref (o + 6), .int rm2, .ref (o + 7), .ref (o + 8), .int ti, .ref (o + 9), .int tm, .int wh, .ref (o + 10), .ref (o + 11), .ref (o + 12), .ref (o + 13)])) := by rw [ze71]; rw [va_up_ne _ _ (show o ≠ o + 2 by omega)]; rw [va_up_ne _ _ (show o ≠ o + 5 by omega)]; exact va_up_self _ _ _
            have zK76 : zh70 (o + 4) = arI κ 6 fo := by rw [ze71]; rw [va_up_ne _ _ (show o + 4 ≠ o + 2 by omega)]; rw [va_up_ne _ _ (show o + 4 ≠ o + 5 by omega)]; rw [va_up_ne _ _ (show o + 4 ≠ o by omega)]; exact zK59
            have zK77 : zh70 (o + 1) = arI κ 340 d := by rw [ze71]; rw [va_up_ne _ _ (show o + 1 ≠ o + 2 by omega)]; rw [va_up_ne _ _ (show o + 1 ≠ o + 5 by omega)]; rw [va_up_ne _ _ (show o + 1 ≠ o by omega)]; exact zK60
            have zK78 : zh70 (o + 2) = arI κ 340 (gbyN (Tx d) tx vk (upd d 10 ((d 10) &&& ((1 <<< ((nI i) &&& 31)) ^^^ ((-1)))))) := by rw [ze71]; exact va_up_self _ _ _
            have zK79 : zh70 (o + 5) = arI κ 3 nm'69 := by rw [ze71]; rw [va_up_ne _ _ (show o + 5 ≠ o + 2 by omega)]; exact va_up_self _ _ _
            have zK80 : zh70 (o + 6) = arI κ 40 g2 := by rw [ze71]; rw [va_up_ne _ _ (show o + 6 ≠ o + 2 by omega)]; rw [va_up_ne _ _ (show o + 6 ≠ o + 5 by omega)]; rw [va_up_ne _ _ (show o + 6 ≠ o by omega)]; exact zK63
            refine z_aload_n X 0 dX12_needed_96 rfl ?_
            refine z_aload_n X 0 dX12_needed_97 rfl ?_
            refine z_get X fl_X12_13_12 dX12_needed_98 zK75 rfl ?_
            refine z_callV X (r_findRings (κ := κ) (n := n) (o := (o)) (a := (o + 2)) (m := (gbyN (Tx d) tx vk (upd d 10 ((d 10) &&& ((1 <<< ((nI i) &&& 31)) ^^^ (-1)))))) (len := (lnO (gbyN (Tx d) tx vk (upd d 10 ((d 10) &&& ((1 <<< ((nI i) &&& 31)) ^^^ (-1))))))) (g := (g2)) (im := (im)) (ba := (ba'64)) (at_ := (at'65)) (sz := (sz'66)) (fa := (fa'67)) (op := (op'68)) (rm := (rm2)) (ti := (ti)) (tm := (tm)) (wh := (wh)) zK75 zK78 zK80 ((gbyN_ok (lnOk_upd hOk (by omega)) vk).1) ((gbyN_ok (lnOk_upd hOk (by omega)) vk).2.1) ((gbyN_ok (lnOk_upd hOk (by omega)) vk).2.2) (Or.inr rfl)) mk_X12_findRings dX12_needed_101 wd_1188 wd_1190 wd_41 rfl zK75 rfl rfl rfl (Nat.le_of_ble_eq_true rfl) (Nat.le_of_ble_eq_true rfl) (Nat.le_of_ble_eq_true rfl) (by omega) (by omega) (fun q zh82 zm84 zp85 => ?_)
            obtain ⟨g'81, rfl, ze83, zn87, zf86⟩ := zp85
            subst zm84
            refine z_st (st' := []) rfl ?_
            have zK88 : zh82 o = some (.inr (12, [.ref (o + 1), .ref (o + 2), .ref (o + 3), .int im, .ref (o + 4), .int ba'64, .int at'65, .int sz'66, .int fa'67, .int op'68, .ref (o + 5), .ref (o + 6), .int (nI (rn (gbyN (Tx d) tx vk (upd d 10 ((d 10) &&& ((1 <<< ((nI i) &&& 31)) ^^^ (-1))))) (lnO (gbyN (Tx d) tx vk (upd d 10 ((d 10) &&& ((1 <<< ((nI i) &&& 31)) ^^^ (-1)))))) (lnO (gbyN (Tx d) tx vk (upd d 10 ((d 10) &&& ((1 <<< ((nI i) &&& 31)) ^^^ (-1)))))))), .ref (o + 7), .ref (o + 8), .int ti, .ref (o + 9), .int tm, .int wh, .ref (o + 10), .ref (o + 11), .ref (o + 12), .ref (o + 13)])) := by rw [ze83]; rw [va_up_ne _ _ (show o ≠ o + 6 by omega)]; exact va_up_self _ _ _
            have zK89 : zh82 (o + 4) = arI κ 6 fo := by rw [ze83]; rw [va_up_ne _ _ (show o + 4 ≠ o + 6 by omega)]; rw [va_up_ne _ _ (show o + 4 ≠ o by omega)]; exact zK76
            have zK90 : zh82 (o + 1) = arI κ 340 d := by rw [ze83]; rw [va_up_ne _ _ (show o + 1 ≠ o + 6 by omega)]; rw [va_up_ne _ _ (show o + 1 ≠ o by omega)]; exact zK77
            have zK91 : zh82 (o + 2) = arI κ 340 (gbyN (Tx d) tx vk (upd d 10 ((d 10) &&& ((1 <<< ((nI i) &&& 31)) ^^^ ((-1)))))) := by rw [ze83]; rw [va_up_ne _ _ (show o + 2 ≠ o + 6 by omega)]; rw [va_up_ne _ _ (show o + 2 ≠ o by omega)]; exact zK78
            have zK92 : zh82 (o + 5) = arI κ 3 nm'69 := by rw [ze83]; rw [va_up_ne _ _ (show o + 5 ≠ o + 6 by omega)]; rw [va_up_ne _ _ (show o + 5 ≠ o by omega)]; exact zK79
            have zK93 : zh82 (o + 6) = arI κ 40 g'81 := by rw [ze83]; exact va_up_self _ _ _
            have hrn := rn_le (gbyN (Tx d) tx vk (upd d 10 ((d 10) &&& ((1 <<< ((nI i) &&& 31)) ^^^ (-1))))) (lnO (gbyN (Tx d) tx vk (upd d 10 ((d 10) &&& ((1 <<< ((nI i) &&& 31)) ^^^ (-1)))))) (lnO (gbyN (Tx d) tx vk (upd d 10 ((d 10) &&& ((1 <<< ((nI i) &&& 31)) ^^^ (-1))))))
            have hrnq : lnO (gbyN (Tx d) tx vk (upd d 10 ((d 10) &&& ((1 <<< ((nI i) &&& 31)) ^^^ (-1))))) ≤ 40 := (gbyN_ok (lnOk_upd hOk (by omega)) vk).2.2
            refine z_iload_n X 3 dX12_needed_104 rfl ?_
            refine z_aload_n X 0 dX12_needed_105 rfl ?_
            refine z_get X fl_X12_191_12 dX12_needed_106 zK88 rfl ?_
            refine z_iload_n X 2 dX12_needed_109 rfl ?_
            refine z_icmp_ge X 120 dX12_needed_110 (by decide) (fun zc94 => ?_) (fun zc94 => ?_)
            · try replace zc94 := (nI_leI (a := rn (gbyN (Tx d) tx vk d) (lnO (gbyN (Tx d) tx vk d)) (lnO (gbyN (Tx d) tx vk d))) (b := rn (gbyN (Tx d) tx vk (upd d 10 ((d 10) &&& ((1 <<< ((nI i) &&& 31)) ^^^ (-1))))) (lnO (gbyN (Tx d) tx vk (upd d 10 ((d 10) &&& ((1 <<< ((nI i) &&& 31)) ^^^ (-1)))))) (lnO (gbyN (Tx d) tx vk (upd d 10 ((d 10) &&& ((1 <<< ((nI i) &&& 31)) ^^^ (-1))))))) (by omega) (by omega)).mp zc94
              have hbn : ¬ rnE (gbyN (Tx d) tx vk (upd d 10 ((d 10) &&& ((1 <<< ((nI i) &&& 31)) ^^^ (-1))))) < rnE (gbyN (Tx d) tx vk d) := by (unfold rnE; omega)
              refine z_iconst (v := 0) X dX12_needed_120 (by decide) ?_
              refine z_ior X dX12_needed_121 ?_
              refine z_istore_n (ls' := [(3, .int (acc ||| 0)), (0, .ref o), (1, .int (nI vk)), (2, .int (nI (rn (gbyN (Tx d) tx vk d) (lnO (gbyN (Tx d) tx vk d)) (lnO (gbyN (Tx d) tx vk d))))), (4, .int (nI i))]) X dX12_needed_122 (by decide) rfl ?_
              refine z_iinc (v := nI (i + 1)) (ls' := [(4, .int (nI (i + 1))), (3, .int (acc ||| 0)), (0, .ref o), (1, .int (nI vk)), (2, .int (nI (rn (gbyN (Tx d) tx vk d) (lnO (gbyN (Tx d) tx vk d)) (lnO (gbyN (Tx d) tx vk d)))))]) X 4 dX12_needed_123 rfl (nI_1 (i)) (by decide) rfl ?_
              refine z_goto X 36 dX12_needed_126 (by decide) ?_
              refine z_sub (ls' := [(0, .ref o), (1, .int (nI vk)), (2, .int (nI (rn (gbyN (Tx d) tx vk d) (lnO (gbyN (Tx d) tx vk d)) (lnO (gbyN (Tx d) tx vk d))))), (3, .int (acc ||| 0)), (4, .int (nI (i + 1)))]) [2, 3, 4, 1, 0] rfl ?_
              exact ih36 _ (i + 1) ba'64 at'65 sz'66 fa'67 op'68 nm'69 (gbyN (Tx d) tx vk (upd d 10 ((d 10) &&& ((1 <<< ((nI i) &&& 31)) ^^^ ((-1)))))) (nI (rn (gbyN (Tx d) tx vk (upd d 10 ((d 10) &&& ((1 <<< ((nI i) &&& 31)) ^^^ (-1))))) (lnO (gbyN (Tx d) tx vk (upd d 10 ((d 10) &&& ((1 <<< ((nI i) &&& 31)) ^^^ (-1)))))) (lnO (gbyN (Tx d) tx vk (upd d 10 ((d 10) &&& ((1 <<< ((nI i) &&& 31)) ^^^ (-1)))))))) g'81 (acc ||| 0) (by omega) (by funext zz; by_cases zq3 : zz = o + 6; (rw [zq3, va_up_self]; exact zK93); by_cases zq2 : zz = o + 2; (rw [zq2, va_up_ne _ _ (show o + 2 ≠ o + 6 by omega), va_up_self]; exact zK91); by_cases zq1 : zz = o + 5; (rw [zq1, va_up_ne _ _ (show o + 5 ≠ o + 6 by omega), va_up_ne _ _ (show o + 5 ≠ o + 2 by omega), va_up_self]; exact zK92); by_cases zq0 : zz = o; (rw [zq0, va_up_ne _ _ (show o ≠ o + 6 by omega), va_up_ne _ _ (show o ≠ o + 2 by omega), va_up_ne _ _ (show o ≠ o + 5 by omega), va_up_self]; exact zK88); rw [va_up_ne _ _ zq3, va_up_ne _ _ zq2, va_up_ne _ _ zq1, va_up_ne _ _ zq0]; rw [ze83, ze71, ze57, ze46, he36]; simp only [va_up, if_neg zq0, if_neg zq1, if_neg zq2, if_neg zq3]) (by first | assumption | rfl | omega) (by rw [or0]; exact nedF_f hacc (fun q => absurd q.2 hbn))
            · try replace zc94 := mt (nI_leI (a := rn (gbyN (Tx d) tx vk d) (lnO (gbyN (Tx d) tx vk d)) (lnO (gbyN (Tx d) tx vk d))) (b := rn (gbyN (Tx d) tx vk (upd d 10 ((d 10) &&& ((1 <<< ((nI i) &&& 31)) ^^^ (-1))))) (lnO (gbyN (Tx d) tx vk (upd d 10 ((d 10) &&& ((1 <<< ((nI i) &&& 31)) ^^^ (-1)))))) (lnO (gbyN (Tx d) tx vk (upd d 10 ((d 10) &&& ((1 <<< ((nI i) &&& 31)) ^^^ (-1))))))) (by omega) (by omega)).mpr zc94
              have hbn : rnE (gbyN (Tx d) tx vk (upd d 10 ((d 10) &&& ((1 <<< ((nI i) &&& 31)) ^^^ (-1))))) < rnE (gbyN (Tx d) tx vk d) := by (unfold rnE; omega)
              refine z_iconst (v := 1) X dX12_needed_113 (by decide) ?_
              refine z_iload X 4 dX12_needed_114 rfl ?_
              refine z_ishl X dX12_needed_116 ?_
              refine z_goto X 121 dX12_needed_117 (by decide) ?_
              refine z_ior X dX12_needed_121 ?_
              refine z_istore_n (ls' := [(3, .int (acc ||| (1 <<< ((nI i) &&& 31)))), (0, .ref o), (1, .int (nI vk)), (2, .int (nI (rn (gbyN (Tx d) tx vk d) (lnO (gbyN (Tx d) tx vk d)) (lnO (gbyN (Tx d) tx vk d))))), (4, .int (nI i))]) X dX12_needed_122 (by decide) rfl ?_
              refine z_iinc (v := nI (i + 1)) (ls' := [(4, .int (nI (i + 1))), (3, .int (acc ||| (1 <<< ((nI i) &&& 31)))), (0, .ref o), (1, .int (nI vk)), (2, .int (nI (rn (gbyN (Tx d) tx vk d) (lnO (gbyN (Tx d) tx vk d)) (lnO (gbyN (Tx d) tx vk d)))))]) X 4 dX12_needed_123 rfl (nI_1 (i)) (by decide) rfl ?_
              refine z_goto X 36 dX12_needed_126 (by decide) ?_
              refine z_sub (ls' := [(0, .ref o), (1, .int (nI vk)), (2, .int (nI (rn (gbyN (Tx d) tx vk d) (lnO (gbyN (Tx d) tx vk d)) (lnO (gbyN (Tx d) tx vk d))))), (3, .int (acc ||| (1 <<< ((nI i) &&& 31)))), (4, .int (nI (i + 1)))]) [2, 3, 4, 1, 0] rfl ?_
              exact ih36 _ (i + 1) ba'64 at'65 sz'66 fa'67 op'68 nm'69 (gbyN (Tx d) tx vk (upd d 10 ((d 10) &&& ((1 <<< ((nI i) &&& 31)) ^^^ ((-1)))))) (nI (rn (gbyN (Tx d) tx vk (upd d 10 ((d 10) &&& ((1 <<< ((nI i) &&& 31)) ^^^ (-1))))) (lnO (gbyN (Tx d) tx vk (upd d 10 ((d 10) &&& ((1 <<< ((nI i) &&& 31)) ^^^ (-1)))))) (lnO (gbyN (Tx d) tx vk (upd d 10 ((d 10) &&& ((1 <<< ((nI i) &&& 31)) ^^^ (-1)))))))) g'81 (acc ||| (1 <<< ((nI i) &&& 31))) (by omega) (by funext zz; by_cases zq3 : zz = o + 6; (rw [zq3, va_up_self]; exact zK93); by_cases zq2 : zz = o + 2; (rw [zq2, va_up_ne _ _ (show o + 2 ≠ o + 6 by omega), va_up_self]; exact zK91); by_cases zq1 : zz = o + 5; (rw [zq1, va_up_ne _ _ (show o + 5 ≠ o + 6 by omega), va_up_ne _ _ (show o + 5 ≠ o + 2 by omega), va_up_self]; exact zK92); by_cases zq0 : zz = o; (rw [zq0, va_up_ne _ _ (show o ≠ o + 6 by omega), va_up_ne _ _ (show o ≠ o + 2 by omega), va_up_ne _ _ (show o ≠ o + 5 by omega), va_up_self]; exact zK88); rw [va_up_ne _ _ zq3, va_up_ne _ _ zq2, va_up_ne _ _ zq1, va_up_ne _ _ zq0]; rw [ze83, ze71, ze57, ze46, he36]; simp only [va_up, if_neg zq0, if_neg zq1, if_neg zq2, if_neg zq3]) (by first | assumption | rfl | omega) (by exact nedF_t hacc zc44 hbn)
    refine z_sub (ls' := [(0, .ref o), (1, .int (nI vk)), (2, .int (nI (rn (gbyN (Tx d) tx vk d) (lnO (gbyN (Tx d) tx vk d)) (lnO (gbyN (Tx d) tx vk d))))), (3, .int 0), (4, .int 0)]) [3, 4, 2, 1, 0] rfl ?_
    exact L36 _ _ 0 ba'7 at'8 sz'9 fa'10 op'11 nm'12 (gbyN (Tx d) tx vk d) (nI (rn (gbyN (Tx d) tx vk d) (lnO (gbyN (Tx d) tx vk d)) (lnO (gbyN (Tx d) tx vk d)))) g'24 0 (Nat.lt_succ_self _) (by funext zz; by_cases zq3 : zz = o + 6; (rw [zq3, va_up_self]; exact zK36); by_cases zq2 : zz = o + 2; (rw [zq2, va_up_ne _ _ (show o + 2 ≠ o + 6 by omega), va_up_self]; exact zK34); by_cases zq1 : zz = o + 5; (rw [zq1, va_up_ne _ _ (show o + 5 ≠ o + 6 by omega), va_up_ne _ _ (show o + 5 ≠ o + 2 by omega), va_up_self]; exact zK35); by_cases zq0 : zz = o; (rw [zq0, va_up_ne _ _ (show o ≠ o + 6 by omega), va_up_ne _ _ (show o ≠ o + 2 by omega), va_up_ne _ _ (show o ≠ o + 5 by omega), va_up_self]; exact zK31); rw [va_up_ne _ _ zq3, va_up_ne _ _ zq2, va_up_ne _ _ zq1, va_up_ne _ _ zq0]; rw [ze26, ze14]; simp only [va_up, if_neg zq0, if_neg zq1, if_neg zq2, if_neg zq3]) (by first | assumption | rfl | omega) (by rfl)
  · replace zc6 := b2i_f zc6
    refine z_aload_n X 0 dX12_needed_7 rfl ?_
    refine z_iconst (v := 1) X dX12_needed_8 (by decide) ?_
    refine z_callV X (r_finds (κ := κ) (n := n) (o := (o)) (k := (1)) (fo := (fo)) (im := (im)) (ba := (ba)) (at_ := (at_)) (sz := (sz)) (fa := (fa)) (op := (op)) (rm := (rm)) (ti := (ti)) (tm := (tm)) (wh := (wh)) K0 K1 (by first | assumption | omega) (by first | assumption | omega)) mk_X12_finds dX12_needed_9 wd_1018 wd_1020 wd_24 rfl K0 rfl rfl rfl (Nat.le_of_ble_eq_true rfl) (Nat.le_of_ble_eq_true rfl) (Nat.le_of_ble_eq_true rfl) (by omega) (by omega) (fun q zh95 zm97 zp98 => ?_)
    obtain ⟨rfl, ze96, zn99⟩ := zp98
    subst zm97
    refine z_st (st' := [.int (lowE 1)]) rfl ?_
    have zK100 : zh95 o = some (.inr (12, [.ref (o + 1), .ref (o + 2), .ref (o + 3), .int im, .ref (o + 4), .int ba, .int at_, .int sz, .int fa, .int op, .ref (o + 5), .ref (o + 6), .int rm, .ref (o + 7), .ref (o + 8), .int ti, .ref (o + 9), .int tm, .int wh, .ref (o + 10), .ref (o + 11), .ref (o + 12), .ref (o + 13)])) := by rw [ze96]; rw [va_up_ne _ _ (show o ≠ o + 4 by omega)]; exact K0
    have zK101 : zh95 (o + 4) = arI κ 6 (bmp fo 1) := by rw [ze96]; exact va_up_self _ _ _
    have zK102 : zh95 (o + 1) = arI κ 340 d := by rw [ze96]; rw [va_up_ne _ _ (show o + 1 ≠ o + 4 by omega)]; exact K2
    have zK103 : zh95 (o + 2) = arI κ 340 e := by rw [ze96]; rw [va_up_ne _ _ (show o + 2 ≠ o + 4 by omega)]; exact K3
    have zK104 : zh95 (o + 5) = arI κ 3 nm := by rw [ze96]; rw [va_up_ne _ _ (show o + 5 ≠ o + 4 by omega)]; exact K4
    have zK105 : zh95 (o + 6) = arI κ 40 g := by rw [ze96]; rw [va_up_ne _ _ (show o + 6 ≠ o + 4 by omega)]; exact K5
    refine z_iret X E dX12_needed_12 (by omega) (by omega) ⟨ba, at_, sz, fa, op, nm, rm, e, g, ?_, ?_, ?_⟩
    · generalize hz : opNeeded (Tx d) tx d nc v = z; unfold opNeeded at hz; (try simp only [ i_eq, i_lt, i_le, show (-1 : Int32).toInt = -1 by decide, show (0 : Int32).toInt = 0 by decide, show (1 : Int32).toInt = 1 by decide, show (2 : Int32).toInt = 2 by decide, show (3 : Int32).toInt = 3 by decide, show (4 : Int32).toInt = 4 by decide, show (5 : Int32).toInt = 5 by decide, show (6 : Int32).toInt = 6 by decide, show (7 : Int32).toInt = 7 by decide, show (8 : Int32).toInt = 8 by decide, show (9 : Int32).toInt = 9 by decide, show (10 : Int32).toInt = 10 by decide, show (11 : Int32).toInt = 11 by decide, show (12 : Int32).toInt = 12 by decide, show (13 : Int32).toInt = 13 by decide, show (14 : Int32).toInt = 14 by decide, show (15 : Int32).toInt = 15 by decide, show (16 : Int32).toInt = 16 by decide, show (20 : Int32).toInt = 20 by decide, show (39 : Int32).toInt = 39 by decide, show (40 : Int32).toInt = 40 by decide, show (50 : Int32).toInt = 50 by decide, show (60 : Int32).toInt = 60 by decide, show (99 : Int32).toInt = 99 by decide, show (100 : Int32).toInt = 100 by decide, show (999 : Int32).toInt = 999 by decide, show (9999 : Int32).toInt = 9999 by decide, show (99999 : Int32).toInt = 99999 by decide, show (999999 : Int32).toInt = 999999 by decide, show (9999999 : Int32).toInt = 9999999 by decide, show (-50 : Int32).toInt = -50 by decide, show (32 : Int32).toInt = 32 by decide] at *); (repeat first | rw [if_pos (by omega)] at hz | rw [if_neg (by omega)] at hz); subst hz; first | exact congrArg (fun z => some (Value.int z)) (ansOf_0 _).symm | rfl
    · generalize hz : opNeeded (Tx d) tx d nc v = z; unfold opNeeded at hz; (try simp only [ i_eq, i_lt, i_le, show (-1 : Int32).toInt = -1 by decide, show (0 : Int32).toInt = 0 by decide, show (1 : Int32).toInt = 1 by decide, show (2 : Int32).toInt = 2 by decide, show (3 : Int32).toInt = 3 by decide, show (4 : Int32).toInt = 4 by decide, show (5 : Int32).toInt = 5 by decide, show (6 : Int32).toInt = 6 by decide, show (7 : Int32).toInt = 7 by decide, show (8 : Int32).toInt = 8 by decide, show (9 : Int32).toInt = 9 by decide, show (10 : Int32).toInt = 10 by decide, show (11 : Int32).toInt = 11 by decide, show (12 : Int32).toInt = 12 by decide, show (13 : Int32).toInt = 13 by decide, show (14 : Int32).toInt = 14 by decide, show (15 : Int32).toInt = 15 by decide, show (16 : Int32).toInt = 16 by decide, show (20 : Int32).toInt = 20 by decide, show (39 : Int32).toInt = 39 by decide, show (40 : Int32).toInt = 40 by decide, show (50 : Int32).toInt = 50 by decide, show (60 : Int32).toInt = 60 by decide, show (99 : Int32).toInt = 99 by decide, show (100 : Int32).toInt = 100 by decide, show (999 : Int32).toInt = 999 by decide, show (9999 : Int32).toInt = 9999 by decide, show (99999 : Int32).toInt = 99999 by decide, show (999999 : Int32).toInt = 999999 by decide, show (9999999 : Int32).toInt = 9999999 by decide, show (-50 : Int32).toInt = -50 by decide, show (32 : Int32).toInt = 32 by decide] at *); (repeat first | rw [if_pos (by omega)] at hz | rw [if_neg (by omega)] at hz); subst hz; funext zz; by_cases zq4 : zz = o + 4; (rw [zq4, va_up_self]; exact zK101); by_cases zq3 : zz = o + 6; (rw [zq3, va_up_ne _ _ (show o + 6 ≠ o + 4 by omega), va_up_self]; exact zK105); by_cases zq2 : zz = o + 2; (rw [zq2, va_up_ne _ _ (show o + 2 ≠ o + 4 by omega), va_up_ne _ _ (show o + 2 ≠ o + 6 by omega), va_up_self]; exact zK103); by_cases zq1 : zz = o + 5; (rw [zq1, va_up_ne _ _ (show o + 5 ≠ o + 4 by omega), va_up_ne _ _ (show o + 5 ≠ o + 6 by omega), va_up_ne _ _ (show o + 5 ≠ o + 2 by omega), va_up_self]; exact zK104); by_cases zq0 : zz = o; (rw [zq0, va_up_ne _ _ (show o ≠ o + 4 by omega), va_up_ne _ _ (show o ≠ o + 6 by omega), va_up_ne _ _ (show o ≠ o + 2 by omega), va_up_ne _ _ (show o ≠ o + 5 by omega), va_up_self]; exact zK100); rw [va_up_ne _ _ zq4, va_up_ne _ _ zq3, va_up_ne _ _ zq2, va_up_ne _ _ zq1, va_up_ne _ _ zq0]; rw [ze96]; simp only [va_up, if_neg zq0, if_neg zq1, if_neg zq2, if_neg zq3, if_neg zq4]
    · rfl
