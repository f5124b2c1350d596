abbrev isRing (m : Nat → Int32) (len c : Nat) : Prop := 0 < (soR m len c).toInt ∧ (c = 0 ∨ (soR m len (c - 1)).toInt < (soR m len c).toInt) ∧ (c + 1 = len ∨ (soR m len (c + 1)).toInt < (soR m len c).toInt)
/-- the rings among the first cells -/
def rl (m : Nat → Int32) (len : Nat) : Nat → List Nat
  | 0 => []
  | i + 1 => if isRing m len i then rl m len i ++ [i] else rl m len i
theorem rl_t {m : Nat → Int32} {len i : Nat} (h : isRing m len i) : rl m len (i + 1) = rl m len i ++ [i] := if_pos h
theorem rl_f {m : Nat → Int32} {len i : Nat} (h : ¬ isRing m len i) : rl m len (i + 1) = rl m len i := if_neg h
theorem rl_len (m : Nat → Int32) (len : Nat) : ∀ i, (rl m len i).length ≤ i := by
  intro i
  induction i with
  | zero => exact Nat.le_refl _
  | succ i ih =>
    by_cases h : isRing m len i
    · rw [rl_t h, List.length_append]
      exact Nat.succ_le_succ ih
    · rw [rl_f h]
      exact Nat.le_succ_of_le ih
def rn (m : Nat → Int32) (len i : Nat) : Nat := (rl m len i).length
theorem rn_t {m : Nat → Int32} {len i : Nat} (h : isRing m len i) : rn m len (i + 1) = rn m len i + 1 := by
  unfold rn
  rw [rl_t h, List.length_append]
  rfl
theorem rn_f {m : Nat → Int32} {len i : Nat} (h : ¬ isRing m len i) : rn m len (i + 1) = rn m len i := by
  unfold rn
  rw [rl_f h]
theorem rn_le (m : Nat → Int32) (len i : Nat) : rn m len i ≤ i := rl_len m len i
def rgOk (g : Nat → Int32) (l : List Nat) : Prop := ∀ j c, l[j]? = some c → g j = nI c
theorem rgOk_nil {g : Nat → Int32} : rgOk g [] := fun j c hj => by simp at hj
theorem rgOk_add {g : Nat → Int32} {l : List Nat} {c : Nat} (h : rgOk g l) : rgOk (upd g l.length (nI c)) (l ++ [c]) := by
  intro j c1 hj
  by_cases hl : j < l.length
  · rw [List.getElem?_append_left hl] at hj
    exact (pk_un (by omega)).trans (h j c1 hj)
  · rw [List.getElem?_append_right (by omega)] at hj
    have hz : j - l.length < 1 := (List.getElem?_eq_some_iff.mp hj).1
    have e : j = l.length := by omega
    subst e
    rw [Nat.sub_self] at hj
    cases hj
    exact pk_us
set_option maxHeartbeats 4000000 in
set_option maxRecDepth 100000 in
theorem r_findRings {κ : Wc} {l : Launch} {h : Mm} {n : Nat} {o : Nat} {a : Nat} {m : Nat → Int32} {len : Nat} {g : Nat → Int32} {im : Int32} {ba : Int32} {at_ : Int32} {sz : Int32} {fa : Int32} {op : Int32} {rm : Int32} {ti : Int32} {tm : Int32} {wh : Int32} (K0 : h o = some (.inr (12, [.ref (o + 1), .ref (o + 2), .ref (o + 3), .int im, .ref (o + 4), .int ba, .int at_, .int sz, .int fa, .int op, .ref (o + 5), .ref (o + 6), .int rm, .ref (o + 7), .ref (o + 8), .int ti, .ref (o + 9), .int tm, .int wh, .ref (o + 10), .ref (o + 11), .ref (o + 12), .ref (o + 13)]))) (K1 : h a = arI κ 340 m) (K2 : h (o + 6) = arI κ 40 g) (q1 : m 1 = nI len) (q2 : 1 ≤ len) (q3 : len ≤ 40) (q8 : a = o + 1 ∨ a = o + 2) : Con κ l yX12_findRings cX12_findRings 5 none 2 0 0 [.ref o, .ref a] h n (fun q h' n' => ∃ g' : Nat → Int32, q = none ∧ h' = va_up (va_up h o (some (.inr (12, [.ref (o + 1), .ref (o + 2), .ref (o + 3), .int im, .ref (o + 4), .int ba, .int at_, .int sz, .int fa, .int op, .ref (o + 5), .ref (o + 6), .int (nI (rn m len len)), .ref (o + 7), .ref (o + 8), .int ti, .ref (o + 9), .int tm, .int wh, .ref (o + 10), .ref (o + 11), .ref (o + 12), .ref (o + 13)])))) (o + 6) (arI κ 40 g') ∧ n' = n ∧ rgOk g' (rl m len len)) := by
  refine Con.of mk_X12_findRings (Nat.le_of_ble_eq_true rfl) (fun G hG X E => ?_)
  subst hG
  refine z_ls (ls' := [(0, .ref o), (1, .ref a)]) rfl ?_
  refine z_aload_n X 0 dX12_findRings_0 rfl ?_
  refine z_iconst (v := 0) X dX12_findRings_1 (by decide) ?_
  refine z_put X fp_X12_191_12 dX12_findRings_2 K0 (by first | rfl | decide) (by first | rfl | decide) (Nat.le_of_ble_eq_true rfl) rfl ?_
  obtain ⟨zh1, ze2⟩ : ∃ z : Mm, z = va_up h o (some (.inr (12, [.ref (o + 1), .ref (o + 2), .ref (o + 3), .int im, .ref (o + 4), .int ba, .int at_, .int sz, .int fa, .int op, .ref (o + 5), .ref (o + 6), .int 0, .ref (o + 7), .ref (o + 8), .int ti, .ref (o + 9), .int tm, .int wh, .ref (o + 10), .ref (o + 11), .ref (o + 12), .ref (o + 13)]))) := ⟨_, rfl⟩
  refine z_heap (h' := zh1) ze2.symm ?_
  have zK3 := up_at ze2
  have zK4 := up_off ze2 (show a ≠ o by omega) K1
  have zK5 := up_off ze2 (show o + 6 ≠ o by omega) K2
  refine z_iconst (v := 0) X dX12_findRings_5 (by decide) ?_
  refine z_istore_n (ls' := [(2, .int 0), (0, .ref o), (1, .ref a)]) X dX12_findRings_6 (by decide) rfl ?_
  have L7 : ∀ (jj : Nat) (hh7 : Mm)  (i : Nat) (e : Nat → Int32), (len - i < jj) → (hh7 = va_up (va_up h o (some (.inr (12, [.ref (o + 1), .ref (o + 2), .ref (o + 3), .int im, .ref (o + 4), .int ba, .int at_, .int sz, .int fa, .int op, .ref (o + 5), .ref (o + 6), .int (nI (rn m len i)), .ref (o + 7), .ref (o + 8), .int ti, .ref (o + 9), .int tm, .int wh, .ref (o + 10), .ref (o + 11), .ref (o + 12), .ref (o + 13)])))) (o + 6) (arI κ 40 e)) → (hi : i ≤ len) → (hg : rgOk e (rl m len i)) → Z κ G 5 7 [(0, .ref o), (1, .ref a), (2, .int (nI i))] [] hh7 n 0 (0) := by
    intro jj
    induction jj with
    | zero => intro hh7 i e hmu; exact absurd hmu (Nat.not_lt_zero _)
    | succ jj ih7 =>
      intro hh7 i e hmu he7 hi hg
      have zK6 : hh7 o = some (.inr (12, [.ref (o + 1), .ref (o + 2), .ref (o + 3), .int im, .ref (o + 4), .int ba, .int at_, .int sz, .int fa, .int op, .ref (o + 5), .ref (o + 6), .int (nI (rn m len i)), .ref (o + 7), .ref (o + 8), .int ti, .ref (o + 9), .int tm, .int wh, .ref (o + 10), .ref (o + 11), .ref (o + 12), .ref (o + 13)])) := by rw [he7]; rw [va_up_ne _ _ (show o ≠ o + 6 by omega)]; exact va_up_self _ _ _
      have zK7 : hh7 a = arI κ 340 m := by rw [he7]; rw [va_up_ne _ _ (show a ≠ o + 6 by omega)]; rw [va_up_ne _ _ (show a ≠ o by omega)]; exact K1
      have zK8 : hh7 (o + 6) = arI κ 40 e := by rw [he7]; exact va_up_self _ _ _
      have hrl := rn_le m len i
      refine z_iload_n X 2 dX12_findRings_7 rfl ?_
      refine z_aload_n X 1 dX12_findRings_8 rfl ?_
      refine z_iconst (v := 1) X dX12_findRings_9 (by decide) ?_
      refine z_iald2 (v := m 1) X dX12_findRings_10 zK7 (vp_in_nI (n := 1) (by omega) (by omega)) (congrArg m (nI_clamp (n := 1) (by omega))) ?_
      refine z_toe (y := nI len) (q1) ?_
      refine z_icmp_ge X 97 dX12_findRings_11 (by decide) (fun zc9 => ?_) (fun zc9 => ?_)
      · try replace zc9 := (nI_leI (a := len) (b := i) (by omega) (by omega)).mp zc9
        refine z_vret X E dX12_findRings_97 (by omega) (by omega) ⟨e, ?_, ?_, ?_, ?_⟩
        · rfl
        · (have hil : i = len := by omega); subst hil; (first | (rw [he7]; done) | (rw [he7]; simp only [up_up]; done) | (rw [he7]; funext zz; simp only [va_up]; (repeat' split) <;> first | rfl | (exfalso; omega) | simp_all))
        · rfl
        · (have hil : i = len := by omega); subst hil; exact hg
      · try replace zc9 := mt (nI_leI (a := len) (b := i) (by omega) (by omega)).mpr zc9
        refine z_aload_n X 1 dX12_findRings_14 rfl ?_
        refine z_iload_n X 2 dX12_findRings_15 rfl ?_
        refine z_callS X (r_standsOut (κ := κ) (n := n) (a := (a)) (m := (m)) (c := (i)) zK7 (by first | assumption | omega) (by first | assumption | omega) (by first | assumption | omega)) mk_X12_standsOut dX12_findRings_16 wd_1023 wd_1024 rfl rfl (Nat.le_of_ble_eq_true rfl) (Nat.le_of_ble_eq_true rfl) (Nat.le_of_ble_eq_true rfl) (by omega) (by omega) (fun q zh10 zm12 zp13 => ?_)
        obtain ⟨rfl, ze11, zn14⟩ := zp13
        subst zm12
        subst zh10
        refine z_st (st' := [.int (soR m len i)]) rfl ?_
        refine z_istore_n (ls' := [(3, .int (soR m len i)), (0, .ref o), (1, .ref a), (2, .int (nI i))]) X dX12_findRings_19 (by decide) rfl ?_
        refine z_iload_n X 0 dX12_findRings_20 rfl ?_
        refine z_if_le X 63 dX12_findRings_21 (by decide) (fun zc15 => ?_) (fun zc15 => ?_)
        · refine z_iconst (v := 0) X dX12_findRings_63 (by decide) ?_
          refine z_istore (ls' := [(4, .int 0), (3, .int (soR m len i)), (0, .ref o), (1, .ref a), (2, .int (nI i))]) X dX12_findRings_64 (by decide) rfl ?_
          refine z_iload X 0 dX12_findRings_66 rfl ?_
          refine z_if_eq X 91 dX12_findRings_68 (by decide) (fun zc16 => ?_) (fun zc16 => ?_)
          · try replace zc16 := (nI_eq (a := 0) (b := 0) (by omega) (by omega)).mp zc16
            refine z_iinc (v := nI (i + 1)) (ls' := [(2, .int (nI (i + 1))), (4, .int 0), (3, .int (soR m len i)), (0, .ref o), (1, .ref a)]) X 4 dX12_findRings_91 rfl (nI_1 (i)) (by decide) rfl ?_
            refine z_goto X 7 dX12_findRings_94 (by decide) ?_
            refine z_sub (ls' := [(0, .ref o), (1, .ref a), (2, .int (nI (i + 1)))]) [3, 4, 0] rfl ?_
            exact ih7 _ (i + 1) e (by omega) (by first | ((have hr : isRing m len i := by (simp only [i_lt, i_le, show (0 : Int32).toInt = 0 by decide] at *; omega)); rw [rn_t hr]; (first | (rw [he7]; done) | (rw [he7]; simp only [up_up]; done) | (rw [he7]; funext zz; simp only [va_up]; (repeat' split) <;> first | rfl | (exfalso; omega) | simp_all))) | ((have hr : ¬ isRing m len i := by (simp only [i_lt, i_le, show (0 : Int32).toInt = 0 by decide] at *; omega)); rw [rn_f hr]; (first | (rw [he7]; done) | (rw [he7]; simp only [up_up]; done) | (rw [he7]; funext zz; simp only [va_up]; (repeat' split) <;> first | rfl | (exfalso; omega) | simp_all)))) (by first | assumption | rfl | omega) (by first | ((have hr : isRing m len i := by (simp only [i_lt, i_le, show (0 : Int32).toInt = 0 by decide] at *; omega)); rw [rl_t hr]; exact rgOk_add hg) | ((have hr : ¬ isRing m len i := by (simp only [i_lt, i_le, show (0 : Int32).toInt = 0 by decide] at *; omega)); rw [rl_f hr]; exact hg))
          · first | exact absurd zc16 (by decide) | exact absurd (by decide) zc16
        · refine z_iload_n X 3 dX12_findRings_24 rfl ?_
          refine z_if_eq X 39 dX12_findRings_25 (by decide) (fun zc17 => ?_) (fun zc17 => ?_)
          · try replace zc17 := (nI_eq (a := i) (b := 0) (by omega) (by omega)).mp zc17
            refine z_iload_n X 3 dX12_findRings_39 rfl ?_
            refine z_aload_n X 2 dX12_findRings_40 rfl ?_
            refine z_iconst (v := 1) X dX12_findRings_41 (by decide) ?_
            refine z_iald2 (v := m 1) X dX12_findRings_42 zK7 (vp_in_nI (n := 1) (by omega) (by omega)) (congrArg m (nI_clamp (n := 1) (by omega))) ?_
            refine z_toe (y := nI len) (q1) ?_
            refine z_iconst (v := 1) X dX12_findRings_43 (by decide) ?_
            refine z_isub X dX12_findRings_44 ?_
            refine z_toe (y := nI (len - 1)) (pk_sub (a := len) (b := 1) (by omega)) ?_
            refine z_icmp_eq X 59 dX12_findRings_45 (by decide) (fun zc18 => ?_) (fun zc18 => ?_)
            · try replace zc18 := (nI_eq (a := i) (b := len - 1) (by omega) (by omega)).mp zc18
              refine z_iconst (v := 1) X dX12_findRings_59 (by decide) ?_
              refine z_goto X 64 dX12_findRings_60 (by decide) ?_
              refine z_istore (ls' := [(4, .int 1), (3, .int (soR m len i)), (0, .ref o), (1, .ref a), (2, .int (nI i))]) X dX12_findRings_64 (by decide) rfl ?_
              refine z_iload X 0 dX12_findRings_66 rfl ?_
              refine z_if_eq X 91 dX12_findRings_68 (by decide) (fun zc19 => ?_) (fun zc19 => ?_)
              · first | exact absurd zc19 (by decide) | exact absurd (by decide) zc19
              · try replace zc19 := mt (nI_eq (a := 1) (b := 0) (by omega) (by omega)).mpr zc19
                refine z_aload_n X 2 dX12_findRings_71 rfl ?_
                refine z_get X fl_X12_25_12 dX12_findRings_72 zK6 rfl ?_
                refine z_aload_n X 2 dX12_findRings_75 rfl ?_
                refine z_get X fl_X12_191_12 dX12_findRings_76 zK6 rfl ?_
                refine z_iload_n X 4 dX12_findRings_79 rfl ?_
                refine z_iast X dX12_findRings_80 zK8 (vp_in_nI (n := rn m len i) (by omega) (by omega)) (congrArg (fun z => va_up hh7 (o + 6) (arI κ 40 (upd e z (nI i)))) (nI_clamp (n := rn m len i) (by omega))) ?_
                obtain ⟨zh20, ze21⟩ : ∃ z : Mm, z = va_up hh7 (o + 6) (arI κ 40 (upd e (rn m len i) (nI i))) := ⟨_, rfl⟩
                refine z_heap (h' := zh20) ze21.symm ?_
                have zK22 := up_off ze21 (show o ≠ o + 6 by omega) zK6
                have zK23 := up_off ze21 (show a ≠ o + 6 by omega) zK7
                have zK24 := up_at ze21
                refine z_aload_n X 2 dX12_findRings_81 rfl ?_
                refine z_dup X dX12_findRings_82 rfl ?_
                refine z_get X fl_X12_191_12 dX12_findRings_83 zK22 rfl ?_
                refine z_iconst (v := 1) X dX12_findRings_86 (by decide) ?_
                refine z_iadd X dX12_findRings_87 ?_
                refine z_toe (y := nI (rn m len i + 1)) (nI_add (rn m len i) (1)) ?_
                refine z_put X fp_X12_191_12 dX12_findRings_88 zK22 (by first | rfl | decide) (by first | rfl | decide) (Nat.le_of_ble_eq_true rfl) rfl ?_
                obtain ⟨zh25, ze26⟩ : ∃ z : Mm, z = va_up zh20 o (some (.inr (12, [.ref (o + 1), .ref (o + 2), .ref (o + 3), .int im, .ref (o + 4), .int ba, .int at_, .int sz, .int fa, .int op, .ref (o + 5), .ref (o + 6), .int (nI (rn m len i + 1)), .ref (o + 7), .ref (o + 8), .int ti, .ref (o + 9), .int tm, .int wh, .ref (o + 10), .ref (o + 11), .ref (o + 12), .ref (o + 13)]))) := ⟨_, rfl⟩
                refine z_heap (h' := zh25) ze26.symm ?_
                have zK27 := up_at ze26
                have zK28 := up_off ze26 (show a ≠ o by omega) zK23
                have zK29 := up_off ze26 (show o + 6 ≠ o by omega) zK24
                refine z_iinc (v := nI (i + 1)) (ls' := [(2, .int (nI (i + 1))), (4, .int 1), (3, .int (soR m len i)), (0, .ref o), (1, .ref a)]) X 4 dX12_findRings_91 rfl (nI_1 (i)) (by decide) rfl ?_
                refine z_goto X 7 dX12_findRings_94 (by decide) ?_
                refine z_sub (ls' := [(0, .ref o), (1, .ref a), (2, .int (nI (i + 1)))]) [3, 4, 0] rfl ?_
                exact ih7 _ (i + 1) (upd e (rn m len i) (nI i)) (by omega) (by first | ((have hr : isRing m len i := by (simp only [i_lt, i_le, show (0 : Int32).toInt = 0 by decide] at *; omega)); rw [rn_t hr]; (first | (rw [ze26, ze21, he7]; done) | (rw [ze26, ze21, he7]; simp only [up_up]; done) | (rw [ze26, ze21, he7]; funext zz; simp only [va_up]; (repeat' split) <;> first | rfl | (exfalso; omega) | simp_all))) | ((have hr : ¬ isRing m len i := by (simp only [i_lt, i_le, show (0 : Int32).toInt = 0 by decide] at *; omega)); rw [rn_f hr]; (first | (rw [ze26, ze21, he7]; done) | (rw [ze26, ze21, he7]; simp only [up_up]; done) | (rw [ze26, ze21, he7]; funext zz; simp only [va_up]; (repeat' split) <;> first | rfl | (exfalso; omega) | simp_all)))) (by first | assumption | rfl | omega) (by first | ((have hr : isRing m len i := by (simp only [i_lt, i_le, show (0 : Int32).toInt = 0 by decide] at *; omega)); rw [rl_t hr]; exact rgOk_add hg) | ((have hr : ¬ isRing m len i := by (simp only [i_lt, i_le, show (0 : Int32).toInt = 0 by decide] at *; omega)); rw [rl_f hr]; exact hg))
            · try replace zc18 := mt (nI_eq (a := i) (b := len - 1) (by omega) (by omega)).mpr zc18
              refine z_aload_n X 2 dX12_findRings_48 rfl ?_
              refine z_iload_n X 3 dX12_findRings_49 rfl ?_
              refine z_iconst (v := 1) X dX12_findRings_50 (by decide) ?_
              refine z_iadd X dX12_findRings_51 ?_
              refine z_toe (y := nI (i + 1)) (nI_add (i) (1)) ?_
              refine z_callS X (r_standsOut (κ := κ) (n := n) (a := (a)) (m := (m)) (c := (i + 1)) zK7 (by first | assumption | omega) (by first | assumption | omega) (by first | assumption | omega)) mk_X12_standsOut dX12_findRings_52 wd_1023 wd_1024 rfl rfl (Nat.le_of_ble_eq_true rfl) (Nat.le_of_ble_eq_true rfl) (Nat.le_of_ble_eq_true rfl) (by omega) (by omega) (fun q zh30 zm32 zp33 => ?_)
              obtain ⟨rfl, ze31, zn34⟩ := zp33
              subst zm32
              subst zh30
              refine z_st (st' := [.int (soR m len (i + 1))]) rfl ?_
              refine z_iload_n X 0 dX12_findRings_55 rfl ?_
              refine z_icmp_ge X 63 dX12_findRings_56 (by decide) (fun zc35 => ?_) (fun zc35 => ?_)
              · refine z_iconst (v := 0) X dX12_findRings_63 (by decide) ?_
                refine z_istore (ls' := [(4, .int 0), (3, .int (soR m len i)), (0, .ref o), (1, .ref a), (2, .int (nI i))]) X dX12_findRings_64 (by decide) rfl ?_
                refine z_iload X 0 dX12_findRings_66 rfl ?_
                refine z_if_eq X 91 dX12_findRings_68 (by decide) (fun zc36 => ?_) (fun zc36 => ?_)
                · try replace zc36 := (nI_eq (a := 0) (b := 0) (by omega) (by omega)).mp zc36
                  refine z_iinc (v := nI (i + 1)) (ls' := [(2, .int (nI (i + 1))), (4, .int 0), (3, .int (soR m len i)), (0, .ref o), (1, .ref a)]) X 4 dX12_findRings_91 rfl (nI_1 (i)) (by decide) rfl ?_
                  refine z_goto X 7 dX12_findRings_94 (by decide) ?_
                  refine z_sub (ls' := [(0, .ref o), (1, .ref a), (2, .int (nI (i + 1)))]) [3, 4, 0] rfl ?_
                  exact ih7 _ (i + 1) e (by omega) (by first | ((have hr : isRing m len i := by (simp only [i_lt, i_le, show (0 : Int32).toInt = 0 by decide] at *; omega)); rw [rn_t hr]; (first | (rw [he7]; done) | (rw [he7]; simp only [up_up]; done) | (rw [he7]; funext zz; simp only [va_up]; (repeat' split) <;> first | rfl | (exfalso; omega) | simp_all))) | ((have hr : ¬ isRing m len i := by (simp only [i_lt, i_le, show (0 : Int32).toInt = 0 by decide] at *; omega)); rw [rn_f hr]; (first | (rw [he7]; done) | (rw [he7]; simp only [up_up]; done) | (rw [he7]; funext zz; simp only [va_up]; (repeat' split) <;> first | rfl | (exfalso; omega) | simp_all)))) (by first | assumption | rfl | omega) (by first | ((have hr : isRing m len i := by (simp only [i_lt, i_le, show (0 : Int32).toInt = 0 by decide] at *; omega)); rw [rl_t hr]; exact rgOk_add hg) | ((have hr : ¬ isRing m len i := by (simp only [i_lt, i_le, show (0 : Int32).toInt = 0 by decide] at *; omega)); rw [rl_f hr]; exact hg))
                · first | exact absurd zc36 (by decide) | exact absurd (by decide) zc36
              · refine z_iconst (v := 1) X dX12_findRings_59 (by decide) ?_
                refine z_goto X 64 dX12_findRings_60 (by decide) ?_
                refine z_istore (ls' := [(4, .int 1), (3, .int (soR m len i)), (0, .ref o), (1, .ref a), (2, .int (nI i))]) X dX12_findRings_64 (by decide) rfl ?_
                refine z_iload X 0 dX12_findRings_66 rfl ?_
                refine z_if_eq X 91 dX12_findRings_68 (by decide) (fun zc37 => ?_) (fun zc37 => ?_)
                · first | exact absurd zc37 (by decide) | exact absurd (by decide) zc37
                · try replace zc37 := mt (nI_eq (a := 1) (b := 0) (by omega) (by omega)).mpr zc37
                  refine z_aload_n X 2 dX12_findRings_71 rfl ?_
                  refine z_get X fl_X12_25_12 dX12_findRings_72 zK6 rfl ?_
                  refine z_aload_n X 2 dX12_findRings_75 rfl ?_
                  refine z_get X fl_X12_191_12 dX12_findRings_76 zK6 rfl ?_
                  refine z_iload_n X 4 dX12_findRings_79 rfl ?_
                  refine z_iast X dX12_findRings_80 zK8 (vp_in_nI (n := rn m len i) (by omega) (by omega)) (congrArg (fun z => va_up hh7 (o + 6) (arI κ 40 (upd e z (nI i)))) (nI_clamp (n := rn m len i) (by omega))) ?_
                  obtain ⟨zh38, ze39⟩ : ∃ z : Mm, z = va_up hh7 (o + 6) (arI κ 40 (upd e (rn m len i) (nI i))) := ⟨_, rfl⟩
                  refine z_heap (h' := zh38) ze39.symm ?_
                  have zK40 := up_off ze39 (show o ≠ o + 6 by omega) zK6
                  have zK41 := up_off ze39 (show a ≠ o + 6 by omega) zK7
                  have zK42 := up_at ze39
                  refine z_aload_n X 2 dX12_findRings_81 rfl ?_
                  refine z_dup X dX12_findRings_82 rfl ?_
                  refine z_get X fl_X12_191_12 dX12_findRings_83 zK40 rfl ?_
                  refine z_iconst (v := 1) X dX12_findRings_86 (by decide) ?_
                  refine z_iadd X dX12_findRings_87 ?_
                  refine z_toe (y := nI (rn m len i + 1)) (nI_add (rn m len i) (1)) ?_
                  refine z_put X fp_X12_191_12 dX12_findRings_88 zK40 (by first | rfl | decide) (by first | rfl | decide) (Nat.le_of_ble_eq_true rfl) rfl ?_
                  obtain ⟨zh43, ze44⟩ : ∃ z : Mm, z = va_up zh38 o (some (.inr (12, [.ref (o + 1), .ref (o + 2), .ref (o + 3), .int im, .ref (o + 4), .int ba, .int at_, .int sz, .int fa, .int op, .ref (o + 5), .ref (o + 6), .int (nI (rn m len i + 1)), .ref (o + 7), .ref (o + 8), .int ti, .ref (o + 9), .int tm, .int wh, .ref (o + 10), .ref (o + 11), .ref (o + 12), .ref (o + 13)]))) := ⟨_, rfl⟩
                  refine z_heap (h' := zh43) ze44.symm ?_
                  have zK45 := up_at ze44
                  have zK46 := up_off ze44 (show a ≠ o by omega) zK41
                  have zK47 := up_off ze44 (show o + 6 ≠ o by omega) zK42
                  refine z_iinc (v := nI (i + 1)) (ls' := [(2, .int (nI (i + 1))), (4, .int 1), (3, .int (soR m len i)), (0, .ref o), (1, .ref a)]) X 4 dX12_findRings_91 rfl (nI_1 (i)) (by decide) rfl ?_
                  refine z_goto X 7 dX12_findRings_94 (by decide) ?_
                  refine z_sub (ls' := [(0, .ref o), (1, .ref a), (2, .int (nI (i + 1)))]) [3, 4, 0] rfl ?_
                  exact ih7 _ (i + 1) (upd e (rn m len i) (nI i)) (by omega) (by first | ((have hr : isRing m len i := by (simp only [i_lt, i_le, show (0 : Int32).toInt = 0 by decide] at *; omega)); rw [rn_t hr]; (first | (rw [ze44, ze39, he7]; done) | (rw [ze44, ze39, he7]; simp only [up_up]; done) | (rw [ze44, ze39, he7]; funext zz; simp only [va_up]; (repeat' split) <;> first | rfl | (exfalso; omega) | simp_all))) | ((have hr : ¬ isRing m len i := by (simp only [i_lt, i_le, show (0 : Int32).toInt = 0 by decide] at *; omega)); rw [rn_f hr]; (first | (rw [ze44, ze39, he7]; done) | (rw [ze44, ze39, he7]; simp only [up_up]; done) | (rw [ze44, ze39, he7]; funext zz; simp only [va_up]; (repeat' split) <;> first | rfl | (exfalso; omega) | simp_all)))) (by first | assumption | rfl | omega) (by first | ((have hr : isRing m len i := by (simp only [i_lt, i_le, show (0 : Int32).toInt = 0 by decide] at *; omega)); rw [rl_t hr]; exact rgOk_add hg) | ((have hr : ¬ isRing m len i := by (simp only [i_lt, i_le, show (0 : Int32).toInt = 0 by decide] at *; omega)); rw [rl_f hr]; exact hg))
          · try replace zc17 := mt (nI_eq (a := i) (b := 0) (by omega) (by omega)).mpr zc17
            refine z_aload_n X 2 dX12_findRings_28 rfl ?_
            refine z_iload_n X 3 dX12_findRings_29 rfl ?_
            refine z_iconst (v := 1) X dX12_findRings_30 (by decide) ?_
            refine z_isub X dX12_findRings_31 ?_
            refine z_toe (y := nI (i - 1)) (pk_sub (a := i) (b := 1) (by omega)) ?_
            refine z_callS X (r_standsOut (κ := κ) (n := n) (a := (a)) (m := (m)) (c := (i - 1)) zK7 (by first | assumption | omega) (by first | assumption | omega) (by first | assumption | omega)) mk_X12_standsOut dX12_findRings_32 wd_1023 wd_1024 rfl rfl (Nat.le_of_ble_eq_true rfl) (Nat.le_of_ble_eq_true rfl) (Nat.le_of_ble_eq_true rfl) (by omega) (by omega) (fun q zh48 zm50 zp51 => ?_)
            obtain ⟨rfl, ze49, zn52⟩ := zp51
            subst zm50
            subst zh48
            refine z_st (st' := [.int (soR m len (i - 1))]) rfl ?_
            refine z_iload_n X 0 dX12_findRings_35 rfl ?_
            refine z_icmp_ge X 63 dX12_findRings_36 (by decide) (fun zc53 => ?_) (fun zc53 => ?_)
            · refine z_iconst (v := 0) X dX12_findRings_63 (by decide) ?_
              refine z_istore (ls' := [(4, .int 0), (3, .int (soR m len i)), (0, .ref o), (1, .ref a), (2, .int (nI i))]) X dX12_findRings_64 (by decide) rfl ?_
              refine z_iload X 0 dX12_findRings_66 rfl ?_
              refine z_if_eq X 91 dX12_findRings_68 (by decide) (fun zc54 => ?_) (fun zc54 => ?_)
              · try replace zc54 := (nI_eq (a := 0) (b := 0) (by omega) (by omega)).mp zc54
                refine z_iinc (v := nI (i + 1)) (ls' := [(2, .int (nI (i + 1))), (4, .int 0), (3, .int (soR m len i)), (0, .ref o), (1, .ref a)]) X 4 dX12_findRings_91 rfl (nI_1 (i)) (by decide) rfl ?_
                refine z_goto X 7 dX12_findRings_94 (by decide) ?_
                refine z_sub (ls' := [(0, .ref o), (1, .ref a), (2, .int (nI (i + 1)))]) [3, 4, 0] rfl ?_
                exact ih7 _ (i + 1) e (by omega) (by first | ((have hr : isRing m len i := by (simp only [i_lt, i_le, show (0 : Int32).toInt = 0 by decide] at *; omega)); rw [rn_t hr]; (first | (rw [he7]; done) | (rw [he7]; simp only [up_up]; done) | (rw [he7]; funext zz; simp only [va_up]; (repeat' split) <;> first | rfl | (exfalso; omega) | simp_all))) | ((have hr : ¬ isRing m len i := by (simp only [i_lt, i_le, show (0 : Int32).toInt = 0 by decide] at *; omega)); rw [rn_f hr]; (first | (rw [he7]; done) | (rw [he7]; simp only [up_up]; done) | (rw [he7]; funext zz; simp only [va_up]; (repeat' split) <;> first | rfl | (exfalso; omega) | simp_all)))) (by first | assumption | rfl | omega) (by first | ((have hr : isRing m len i := by (simp only [i_lt, i_le, show (0 : Int32).toInt = 0 by decide] at *; omega)); rw [rl_t hr]; exact rgOk_add hg) | ((have hr : ¬ isRing m len i := by (simp only [i_lt, i_le, show (0 : Int32).toInt = 0 by decide] at *; omega)); rw [rl_f hr]; exact hg))
              · first | exact absurd zc54 (by decide) | exact absurd (by decide) zc54
            · refine z_iload_n X 3 dX12_findRings_39 rfl ?_
              refine z_aload_n X 2 dX12_findRings_40 rfl ?_
              refine z_iconst (v := 1) X dX12_findRings_41 (by decide) ?_
              refine z_iald2 (v := m 1) X dX12_findRings_42 zK7 (vp_in_nI (n := 1) (by omega) (by omega)) (congrArg m (nI_clamp (n := 1) (by omega))) ?_
              refine z_toe (y := nI len) (q1) ?_
              refine z_iconst (v := 1) X dX12_findRings_43 (by decide) ?_
              refine z_isub X dX12_findRings_44 ?_
              refine z_toe (y := nI (len - 1)) (pk_sub (a := len) (b := 1) (by omega)) ?_
              refine z_icmp_eq X 59 dX12_findRings_45 (by decide) (fun zc55 => ?_) (fun zc55 => ?_)
              · try replace zc55 := (nI_eq (a := i) (b := len - 1) (by omega) (by omega)).mp zc55
                refine z_iconst (v := 1) X dX12_findRings_59 (by decide) ?_
                refine z_goto X 64 dX12_findRings_60 (by decide) ?_
                refine z_istore (ls' := [(4, .int 1), (3, .int (soR m len i)), (0, .ref o), (1, .ref a), (2, .int (nI i))]) X dX12_findRings_64 (by decide) rfl ?_
                refine z_iload X 0 dX12_findRings_66 rfl ?_
                refine z_if_eq X 91 dX12_findRings_68 (by decide) (fun zc56 => ?_) (fun zc56 => ?_)
                · first | exact absurd zc56 (by decide) | exact absurd (by decide) zc56
                · try replace zc56 := mt (nI_eq (a := 1) (b := 0) (by omega) (by omega)).mpr zc56
                  refine z_aload_n X 2 dX12_findRings_71 rfl ?_
                  refine z_get X fl_X12_25_12 dX12_findRings_72 zK6 rfl ?_
                  refine z_aload_n X 2 dX12_findRings_75 rfl ?_
                  refine z_get X fl_X12_191_12 dX12_findRings_76 zK6 rfl ?_
                  refine z_iload_n X 4 dX12_findRings_79 rfl ?_
                  refine z_iast X dX12_findRings_80 zK8 (vp_in_nI (n := rn m len i) (by omega) (by omega)) (congrArg (fun z => va_up hh7 (o + 6) (arI κ 40 (upd e z (nI i)))) (nI_clamp (n := rn m len i) (by omega))) ?_
                  obtain ⟨zh57, ze58⟩ : ∃ z : Mm, z = va_up hh7 (o + 6) (arI κ 40 (upd e (rn m len i) (nI i))) := ⟨_, rfl⟩
                  refine z_heap (h' := zh57) ze58.symm ?_
                  have zK59 := up_off ze58 (show o ≠ o + 6 by omega) zK6
                  have zK60 := up_off ze58 (show a ≠ o + 6 by omega) zK7
                  have zK61 := up_at ze58
                  refine z_aload_n X 2 dX12_findRings_81 rfl ?_
                  refine z_dup X dX12_findRings_82 rfl ?_
                  refine z_get X fl_X12_191_12 dX12_findRings_83 zK59 rfl ?_
                  refine z_iconst (v := 1) X dX12_findRings_86 (by decide) ?_
                  refine z_iadd X dX12_findRings_87 ?_
                  refine z_toe (y := nI (rn m len i + 1)) (nI_add (rn m len i) (1)) ?_
                  refine z_put X fp_X12_191_12 dX12_findRings_88 zK59 (by first | rfl | decide) (by first | rfl | decide) (Nat.le_of_ble_eq_true rfl) rfl ?_
                  obtain ⟨zh62, ze63⟩ : ∃ z : Mm, z = va_up zh57 o (some (.inr (12, [.ref (o + 1), .ref (o + 2), .ref (o + 3), .int im, .ref (o + 4), .int ba, .int at_, .int sz, .int fa, .int op, .ref (o + 5), .ref (o + 6), .int (nI (rn m len i + 1)), .ref (o + 7), .ref (o + 8), .int ti, .ref (o + 9), .int tm, .int wh, .ref (o + 10), .ref (o + 11), .ref (o + 12), .ref (o + 13)]))) := ⟨_, rfl⟩
                  refine z_heap (h' := zh62) ze63.symm ?_
                  have zK64 := up_at ze63
                  have zK65 := up_off ze63 (show a ≠ o by omega) zK60
                  have zK66 := up_off ze63 (show o + 6 ≠ o by omega) zK61
                  refine z_iinc (v := nI (i + 1)) (ls' := [(2, .int (nI (i + 1))), (4, .int 1), (3, .int (soR m len i)), (0, .ref o), (1, .ref a)]) X 4 dX12_findRings_91 rfl (nI_1 (i)) (by decide) rfl ?_
                  refine z_goto X 7 dX12_findRings_94 (by decide) ?_
                  refine z_sub (ls' := [(0, .ref o), (1, .ref a), (2, .int (nI (i + 1)))]) [3, 4, 0] rfl ?_
                  exact ih7 _ (i + 1) (upd e (rn m len i) (nI i)) (by omega) (by first | ((have hr : isRing m len i := by (simp only [i_lt, i_le, show (0 : Int32).toInt = 0 by decide] at *; omega)); rw [rn_t hr]; (first | (rw [ze63, ze58, he7]; done) | (rw [ze63, ze58, he7]; simp only [up_up]; done) | (rw [ze63, ze58, he7]; funext zz; simp only [va_up]; (repeat' split) <;> first | rfl | (exfalso; omega) | simp_all))) | ((have hr : ¬ isRing m len i := by (simp only [i_lt, i_le, show (0 : Int32).toInt = 0 by decide] at *; omega)); rw [rn_f hr]; (first | (rw [ze63, ze58, he7]; done) | (rw [ze63, ze58, he7]; simp only [up_up]; done) | (rw [ze63, ze58, he7]; funext zz; simp only [va_up]; (repeat' split) <;> first | rfl | (exfalso; omega) | simp_all)))) (by first | assumption | rfl | omega) (by first | ((have hr : isRing m len i := by (simp only [i_lt, i_le, show (0 : Int32).toInt = 0 by decide] at *; omega)); rw [rl_t hr]; exact rgOk_add hg) | ((have hr : ¬ isRing m len i := by (simp only [i_lt, i_le, show (0 : Int32).toInt = 0 by decide] at *; omega)); rw [rl_f hr]; exact hg))
              · try replace zc55 := mt (nI_eq (a := i) (b := len - 1) (by omega) (by omega)).mpr zc55
                refine z_aload_n X 2 dX12_findRings_48 rfl ?_
                refine z_iload_n X 3 dX12_findRings_49 rfl ?_
                refine z_iconst (v := 1) X dX12_findRings_50 (by decide) ?_
                refine z_iadd X dX12_findRings_51 ?_
                refine z_toe (y := nI (i + 1)) (nI_add (i) (1)) ?_
                refine z_callS X (r_standsOut (κ := κ) (n := n) (a := (a)) (m := (m)) (c := (i + 1)) zK7 (by first | assumption | omega) (by first | assumption | omega) (by first | assumption | omega)) mk_X12_standsOut dX12_findRings_52 wd_1023 wd_1024 rfl rfl (Nat.le_of_ble_eq_true rfl) (Nat.le_of_ble_eq_true rfl) (Nat.le_of_ble_eq_true rfl) (by omega) (by omega) (fun q zh67 zm69 zp70 => ?_)
                obtain ⟨rfl, ze68, zn71⟩ := zp70
                subst zm69
                subst zh67
                refine z_st (st' := [.int (soR m len (i + 1))]) rfl ?_
                refine z_iload_n X 0 dX12_findRings_55 rfl ?_
                refine z_icmp_ge X 63 dX12_findRings_56 (by decide) (fun zc72 => ?_) (fun zc72 => ?_)
                · refine z_iconst (v := 0) X dX12_findRings_63 (by decide) ?_
                  refine z_istore (ls' := [(4, .int 0), (3, .int (soR m len i)), (0, .ref o), (1, .ref a), (2, .int (nI i))]) X dX12_findRings_64 (by decide) rfl ?_
                  refine z_iload X 0 dX12_findRings_66 rfl ?_
                  refine z_if_eq X 91 dX12_findRings_68 (by decide) (fun zc73 => ?_) (fun zc73 => ?_)
                  · try replace zc73 := (nI_eq (a := 0) (b := 0) (by omega) (by omega)).mp zc73
                    refine z_iinc (v := nI (i + 1)) (ls' := [(2, .int (nI (i + 1))), (4, .int 0), (3, .int (soR m len i)), (0, .ref o), (1, .ref a)]) X 4 dX12_findRings_91 rfl (nI_1 (i)) (by decide) rfl ?_
                    refine z_goto X 7 dX12_findRings_94 (by decide) ?_
                    refine z_sub (ls' := [(0, .ref o), (1, .ref a), (2, .int (nI (i + 1)))]) [3, 4, 0] rfl ?_
                    exact ih7 _ (i + 1) e (by omega) (by first | ((have hr : isRing m len i := by (simp only [i_lt, i_le, show (0 : Int32).toInt = 0 by decide] at *; omega)); rw [rn_t hr]; (first | (rw [he7]; done) | (rw [he7]; simp only [up_up]; done) | (rw [he7]; funext zz; simp only [va_up]; (repeat' split) <;> first | rfl | (exfalso; omega) | simp_all))) | ((have hr : ¬ isRing m len i := by (simp only [i_lt, i_le, show (0 : Int32).toInt = 0 by decide] at *; omega)); rw [rn_f hr]; (first | (rw [he7]; done) | (rw [he7]; simp only [up_up]; done) | (rw [he7]; funext zz; simp only [va_up]; (repeat' split) <;> first | rfl | (exfalso; omega) | simp_all)))) (by first | assumption | rfl | omega) (by first | ((have hr : isRing m len i := by (simp only [i_lt, i_le, show (0 : Int32).toInt = 0 by decide] at *; omega)); rw [rl_t hr]; exact rgOk_add hg) | ((have hr : ¬ isRing m len i := by (simp only [i_lt, i_le, show (0 : Int32).toInt = 0 by decide] at *; omega)); rw [rl_f hr]; exact hg))
                  · first | exact absurd zc73 (by decide) | exact absurd (by decide) zc73
                · refine z_iconst (v := 1) X dX12_findRings_59 (by decide) ?_
                  refine z_goto X 64 dX12_findRings_60 (by decide) ?_
                  refine z_istore (ls' := [(4, .int 1), (3, .int (soR m len i)), (0, .ref o), (1, .ref a), (2, .int (nI i))]) X dX12_findRings_64 (by decide) rfl ?_
                  refine z_iload X 0 dX12_findRings_66 rfl ?_
                  refine z_if_eq X 91 dX12_findRings_68 (by decide) (fun zc74 => ?_) (fun zc74 => ?_)
                  · first | exact absurd zc74 (by decide) | exact absurd (by decide) zc74
                  · try replace zc74 := mt (nI_eq (a := 1) (b := 0) (by omega) (by omega)).mpr zc74
                    refine z_aload_n X 2 dX12_findRings_71 rfl ?_
                    refine z_get X fl_X12_25_12 dX12_findRings_72 zK6 rfl ?_
                    refine z_aload_n X 2 dX12_findRings_75 rfl ?_
                    refine z_get X fl_X12_191_12 dX12_findRings_76 zK6 rfl ?_
                    refine z_iload_n X 4 dX12_findRings_79 rfl ?_
                    refine z_iast X dX12_findRings_80 zK8 (vp_in_nI (n := rn m len i) (by omega) (by omega)) (congrArg (fun z => va_up hh7 (o + 6) (arI κ 40 (upd e z (nI i)))) (nI_clamp (n := rn m len i) (by omega))) ?_
                    obtain ⟨zh75, ze76⟩ : ∃ z : Mm, z = va_up hh7 (o + 6) (arI κ 40 (upd e (rn m len i) (nI i))) := ⟨_, rfl⟩
                    refine z_heap (h' := zh75) ze76.symm ?_
                    have zK77 := up_off ze76 (show o ≠ o + 6 by omega) zK6
                    have zK78 := up_off ze76 (show a ≠ o + 6 by omega) zK7
                    have zK79 := up_at ze76
                    refine z_aload_n X 2 dX12_findRings_81 rfl ?_
                    refine z_dup X dX12_findRings_82 rfl ?_
                    refine z_get X fl_X12_191_12 dX12_findRings_83 zK77 rfl ?_
                    refine z_iconst (v := 1) X dX12_findRings_86 (by decide) ?_
                    refine z_iadd X dX12_findRings_87 ?_
                    refine z_toe (y := nI (rn m len i + 1)) (nI_add (rn m len i) (1)) ?_
                    refine z_put X fp_X12_191_12 dX12_findRings_88 zK77 (by first | rfl | decide) (by first | rfl | decide) (Nat.le_of_ble_eq_true rfl) rfl ?_
                    obtain ⟨zh80, ze81⟩ : ∃ z : Mm, z = va_up zh75 o (some (.inr (12, [.ref (o + 1), .ref (o + 2), .ref (o + 3), .int im, .ref (o + 4), .int ba, .int at_, .int sz, .int fa, .int op, .ref (o + 5), .ref (o + 6), .int (nI (rn m len i + 1)), .ref (o + 7), .ref (o + 8), .int ti, .ref (o + 9), .int tm, .int wh, .ref (o + 10), .ref (o + 11), .ref (o + 12), .ref (o + 13)]))) := ⟨_, rfl⟩
                    refine z_heap (h' := zh80) ze81.symm ?_
                    have zK82 := up_at ze81
                    have zK83 := up_off ze81 (show a ≠ o by omega) zK78
                    have zK84 := up_off ze81 (show o + 6 ≠ o by omega) zK79
                    refine z_iinc (v := nI (i + 1)) (ls' := [(2, .int (nI (i + 1))), (4, .int 1), (3, .int (soR m len i)), (0, .ref o), (1, .ref a)]) X 4 dX12_findRings_91 rfl (nI_1 (i)) (by decide) rfl ?_
                    refine z_goto X 7 dX12_findRings_94 (by decide) ?_
                    refine z_sub (ls' := [(0, .ref o), (1, .ref a), (2, .int (nI (i + 1)))]) [3, 4, 0] rfl ?_
                    exact ih7 _ (i + 1) (upd e (rn m len i) (nI i)) (by omega) (by first | ((have hr : isRing m len i := by (simp only [i_lt, i_le, show (0 : Int32).toInt = 0 by decide] at *; omega)); rw [rn_t hr]; (first | (rw [ze81, ze76, he7]; done) | (rw [ze81, ze76, he7]; simp only [up_up]; done) | (rw [ze81, ze76, he7]; funext zz; simp only [va_up]; (repeat' split) <;> first | rfl | (exfalso; omega) | simp_all))) | ((have hr : ¬ isRing m len i := by (simp only [i_lt, i_le, show (0 : Int32).toInt = 0 by decide] at *; omega)); rw [rn_f hr]; (first | (rw [ze81, ze76, he7]; done) | (rw [ze81, ze76, he7]; simp only [up_up]; done) | (rw [ze81, ze76, he7]; funext zz; simp only [va_up]; (repeat' split) <;> first | rfl | (exfalso; omega) | simp_all)))) (by first | assumption | rfl | omega) (by first | ((have hr : isRing m len i := by (simp only [i_lt, i_le, show (0 : Int32).toInt = 0 by decide] at *; omega)); rw [rl_t hr]; exact rgOk_add hg) | ((have hr : ¬ isRing m len i := by (simp only [i_lt, i_le, show (0 : Int32).toInt = 0 by decide] at *; omega)); rw [rl_f hr]; exact hg))
  refine z_sub (ls' := [(0, .ref o), (1, .ref a), (2, .int 0)]) [1, 2, 0] rfl ?_
  exact L7 _ _ 0 g (Nat.lt_succ_self _) (by first | (rw [ze2]; done) | (rw [ze2]; simp only [up_up]; done) | (rw [ze2]; funext zz; simp only [va_up]; (repeat' split) <;> first | rfl | (exfalso; omega) | simp_all)) (by first | assumption | rfl | omega) (by exact rgOk_nil)
