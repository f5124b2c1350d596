def digF (b : Nat → Int32) (n : Nat) (f : Option Nat) : Nat → Int32 → Nat → Int32 × Nat
  | 0, v, p => (v, p)
  | r + 1, v, p => if 48 ≤ (tk b n p f).toInt ∧ (tk b n p f).toInt ≤ 57 then digF b n f r (10 * v + tk b n p f - 48) (p + 1) else (v, p)
theorem digF_stop {b : Nat → Int32} {n : Nat} {f : Option Nat} {r : Nat} {v : Int32} {p : Nat} (h : ¬ (48 ≤ (tk b n p f).toInt ∧ (tk b n p f).toInt ≤ 57)) : digF b n f r v p = (v, p) := by
  cases r with
  | zero => rfl
  | succ r => exact if_neg h
theorem digF_go {b : Nat → Int32} {n : Nat} {f : Option Nat} {g : Nat} {v : Int32} {p : Nat} (hg : g < 4) (h : 48 ≤ (tk b n p f).toInt ∧ (tk b n p f).toInt ≤ 57) : digF b n f (4 - g) v p = digF b n f (4 - (g + 1)) (10 * v + tk b n p f - 48) (p + 1) := by
  rw [show 4 - g = (4 - (g + 1)) + 1 by omega]
  exact if_pos h
def leafU : EvF := fun b n nm s => if nmI (tk b n s.1 s.2.1) < 0 then (if (digF b n s.2.1 4 0 s.1).2 = s.1 then (0, s.1, flW s.2.1 s.1, s.2.2) else ((digF b n s.2.1 4 0 s.1).1, (digF b n s.2.1 4 0 s.1).2, s.2.1, s.2.2)) else (nm (nmI (tk b n s.1 s.2.1)).toNatClampNeg, s.1 + 1, s.2.1, s.2.2)
theorem leafU_nm {b : Nat → Int32} {n : Nat} {nm : Nat → Int32} {p k : Nat} {f : Option Nat} (h : ¬ nmI (tk b n p f) < 0) : leafU b n nm (p, f, k) = (nm (nmI (tk b n p f)).toNatClampNeg, p + 1, f, k) := if_neg h
theorem leafU_w {b : Nat → Int32} {n : Nat} {nm : Nat → Int32} {p k : Nat} {f : Option Nat} {v : Int32} (h : nmI (tk b n p f) < 0) (hd : digF b n f 4 0 p = (v, p)) : leafU b n nm (p, f, k) = (0, p, flW f p, k) := by
  refine (if_pos h).trans ?_
  show (if (digF b n f 4 0 p).2 = p then _ else _) = _
  rw [hd]
  exact if_pos rfl
theorem leafU_n {b : Nat → Int32} {n : Nat} {nm : Nat → Int32} {p k p2 : Nat} {f : Option Nat} {v : Int32} (h : nmI (tk b n p f) < 0) (hd : digF b n f 4 0 p = (v, p2)) (hp : ¬ p2 = p) : leafU b n nm (p, f, k) = (v, p2, f, k) := by
  refine (if_pos h).trans ?_
  show (if (digF b n f 4 0 p).2 = p then _ else ((digF b n f 4 0 p).1, (digF b n f 4 0 p).2, f, k)) = _
  rw [hd]
  exact if_neg hp
theorem nm_in {c : Int32} (h : ¬ nmI c < 0) : vp_in (nmI c) 3 := by
  unfold nmI at *
  split
  · exact vp_in_nI (n := 0) (by decide) (by decide)
  · rename_i h1
    rw [if_neg h1] at h
    split
    · exact vp_in_nI (n := 1) (by decide) (by decide)
    · rename_i h2
      rw [if_neg h2] at h
      split
      · exact vp_in_nI (n := 2) (by decide) (by decide)
      · rename_i h3
        rw [if_neg h3] at h
        exact absurd (by decide) h
theorem nm_ne {c : Int32} (h : ¬ nmI c < 0) : ¬ c = -1 := by
  intro q
  subst q
  exact h (by decide)
def unitF : Nat → EvF
  | 0 => fun b n nm s => if tk b n s.1 s.2.1 = 33 ∨ tk b n s.1 s.2.1 = 40 then (0, s.1, flW s.2.1 s.1, s.2.2) else leafU b n nm s
  | j + 1 => fun b n nm s => if tk b n s.1 s.2.1 = 33 then (b2i ((unitF j b n nm (s.1 + 1, s.2.1, s.2.2 + 1)).1 = 0), (unitF j b n nm (s.1 + 1, s.2.1, s.2.2 + 1)).2.1, (unitF j b n nm (s.1 + 1, s.2.1, s.2.2 + 1)).2.2.1, (unitF j b n nm (s.1 + 1, s.2.1, s.2.2 + 1)).2.2.2 - 1)
    else if tk b n s.1 s.2.1 = 40 then (if tk b n (eithE (bothE (cmpE (sumE (prodE (unitF j))))) b n nm (s.1 + 1, s.2.1, s.2.2 + 1)).2.1 (eithE (bothE (cmpE (sumE (prodE (unitF j))))) b n nm (s.1 + 1, s.2.1, s.2.2 + 1)).2.2.1 = 41 then ((eithE (bothE (cmpE (sumE (prodE (unitF j))))) b n nm (s.1 + 1, s.2.1, s.2.2 + 1)).1, (eithE (bothE (cmpE (sumE (prodE (unitF j))))) b n nm (s.1 + 1, s.2.1, s.2.2 + 1)).2.1 + 1, (eithE (bothE (cmpE (sumE (prodE (unitF j))))) b n nm (s.1 + 1, s.2.1, s.2.2 + 1)).2.2.1, (eithE (bothE (cmpE (sumE (prodE (unitF j))))) b n nm (s.1 + 1, s.2.1, s.2.2 + 1)).2.2.2 - 1)
      else (0, (eithE (bothE (cmpE (sumE (prodE (unitF j))))) b n nm (s.1 + 1, s.2.1, s.2.2 + 1)).2.1, flW (eithE (bothE (cmpE (sumE (prodE (unitF j))))) b n nm (s.1 + 1, s.2.1, s.2.2 + 1)).2.2.1 (eithE (bothE (cmpE (sumE (prodE (unitF j))))) b n nm (s.1 + 1, s.2.1, s.2.2 + 1)).2.1, (eithE (bothE (cmpE (sumE (prodE (unitF j))))) b n nm (s.1 + 1, s.2.1, s.2.2 + 1)).2.2.2))
    else leafU b n nm s
abbrev evE (j : Nat) : EvF := eithE (bothE (cmpE (sumE (prodE (unitF j)))))
section UF
variable {b : Nat → Int32} {n : Nat} {nm : Nat → Int32} {p k p' k' j : Nat} {f f' : Option Nat} {v : Int32}
theorem unit0_w (h : tk b n p f = 33 ∨ tk b n p f = 40) : unitF 0 b n nm (p, f, k) = (0, p, flW f p, k) := if_pos h
theorem unit0_l (h1 : ¬ tk b n p f = 33) (h2 : ¬ tk b n p f = 40) : unitF 0 b n nm (p, f, k) = leafU b n nm (p, f, k) := if_neg (fun q => q.elim h1 h2)
theorem unitS_l (h1 : ¬ tk b n p f = 33) (h2 : ¬ tk b n p f = 40) : unitF (j + 1) b n nm (p, f, k) = leafU b n nm (p, f, k) := (if_neg h1).trans (if_neg h2)
theorem unitS_b (h : tk b n p f = 33) (hu : unitF j b n nm (p + 1, f, k + 1) = (v, p', f', k')) : unitF (j + 1) b n nm (p, f, k) = (b2i (v = 0), p', f', k' - 1) := by
  refine (if_pos h).trans ?_
  show (b2i ((unitF j b n nm (p + 1, f, k + 1)).1 = 0), (unitF j b n nm (p + 1, f, k + 1)).2.1, (unitF j b n nm (p + 1, f, k + 1)).2.2.1, (unitF j b n nm (p + 1, f, k + 1)).2.2.2 - 1) = _
  rw [hu]
theorem unitS_p (h : tk b n p f = 40) (hu : evE j b n nm (p + 1, f, k + 1) = (v, p', f', k')) (h2 : tk b n p' f' = 41) : unitF (j + 1) b n nm (p, f, k) = (v, p' + 1, f', k' - 1) := by
  refine (if_neg (show ¬ tk b n p f = 33 by rw [h]; decide)).trans ((if_pos h).trans ?_)
  show (if tk b n (evE j b n nm (p + 1, f, k + 1)).2.1 (evE j b n nm (p + 1, f, k + 1)).2.2.1 = 41 then ((evE j b n nm (p + 1, f, k + 1)).1, (evE j b n nm (p + 1, f, k + 1)).2.1 + 1, (evE j b n nm (p + 1, f, k + 1)).2.2.1, (evE j b n nm (p + 1, f, k + 1)).2.2.2 - 1) else _) = _
  rw [hu]
  exact if_pos h2
theorem unitS_w (h : tk b n p f = 40) (hu : evE j b n nm (p + 1, f, k + 1) = (v, p', f', k')) (h2 : ¬ tk b n p' f' = 41) : unitF (j + 1) b n nm (p, f, k) = (0, p', flW f' p', k') := by
  refine (if_neg (show ¬ tk b n p f = 33 by rw [h]; decide)).trans ((if_pos h).trans ?_)
  show (if tk b n (evE j b n nm (p + 1, f, k + 1)).2.1 (evE j b n nm (p + 1, f, k + 1)).2.2.1 = 41 then _ else (0, (evE j b n nm (p + 1, f, k + 1)).2.1, flW (evE j b n nm (p + 1, f, k + 1)).2.2.1 (evE j b n nm (p + 1, f, k + 1)).2.1, (evE j b n nm (p + 1, f, k + 1)).2.2.2)) = _
  rw [hu]
  exact if_neg h2
end UF
set_option maxHeartbeats 4000000 in
set_option maxRecDepth 100000 in
theorem ev_unit0 {κ : Wc} {l : Launch} : EvC κ l yX12_unit cX12_unit 5 3 0 (unitF 0) := by
  intro h n o base sz p k f d nm im rm ti tm wh K0 K1 K2 e1 e2 e3 e4 e6
  refine Con.of mk_X12_unit (Nat.le_of_ble_eq_true rfl) (fun G hG X E => ?_)
  subst hG
  refine z_ls (ls' := [(0, .ref o)]) rfl ?_
  refine z_aload_n X 0 dX12_unit_0 rfl ?_
  refine z_callV X (r_here (κ := κ) (n := n) (o := (o)) (base := (base)) (sz := (sz)) (p := (p)) (k := (k)) (f := (f)) (d := (d)) (im := (im)) (rm := (rm)) (ti := (ti)) (tm := (tm)) (wh := (wh)) K0 K1 (by first | assumption | omega) (by first | assumption | omega) (by first | assumption | omega) (by first | assumption | omega)) mk_X12_here dX12_unit_1 wd_1116 wd_1118 wd_35 rfl K0 rfl rfl rfl (Nat.le_of_ble_eq_true rfl) (by omega) (Nat.le_of_ble_eq_true rfl) (by omega) (by omega) (fun q zh1 zm3 zp4 => ?_)
  obtain ⟨rfl, ze2, zn5⟩ := zp4
  subst zm3
  subst zh1
  refine z_st (st' := [.int (tk (sh d base) sz p f)]) rfl ?_
  refine z_istore_n (ls' := [(1, .int (tk (sh d base) sz p f)), (0, .ref o)]) X dX12_unit_4 (by decide) rfl ?_
  refine z_iload_n X 0 dX12_unit_5 rfl ?_
  refine z_bipush (v := 33) X dX12_unit_6 (by decide) ?_
  refine z_icmp_eq X 17 dX12_unit_8 (by decide) (fun zc6 => ?_) (fun zc6 => ?_)
  · have hin := tk_in (show ¬ tk (sh d base) sz p f = -1 by rw [zc6]; decide)
    have hkj := e6 hin.2
    refine z_aload_n X 1 dX12_unit_17 rfl ?_
    refine z_get X fl_X12_141_12 dX12_unit_18 K0 rfl ?_
    refine z_iconst (v := 5) X dX12_unit_21 (by decide) ?_
    refine z_icmp_ne X 30 dX12_unit_22 (by decide) (fun zc7 => ?_) (fun zc7 => ?_)
    · try replace zc7 := mt (nI_eq (a := k) (b := 5) (by omega) (by omega)).mpr zc7
      omega
    · try replace zc7 := (nI_eq (a := k) (b := 5) (by omega) (by omega)).mp zc7
      refine z_aload_n X 1 dX12_unit_25 rfl ?_
      refine z_callV X (r_wrong (κ := κ) (n := n) (o := (o)) (base := (base)) (sz := (sz)) (p := (p)) (k := (k)) (f := (f)) (d := (d)) (im := (im)) (rm := (rm)) (ti := (ti)) (tm := (tm)) (wh := (wh)) K0 (by assumption)) mk_X12_wrong dX12_unit_26 wd_1120 wd_1122 wd_36 rfl K0 rfl rfl rfl (Nat.le_of_ble_eq_true rfl) (by omega) (Nat.le_of_ble_eq_true rfl) (by omega) (by omega) (fun q zh8 zm10 zp11 => ?_)
      obtain ⟨rfl, ze9, zn12⟩ := zp11
      subst zm10
      refine z_st (st' := [.int 0]) rfl ?_
      have zK13 : zh8 o = some (.inr (12, [.ref (o + 1), .ref (o + 2), .ref (o + 3), .int im, .ref (o + 4), .int (nI base), .int (nI p), .int (nI sz), .int (faI (flW f p)), .int (nI k), .ref (o + 5), .ref (o + 6), .int rm, .ref (o + 7), .ref (o + 8), .int ti, .ref (o + 9), .int tm, .int wh, .ref (o + 10), .ref (o + 11), .ref (o + 12), .ref (o + 13)])) := by rw [ze9]; exact va_up_self _ _ _
      have zK14 : zh8 (o + 1) = arI κ 340 d := by rw [ze9]; rw [va_up_ne _ _ (show o + 1 ≠ o by omega)]; exact K1
      have zK15 : zh8 (o + 5) = arI κ 3 nm := by rw [ze9]; rw [va_up_ne _ _ (show o + 5 ≠ o by omega)]; exact K2
      refine z_iret X E dX12_unit_29 (by omega) (by omega) ⟨0, p, flW f p, k, ?_, ?_, ?_, ?_, ?_⟩
      · rfl
      · first | (rw [ze9]; done) | (rw [ze9]; simp only [up_up]; done) | (rw [ze9]; funext zz; simp only [va_up]; (repeat' split) <;> first | rfl | (exfalso; omega) | simp_all)
      · rfl
      · exact unit0_w (by first | exact Or.inl (by assumption) | exact Or.inr (by assumption))
      · exact ⟨Nat.le_refl _, e3, flW_ok e4 (by omega), fun q => absurd q (flW_ne f p), Nat.le_refl _⟩
  · refine z_iload_n X 0 dX12_unit_11 rfl ?_
    refine z_bipush (v := 40) X dX12_unit_12 (by decide) ?_
    refine z_icmp_ne X 118 dX12_unit_14 (by decide) (fun zc16 => ?_) (fun zc16 => ?_)
    · refine z_aload_n X 1 dX12_unit_118 rfl ?_
      refine z_iload_n X 0 dX12_unit_119 rfl ?_
      refine z_callV X (r_nameOf (κ := κ) (n := n) (o := (o)) (c := (tk (sh d base) sz p f))  ) mk_X12_nameOf dX12_unit_120 wd_1128 wd_1130 wd_38 rfl K0 rfl rfl rfl (Nat.le_of_ble_eq_true rfl) (by omega) (Nat.le_of_ble_eq_true rfl) (by omega) (by omega) (fun q zh17 zm19 zp20 => ?_)
      obtain ⟨rfl, ze18, zn21⟩ := zp20
      subst zm19
      subst zh17
      refine z_st (st' := [.int (nmI (tk (sh d base) sz p f))]) rfl ?_
      refine z_istore_n (ls' := [(2, .int (nmI (tk (sh d base) sz p f))), (1, .int (tk (sh d base) sz p f)), (0, .ref o)]) X dX12_unit_123 (by decide) rfl ?_
      refine z_iload_n X 0 dX12_unit_124 rfl ?_
      refine z_if_lt X 145 dX12_unit_125 (by decide) (fun zc22 => ?_) (fun zc22 => ?_)
      · refine z_iconst (v := 0) X dX12_unit_145 (by decide) ?_
        refine z_istore_n (ls' := [(3, .int 0), (2, .int (nmI (tk (sh d base) sz p f))), (1, .int (tk (sh d base) sz p f)), (0, .ref o)]) X dX12_unit_146 (by decide) rfl ?_
        refine z_iconst (v := 0) X dX12_unit_147 (by decide) ?_
        refine z_istore (ls' := [(4, .int 0), (3, .int 0), (2, .int (nmI (tk (sh d base) sz p f))), (1, .int (tk (sh d base) sz p f)), (0, .ref o)]) X dX12_unit_148 (by decide) rfl ?_
        have L150 : ∀ (jj : Nat) (hh150 : Mm)  (g : Nat) (v : Int32) (p2 : Nat), (4 - g < jj) → (hh150 = va_up h o (some (.inr (12, [.ref (o + 1), .ref (o + 2), .ref (o + 3), .int im, .ref (o + 4), .int (nI base), .int (nI p2), .int (nI sz), .int (faI f), .int (nI k), .ref (o + 5), .ref (o + 6), .int rm, .ref (o + 7), .ref (o + 8), .int ti, .ref (o + 9), .int tm, .int wh, .ref (o + 10), .ref (o + 11), .ref (o + 12), .ref (o + 13)])))) → (hg : g ≤ 4) → (hp : p2 = p + g) → (hp2 : p2 ≤ sz) → (hR : digF (sh d base) sz f 4 0 p = digF (sh d base) sz f (4 - g) v p2) → Z κ G 5 150 [(0, .ref o), (1, .int (tk (sh d base) sz p f)), (2, .int (nmI (tk (sh d base) sz p f))), (3, .int v), (4, .int (nI g))] [] hh150 n 0 (0) := by
          intro jj
          induction jj with
          | zero => intro hh150 g v p2 hmu; exact absurd hmu (Nat.not_lt_zero _)
          | succ jj ih150 =>
            intro hh150 g v p2 hmu he150 hg hp hp2 hR
            have zK23 : hh150 o = some (.inr (12, [.ref (o + 1), .ref (o + 2), .ref (o + 3), .int im, .ref (o + 4), .int (nI base), .int (nI p2), .int (nI sz), .int (faI f), .int (nI k), .ref (o + 5), .ref (o + 6), .int rm, .ref (o + 7), .ref (o + 8), .int ti, .ref (o + 9), .int tm, .int wh, .ref (o + 10), .ref (o + 11), .ref (o + 12), .ref (o + 13)])) := by rw [he150]; exact va_up_self _ _ _
            have zK24 : hh150 (o + 1) = arI κ 340 d := by rw [he150]; rw [va_up_ne _ _ (show o + 1 ≠ o by omega)]; exact K1
            have zK25 : hh150 (o + 5) = arI κ 3 nm := by rw [he150]; rw [va_up_ne _ _ (show o + 5 ≠ o by omega)]; exact K2
            refine z_iload X 4 dX12_unit_150 rfl ?_
            refine z_iconst (v := 4) X dX12_unit_152 (by decide) ?_
            refine z_icmp_ge X 202 dX12_unit_153 (by decide) (fun zc26 => ?_) (fun zc26 => ?_)
            · try replace zc26 := (nI_leI (a := 4) (b := g) (by omega) (by omega)).mp zc26
              refine z_iload X 4 dX12_unit_202 rfl ?_
              refine z_if_ne X 214 dX12_unit_204 (by decide) (fun zc27 => ?_) (fun zc27 => ?_)
              · try replace zc27 := mt (nI_eq (a := g) (b := 0) (by omega) (by omega)).mpr zc27
                refine z_iload_n X 3 dX12_unit_214 rfl ?_
                refine z_iret X E dX12_unit_215 (by omega) (by omega) ⟨v, p2, f, k, ?_, ?_, ?_, ?_, ?_⟩
                · rfl
                · first | (rw [he150]; done) | (rw [he150]; simp only [up_up]; done) | (rw [he150]; funext zz; simp only [va_up]; (repeat' split) <;> first | rfl | (exfalso; omega) | simp_all)
                · rfl
                · (have hdg : digF (sh d base) sz f 4 0 p = (v, p2) := by (rw [hR]; first | exact digF_stop hrg | (rw [show 4 - g = 0 by omega]; rfl))); exact (unit0_l (by assumption) (by assumption)).trans (leafU_n (by assumption) hdg (by omega))
                · exact ⟨by omega, by omega, e4, fun q => ⟨q, rfl⟩, Nat.le_refl _⟩
              · try replace zc27 := (nI_eq (a := g) (b := 0) (by omega) (by omega)).mp zc27
                refine z_aload_n X 0 dX12_unit_207 rfl ?_
                refine z_callV X (r_wrong (κ := κ) (n := n) (o := (o)) (base := (base)) (sz := (sz)) (p := (p2)) (k := (k)) (f := (f)) (d := (d)) (im := (im)) (rm := (rm)) (ti := (ti)) (tm := (tm)) (wh := (wh)) zK23 (by assumption)) mk_X12_wrong dX12_unit_208 wd_1120 wd_1122 wd_36 rfl zK23 rfl rfl rfl (Nat.le_of_ble_eq_true rfl) (by omega) (Nat.le_of_ble_eq_true rfl) (by omega) (by omega) (fun q zh28 zm30 zp31 => ?_)
                obtain ⟨rfl, ze29, zn32⟩ := zp31
                subst zm30
                refine z_st (st' := [.int 0]) rfl ?_
                have zK33 : zh28 o = some (.inr (12, [.ref (o + 1), .ref (o + 2), .ref (o + 3), .int im, .ref (o + 4), .int (nI base), .int (nI p2), .int (nI sz), .int (faI (flW f p2)), .int (nI k), .ref (o + 5), .ref (o + 6), .int rm, .ref (o + 7), .ref (o + 8), .int ti, .ref (o + 9), .int tm, .int wh, .ref (o + 10), .ref (o + 11), .ref (o + 12), .ref (o + 13)])) := by rw [ze29]; exact va_up_self _ _ _
                have zK34 : zh28 (o + 1) = arI κ 340 d := by rw [ze29]; rw [va_up_ne _ _ (show o + 1 ≠ o by omega)]; exact zK24
                have zK35 : zh28 (o + 5) = arI κ 3 nm := by rw [ze29]; rw [va_up_ne _ _ (show o + 5 ≠ o by omega)]; exact zK25
                refine z_goto X 215 dX12_unit_211 (by decide) ?_
                have hg0 : g = 0 := by omega
                subst hg0
                have hpp : p2 = p := by omega
                subst p2
                refine z_iret X E dX12_unit_215 (by omega) (by omega) ⟨0, p, flW f p, k, ?_, ?_, ?_, ?_, ?_⟩
                · rfl
                · first | (rw [ze29, he150]; done) | (rw [ze29, he150]; simp only [up_up]; done) | (rw [ze29, he150]; funext zz; simp only [va_up]; (repeat' split) <;> first | rfl | (exfalso; omega) | simp_all)
                · rfl
                · (have hdg : digF (sh d base) sz f 4 0 p = (v, p) := by (rw [hR]; first | exact digF_stop hrg | (exfalso; omega))); exact (unit0_l (by assumption) (by assumption)).trans (leafU_w (by assumption) hdg)
                · exact ⟨Nat.le_refl _, e3, flW_ok e4 (by omega), fun q => absurd q (flW_ne f p), Nat.le_refl _⟩
            · try replace zc26 := mt (nI_leI (a := 4) (b := g) (by omega) (by omega)).mpr zc26
              refine z_aload_n X 0 dX12_unit_156 rfl ?_
              refine z_callV X (r_here (κ := κ) (n := n) (o := (o)) (base := (base)) (sz := (sz)) (p := (p2)) (k := (k)) (f := (f)) (d := (d)) (im := (im)) (rm := (rm)) (ti := (ti)) (tm := (tm)) (wh := (wh)) zK23 zK24 (by first | assumption | omega) (by first | assumption | omega) (by first | assumption | omega) (by first | assumption | omega)) mk_X12_here dX12_unit_157 wd_1116 wd_1118 wd_35 rfl zK23 rfl rfl rfl (Nat.le_of_ble_eq_true rfl) (by omega) (Nat.le_of_ble_eq_true rfl) (by omega) (by omega) (fun q zh36 zm38 zp39 => ?_)
              obtain ⟨rfl, ze37, zn40⟩ := zp39
              subst zm38
              subst zh36
              refine z_st (st' := [.int (tk (sh d base) sz p2 f)]) rfl ?_
              refine z_i2l X dX12_unit_160 rfl ?_
              refine z_ldc2 X dX12_unit_161 wd_1132 ?_
              refine z_ldc2 X dX12_unit_164 wd_1133 ?_
              refine z_callS X (r_in (κ := κ) (n := n) (v := ((tk (sh d base) sz p2 f).toInt64)) (lo := (48 : Int64)) (hi := (57 : Int64))  ) mk_X12_in dX12_unit_167 wd_1014 wd_1015 rfl rfl (Nat.le_of_ble_eq_true rfl) (by omega) (Nat.le_of_ble_eq_true rfl) (by omega) (by omega) (fun q zh41 zm43 zp44 => ?_)
              obtain ⟨rfl, ze42, zn45⟩ := zp44
              subst zm43
              subst zh41
              refine z_st (st' := [.int (b2i ((48 : Int64).toInt ≤ ((tk (sh d base) sz p2 f).toInt64 : Int64).toInt ∧ ((tk (sh d base) sz p2 f).toInt64 : Int64).toInt ≤ (57 : Int64).toInt))]) rfl ?_
              refine z_toe (y := b2i (48 ≤ (tk (sh d base) sz p2 f).toInt ∧ (tk (sh d base) sz p2 f).toInt ≤ 57)) (by simp only [Int32.toInt_toInt64, show (48 : Int64).toInt = 48 by decide, show (57 : Int64).toInt = 57 by decide]) ?_
              refine z_if_eq X 202 dX12_unit_170 (by decide) (fun zc46 => ?_) (fun zc46 => ?_)
              · replace zc46 := b2i_f zc46
                have hrg := zc46
                refine z_iload X 4 dX12_unit_202 rfl ?_
                refine z_if_ne X 214 dX12_unit_204 (by decide) (fun zc47 => ?_) (fun zc47 => ?_)
                · try replace zc47 := mt (nI_eq (a := g) (b := 0) (by omega) (by omega)).mpr zc47
                  refine z_iload_n X 3 dX12_unit_214 rfl ?_
                  refine z_iret X E dX12_unit_215 (by omega) (by omega) ⟨v, p2, f, k, ?_, ?_, ?_, ?_, ?_⟩
                  · rfl
                  · first | (rw [he150]; done) | (rw [he150]; simp only [up_up]; done) | (rw [he150]; funext zz; simp only [va_up]; (repeat' split) <;> first | rfl | (exfalso; omega) | simp_all)
                  · rfl
                  · (have hdg : digF (sh d base) sz f 4 0 p = (v, p2) := by (rw [hR]; first | exact digF_stop hrg | (rw [show 4 - g = 0 by omega]; rfl))); exact (unit0_l (by assumption) (by assumption)).trans (leafU_n (by assumption) hdg (by omega))
                  · exact ⟨by omega, by omega, e4, fun q => ⟨q, rfl⟩, Nat.le_refl _⟩
                · try replace zc47 := (nI_eq (a := g) (b := 0) (by omega) (by omega)).mp zc47
                  refine z_aload_n X 0 dX12_unit_207 rfl ?_
                  refine z_callV X (r_wrong (κ := κ) (n := n) (o := (o)) (base := (base)) (sz := (sz)) (p := (p2)) (k := (k)) (f := (f)) (d := (d)) (im := (im)) (rm := (rm)) (ti := (ti)) (tm := (tm)) (wh := (wh)) zK23 (by assumption)) mk_X12_wrong dX12_unit_208 wd_1120 wd_1122 wd_36 rfl zK23 rfl rfl rfl (Nat.le_of_ble_eq_true rfl) (by omega) (Nat.le_of_ble_eq_true rfl) (by omega) (by omega) (fun q zh48 zm50 zp51 => ?_)
                  obtain ⟨rfl, ze49, zn52⟩ := zp51
                  subst zm50
                  refine z_st (st' := [.int 0]) rfl ?_
                  have zK53 : zh48 o = some (.inr (12, [.ref (o + 1), .ref (o + 2), .ref (o + 3), .int im, .ref (o + 4), .int (nI base), .int (nI p2), .int (nI sz), .int (faI (flW f p2)), .int (nI k), .ref (o + 5), .ref (o + 6), .int rm, .ref (o + 7), .ref (o + 8), .int ti, .ref (o + 9), .int tm, .int wh, .ref (o + 10), .ref (o + 11), .ref (o + 12), .ref (o + 13)])) := by rw [ze49]; exact va_up_self _ _ _
                  have zK54 : zh48 (o + 1) = arI κ 340 d := by rw [ze49]; rw [va_up_ne _ _ (show o + 1 ≠ o by omega)]; exact zK24
                  have zK55 : zh48 (o + 5) = arI κ 3 nm := by rw [ze49]; rw [va_up_ne _ _ (show o + 5 ≠ o by omega)]; exact zK25
                  refine z_goto X 215 dX12_unit_211 (by decide) ?_
                  have hg0 : g = 0 := by omega
                  subst hg0
                  have hpp : p2 = p := by omega
                  subst p2
                  refine z_iret X E dX12_unit_215 (by omega) (by omega) ⟨0, p, flW f p, k, ?_, ?_, ?_, ?_, ?_⟩
                  · rfl
                  · first | (rw [ze49, he150]; done) | (rw [ze49, he150]; simp only [up_up]; done) | (rw [ze49, he150]; funext zz; simp only [va_up]; (repeat' split) <;> first | rfl | (exfalso; omega) | simp_all)
                  · rfl
                  · (have hdg : digF (sh d base) sz f 4 0 p = (v, p) := by (rw [hR]; first | exact digF_stop hrg | (exfalso; omega))); exact (unit0_l (by assumption) (by assumption)).trans (leafU_w (by assumption) hdg)
                  · exact ⟨Nat.le_refl _, e3, flW_ok e4 (by omega), fun q => absurd q (flW_ne f p), Nat.le_refl _⟩
              · replace zc46 := b2i_t zc46
                have hrg := zc46
                have hin := tk_in (b := sh d base) (n := sz) (p := p2) (f := f) (fun q => by rw [q] at hrg; exact absurd hrg.1 (by decide))
                refine z_bipush (v := 10) X dX12_unit_173 (by decide) ?_
                refine z_iload_n X 3 dX12_unit_175 rfl ?_
                refine z_imul X dX12_unit_176 ?_
                refine z_aload_n X 0 dX12_unit_177 rfl ?_
                refine z_callV X (r_here (κ := κ) (n := n) (o := (o)) (base := (base)) (sz := (sz)) (p := (p2)) (k := (k)) (f := (f)) (d := (d)) (im := (im)) (rm := (rm)) (ti := (ti)) (tm := (tm)) (wh := (wh)) zK23 zK24 (by first | assumption | omega) (by first | assumption | omega) (by first | assumption | omega) (by first | assumption | omega)) mk_X12_here dX12_unit_178 wd_1116 wd_1118 wd_35 rfl zK23 rfl rfl rfl (Nat.le_of_ble_eq_true rfl) (by omega) (Nat.le_of_ble_eq_true rfl) (by omega) (by omega) (fun q zh56 zm58 zp59 => ?_)
                obtain ⟨rfl, ze57, zn60⟩ := zp59
                subst zm58
                subst zh56
                refine z_st (st' := [.int (tk (sh d base) sz p2 f), .int (10 * v)]) rfl ?_
                refine z_iadd X dX12_unit_181 ?_
                refine z_bipush (v := 48) X dX12_unit_182 (by decide) ?_
                refine z_isub X dX12_unit_184 ?_
                refine z_istore_n (ls' := [(3, .int (((10 * v) + (tk (sh d base) sz p2 f)) - 48)), (0, .ref o), (1, .int (tk (sh d base) sz p f)), (2, .int (nmI (tk (sh d base) sz p f))), (4, .int (nI g))]) X dX12_unit_185 (by decide) rfl ?_
                refine z_aload_n X 1 dX12_unit_186 rfl ?_
                refine z_dup X dX12_unit_187 rfl ?_
                refine z_get X fl_X12_106_12 dX12_unit_188 zK23 rfl ?_
                refine z_iconst (v := 1) X dX12_unit_191 (by decide) ?_
                refine z_iadd X dX12_unit_192 ?_
                refine z_toe (y := nI (p2 + 1)) (nI_add (p2) (1)) ?_
                refine z_put X fp_X12_106_12 dX12_unit_193 zK23 (by first | rfl | decide) (by first | rfl | decide) (Nat.le_of_ble_eq_true rfl) rfl ?_
                obtain ⟨zh61, ze62⟩ : ∃ z : Mm, z = va_up hh150 o (some (.inr (12, [.ref (o + 1), .ref (o + 2), .ref (o + 3), .int im, .ref (o + 4), .int (nI base), .int (nI (p2 + 1)), .int (nI sz), .int (faI f), .int (nI k), .ref (o + 5), .ref (o + 6), .int rm, .ref (o + 7), .ref (o + 8), .int ti, .ref (o + 9), .int tm, .int wh, .ref (o + 10), .ref (o + 11), .ref (o + 12), .ref (o + 13)]))) := ⟨_, rfl⟩
                refine z_heap (h' := zh61) ze62.symm ?_
                have zK63 := up_at ze62
                have zK64 := up_off ze62 (show o + 1 ≠ o by omega) zK24
                have zK65 := up_off ze62 (show o + 5 ≠ o by omega) zK25
                refine z_iinc (v := nI (g + 1)) (ls' := [(4, .int (nI (g + 1))), (3, .int (((10 * v) + (tk (sh d base) sz p2 f)) - 48)), (0, .ref o), (1, .int (tk (sh d base) sz p f)), (2, .int (nmI (tk (sh d base) sz p f)))]) X 4 dX12_unit_196 rfl (nI_1 (g)) (by decide) rfl ?_
                refine z_goto X 150 dX12_unit_199 (by decide) ?_
                refine z_sub (ls' := [(0, .ref o), (1, .int (tk (sh d base) sz p f)), (2, .int (nmI (tk (sh d base) sz p f))), (3, .int (((10 * v) + (tk (sh d base) sz p2 f)) - 48)), (4, .int (nI (g + 1)))]) [2, 3, 4, 1, 0] rfl ?_
                exact ih150 _ (g + 1) (((10 * v) + (tk (sh d base) sz p2 f)) - 48) (p2 + 1) (by omega) (by first | (rw [ze62, he150]; done) | (rw [ze62, he150]; simp only [up_up]; done) | (rw [ze62, he150]; funext zz; simp only [va_up]; (repeat' split) <;> first | rfl | (exfalso; omega) | simp_all)) (by first | assumption | rfl | omega) (by first | assumption | rfl | omega) (by first | assumption | rfl | omega) (by rw [hR]; exact digF_go (by omega) hrg)
        refine z_sub (ls' := [(0, .ref o), (1, .int (tk (sh d base) sz p f)), (2, .int (nmI (tk (sh d base) sz p f))), (3, .int 0), (4, .int 0)]) [4, 3, 2, 1, 0] rfl ?_
        exact L150 _ _ 0 0 p (Nat.lt_succ_self _) (by first | rfl | (rw [up_same _ _ K0]) | (funext zz; simp only [va_up]; (repeat' split) <;> first | rfl | (exfalso; omega) | simp_all)) (by first | assumption | rfl | omega) (by first | assumption | rfl | omega) (by first | assumption | rfl | omega) (by first | assumption | rfl | omega)
      · have hin := tk_in (nm_ne zc22)
        refine z_aload_n X 2 dX12_unit_128 rfl ?_
        refine z_dup X dX12_unit_129 rfl ?_
        refine z_get X fl_X12_106_12 dX12_unit_130 K0 rfl ?_
        refine z_iconst (v := 1) X dX12_unit_133 (by decide) ?_
        refine z_iadd X dX12_unit_134 ?_
        refine z_toe (y := nI (p + 1)) (nI_add (p) (1)) ?_
        refine z_put X fp_X12_106_12 dX12_unit_135 K0 (by first | rfl | decide) (by first | rfl | decide) (Nat.le_of_ble_eq_true rfl) rfl ?_
        obtain ⟨zh66, ze67⟩ : ∃ z : Mm, z = va_up h o (some (.inr (12, [.ref (o + 1), .ref (o + 2), .ref (o + 3), .int im, .ref (o + 4), .int (nI base), .int (nI (p + 1)), .int (nI sz), .int (faI f), .int (nI k), .ref (o + 5), .ref (o + 6), .int rm, .ref (o + 7), .ref (o + 8), .int ti, .ref (o + 9), .int tm, .int wh, .ref (o + 10), .ref (o + 11), .ref (o + 12), .ref (o + 13)]))) := ⟨_, rfl⟩
        refine z_heap (h' := zh66) ze67.symm ?_
        have zK68 := up_at ze67
        have zK69 := up_off ze67 (show o + 1 ≠ o by omega) K1
        have zK70 := up_off ze67 (show o + 5 ≠ o by omega) K2
        refine z_aload_n X 2 dX12_unit_138 rfl ?_
        refine z_get X fl_X12_22_12 dX12_unit_139 zK68 rfl ?_
        refine z_iload_n X 0 dX12_unit_142 rfl ?_
        refine z_iald2 (v := nm (nmI (tk (sh d base) sz p f)).toNatClampNeg) X dX12_unit_143 zK70 (nm_in (by assumption)) (rfl) ?_
        refine z_iret X E dX12_unit_144 (by omega) (by omega) ⟨nm (nmI (tk (sh d base) sz p f)).toNatClampNeg, p + 1, f, k, ?_, ?_, ?_, ?_, ?_⟩
        · rfl
        · first | (rw [ze67]; done) | (rw [ze67]; simp only [up_up]; done) | (rw [ze67]; funext zz; simp only [va_up]; (repeat' split) <;> first | rfl | (exfalso; omega) | simp_all)
        · rfl
        · exact (unit0_l (by assumption) (by assumption)).trans (leafU_nm (by assumption))
        · exact ⟨by omega, by omega, e4, fun q => ⟨q, rfl⟩, Nat.le_refl _⟩
    · have hin := tk_in (show ¬ tk (sh d base) sz p f = -1 by rw [zc16]; decide)
      have hkj := e6 hin.2
      refine z_aload_n X 1 dX12_unit_17 rfl ?_
      refine z_get X fl_X12_141_12 dX12_unit_18 K0 rfl ?_
      refine z_iconst (v := 5) X dX12_unit_21 (by decide) ?_
      refine z_icmp_ne X 30 dX12_unit_22 (by decide) (fun zc71 => ?_) (fun zc71 => ?_)
      · try replace zc71 := mt (nI_eq (a := k) (b := 5) (by omega) (by omega)).mpr zc71
        omega
      · try replace zc71 := (nI_eq (a := k) (b := 5) (by omega) (by omega)).mp zc71
        refine z_aload_n X 1 dX12_unit_25 rfl ?_
        refine z_callV X (r_wrong (κ := κ) (n := n) (o := (o)) (base := (base)) (sz := (sz)) (p := (p)) (k := (k)) (f := (f)) (d := (d)) (im := (im)) (rm := (rm)) (ti := (ti)) (tm := (tm)) (wh := (wh)) K0 (by assumption)) mk_X12_wrong dX12_unit_26 wd_1120 wd_1122 wd_36 rfl K0 rfl rfl rfl (Nat.le_of_ble_eq_true rfl) (by omega) (Nat.le_of_ble_eq_true rfl) (by omega) (by omega) (fun q zh72 zm74 zp75 => ?_)
        obtain ⟨rfl, ze73, zn76⟩ := zp75
        subst zm74
        refine z_st (st' := [.int 0]) rfl ?_
        have zK77 : zh72 o = some (.inr (12, [.ref (o + 1), .ref (o + 2), .ref (o + 3), .int im, .ref (o + 4), .int (nI base), .int (nI p), .int (nI sz), .int (faI (flW f p)), .int (nI k), .ref (o + 5), .ref (o + 6), .int rm, .ref (o + 7), .ref (o + 8), .int ti, .ref (o + 9), .int tm, .int wh, .ref (o + 10), .ref (o + 11), .ref (o + 12), .ref (o + 13)])) := by rw [ze73]; exact va_up_self _ _ _
        have zK78 : zh72 (o + 1) = arI κ 340 d := by rw [ze73]; rw [va_up_ne _ _ (show o + 1 ≠ o by omega)]; exact K1
        have zK79 : zh72 (o + 5) = arI κ 3 nm := by rw [ze73]; rw [va_up_ne _ _ (show o + 5 ≠ o by omega)]; exact K2
        refine z_iret X E dX12_unit_29 (by omega) (by omega) ⟨0, p, flW f p, k, ?_, ?_, ?_, ?_, ?_⟩
        · rfl
        · first | (rw [ze73]; done) | (rw [ze73]; simp only [up_up]; done) | (rw [ze73]; funext zz; simp only [va_up]; (repeat' split) <;> first | rfl | (exfalso; omega) | simp_all)
        · rfl
        · exact unit0_w (by first | exact Or.inl (by assumption) | exact Or.inr (by assumption))
        · exact ⟨Nat.le_refl _, e3, flW_ok e4 (by omega), fun q => absurd q (flW_ne f p), Nat.le_refl _⟩
set_option maxHeartbeats 4000000 in
set_option maxRecDepth 100000 in
theorem ev_unitS {κ : Wc} {l : Launch} {j dd : Nat} (hdd : 3 ≤ dd) (hU : EvC κ l yX12_unit cX12_unit 5 dd j (unitF j)) (hE : EvC κ l yX12_either cX12_either 3 (dd + 5) j (evE j)) : EvC κ l yX12_unit cX12_unit 5 (dd + 6) (j + 1) (unitF (j + 1)) := by
  intro h n o base sz p k f d nm im rm ti tm wh K0 K1 K2 e1 e2 e3 e4 e6
  refine Con.of mk_X12_unit (Nat.le_of_ble_eq_true rfl) (fun G hG X E => ?_)
  subst hG
  refine z_ls (ls' := [(0, .ref o)]) rfl ?_
  refine z_aload_n X 0 dX12_unit_0 rfl ?_
  refine z_callV X (r_here (κ := κ) (n := n) (o := (o)) (base := (base)) (sz := (sz)) (p := (p)) (k := (k)) (f := (f)) (d := (d)) (im := (im)) (rm := (rm)) (ti := (ti)) (tm := (tm)) (wh := (wh)) K0 K1 (by first | assumption | omega) (by first | assumption | omega) (by first | assumption | omega) (by first | assumption | omega)) mk_X12_here dX12_unit_1 wd_1116 wd_1118 wd_35 rfl K0 rfl rfl rfl (Nat.le_of_ble_eq_true rfl) (by omega) (Nat.le_of_ble_eq_true rfl) (by omega) (by omega) (fun q zh1 zm3 zp4 => ?_)
  obtain ⟨rfl, ze2, zn5⟩ := zp4
  subst zm3
  subst zh1
  refine z_st (st' := [.int (tk (sh d base) sz p f)]) rfl ?_
  refine z_istore_n (ls' := [(1, .int (tk (sh d base) sz p f)), (0, .ref o)]) X dX12_unit_4 (by decide) rfl ?_
  refine z_iload_n X 0 dX12_unit_5 rfl ?_
  refine z_bipush (v := 33) X dX12_unit_6 (by decide) ?_
  refine z_icmp_eq X 17 dX12_unit_8 (by decide) (fun zc6 => ?_) (fun zc6 => ?_)
  · have hin := tk_in (show ¬ tk (sh d base) sz p f = -1 by rw [zc6]; decide)
    have hkj := e6 hin.2
    refine z_aload_n X 1 dX12_unit_17 rfl ?_
    refine z_get X fl_X12_141_12 dX12_unit_18 K0 rfl ?_
    refine z_iconst (v := 5) X dX12_unit_21 (by decide) ?_
    refine z_icmp_ne X 30 dX12_unit_22 (by decide) (fun zc7 => ?_) (fun zc7 => ?_)
    · try replace zc7 := mt (nI_eq (a := k) (b := 5) (by omega) (by omega)).mpr zc7
      refine z_aload_n X 1 dX12_unit_30 rfl ?_
      refine z_dup X dX12_unit_31 rfl ?_
      refine z_get X fl_X12_141_12 dX12_unit_32 K0 rfl ?_
      refine z_iconst (v := 1) X dX12_unit_35 (by decide) ?_
      refine z_iadd X dX12_unit_36 ?_
      refine z_toe (y := nI (k + 1)) (nI_add (k) (1)) ?_
      refine z_put X fp_X12_141_12 dX12_unit_37 K0 (by first | rfl | decide) (by first | rfl | decide) (Nat.le_of_ble_eq_true rfl) rfl ?_
      obtain ⟨zh8, ze9⟩ : ∃ z : Mm, z = va_up h o (some (.inr (12, [.ref (o + 1), .ref (o + 2), .ref (o + 3), .int im, .ref (o + 4), .int (nI base), .int (nI p), .int (nI sz), .int (faI f), .int (nI (k + 1)), .ref (o + 5), .ref (o + 6), .int rm, .ref (o + 7), .ref (o + 8), .int ti, .ref (o + 9), .int tm, .int wh, .ref (o + 10), .ref (o + 11), .ref (o + 12), .ref (o + 13)]))) := ⟨_, rfl⟩
      refine z_heap (h' := zh8) ze9.symm ?_
      have zK10 := up_at ze9
      have zK11 := up_off ze9 (show o + 1 ≠ o by omega) K1
      have zK12 := up_off ze9 (show o + 5 ≠ o by omega) K2
      refine z_aload_n X 1 dX12_unit_40 rfl ?_
      refine z_dup X dX12_unit_41 rfl ?_
      refine z_get X fl_X12_106_12 dX12_unit_42 zK10 rfl ?_
      refine z_iconst (v := 1) X dX12_unit_45 (by decide) ?_
      refine z_iadd X dX12_unit_46 ?_
      refine z_toe (y := nI (p + 1)) (nI_add (p) (1)) ?_
      refine z_put X fp_X12_106_12 dX12_unit_47 zK10 (by first | rfl | decide) (by first | rfl | decide) (Nat.le_of_ble_eq_true rfl) rfl ?_
      obtain ⟨zh13, ze14⟩ : ∃ z : Mm, z = va_up zh8 o (some (.inr (12, [.ref (o + 1), .ref (o + 2), .ref (o + 3), .int im, .ref (o + 4), .int (nI base), .int (nI (p + 1)), .int (nI sz), .int (faI f), .int (nI (k + 1)), .ref (o + 5), .ref (o + 6), .int rm, .ref (o + 7), .ref (o + 8), .int ti, .ref (o + 9), .int tm, .int wh, .ref (o + 10), .ref (o + 11), .ref (o + 12), .ref (o + 13)]))) := ⟨_, rfl⟩
      refine z_heap (h' := zh13) ze14.symm ?_
      have zK15 := up_at ze14
      have zK16 := up_off ze14 (show o + 1 ≠ o by omega) zK11
      have zK17 := up_off ze14 (show o + 5 ≠ o by omega) zK12
      refine z_iload_n X 0 dX12_unit_50 rfl ?_
      refine z_bipush (v := 40) X dX12_unit_51 (by decide) ?_
      refine z_icmp_ne X 63 dX12_unit_53 (by decide) (fun zc18 => ?_) (fun zc18 => ?_)
      · refine z_aload_n X 1 dX12_unit_63 rfl ?_
        refine z_callV X (EvC.use hU (κ := κ) (n := n) (o := (o)) (base := (base)) (sz := (sz)) (p := (p + 1)) (k := (k + 1)) (f := (f)) (im := (im)) (rm := (rm)) (ti := (ti)) (tm := (tm)) (wh := (wh)) (d := (d)) (nm := (nm)) zK15 zK16 zK17 (by first | assumption | omega) (by first | assumption | omega) (by omega) (e4) (fun q => (by have := e6 q; omega))) mk_X12_unit dX12_unit_64 wd_1112 wd_1114 wd_34 rfl zK15 rfl rfl rfl (Nat.le_of_ble_eq_true rfl) (by omega) (Nat.le_of_ble_eq_true rfl) (by omega) (by omega) (fun q zh23 zm25 zp26 => ?_)
        obtain ⟨v'19, p'20, f'21, k'22, rfl, ze24, zn29, zf27, zf28⟩ := zp26
        subst zm25
        refine z_st (st' := [.int v'19]) rfl ?_
        have zK30 : zh23 o = some (.inr (12, [.ref (o + 1), .ref (o + 2), .ref (o + 3), .int im, .ref (o + 4), .int (nI base), .int (nI p'20), .int (nI sz), .int (faI f'21), .int (nI k'22), .ref (o + 5), .ref (o + 6), .int rm, .ref (o + 7), .ref (o + 8), .int ti, .ref (o + 9), .int tm, .int wh, .ref (o + 10), .ref (o + 11), .ref (o + 12), .ref (o + 13)])) := by rw [ze24]; exact va_up_self _ _ _
        have zK31 : zh23 (o + 1) = arI κ 340 d := by rw [ze24]; rw [va_up_ne _ _ (show o + 1 ≠ o by omega)]; exact zK16
        have zK32 : zh23 (o + 5) = arI κ 3 nm := by rw [ze24]; rw [va_up_ne _ _ (show o + 5 ≠ o by omega)]; exact zK17
        obtain ⟨ga, gb, gc, gd, ge⟩ := id zf28
        refine z_istore_n (ls' := [(2, .int v'19), (1, .int (tk (sh d base) sz p f)), (0, .ref o)]) X dX12_unit_67 (by decide) rfl ?_
        refine z_iload_n X 1 dX12_unit_68 rfl ?_
        refine z_bipush (v := 40) X dX12_unit_69 (by decide) ?_
        refine z_icmp_ne X 88 dX12_unit_71 (by decide) (fun zc33 => ?_) (fun zc33 => ?_)
        · refine z_aload_n X 2 dX12_unit_88 rfl ?_
          refine z_dup X dX12_unit_89 rfl ?_
          refine z_get X fl_X12_141_12 dX12_unit_90 zK30 rfl ?_
          refine z_iconst (v := 1) X dX12_unit_93 (by decide) ?_
          refine z_isub X dX12_unit_94 ?_
          refine z_toe (y := nI (k'22 - 1)) (pk_sub (a := k'22) (b := 1) (by omega)) ?_
          refine z_put X fp_X12_141_12 dX12_unit_95 zK30 (by first | rfl | decide) (by first | rfl | decide) (Nat.le_of_ble_eq_true rfl) rfl ?_
          obtain ⟨zh34, ze35⟩ : ∃ z : Mm, z = va_up zh23 o (some (.inr (12, [.ref (o + 1), .ref (o + 2), .ref (o + 3), .int im, .ref (o + 4), .int (nI base), .int (nI p'20), .int (nI sz), .int (faI f'21), .int (nI (k'22 - 1)), .ref (o + 5), .ref (o + 6), .int rm, .ref (o + 7), .ref (o + 8), .int ti, .ref (o + 9), .int tm, .int wh, .ref (o + 10), .ref (o + 11), .ref (o + 12), .ref (o + 13)]))) := ⟨_, rfl⟩
          refine z_heap (h' := zh34) ze35.symm ?_
          have zK36 := up_at ze35
          have zK37 := up_off ze35 (show o + 1 ≠ o by omega) zK31
          have zK38 := up_off ze35 (show o + 5 ≠ o by omega) zK32
          refine z_iload_n X 1 dX12_unit_98 rfl ?_
          refine z_bipush (v := 40) X dX12_unit_99 (by decide) ?_
          refine z_icmp_ne X 108 dX12_unit_101 (by decide) (fun zc39 => ?_) (fun zc39 => ?_)
          · refine z_iload_n X 0 dX12_unit_108 rfl ?_
            refine z_if_ne X 116 dX12_unit_109 (by decide) (fun zc40 => ?_) (fun zc40 => ?_)
            · refine z_iconst (v := 0) X dX12_unit_116 (by decide) ?_
              refine z_iret X E dX12_unit_117 (by omega) (by omega) ⟨0, p'20, f'21, k'22 - 1, ?_, ?_, ?_, ?_, ?_⟩
              · rfl
              · first | (rw [ze35, ze24, ze14, ze9]; done) | (rw [ze35, ze24, ze14, ze9]; simp only [up_up]; done) | (rw [ze35, ze24, ze14, ze9]; funext zz; simp only [va_up]; (repeat' split) <;> first | rfl | (exfalso; omega) | simp_all)
              · rfl
              · exact (unitS_b (by assumption) zf27).trans (congrArg (fun z => (z, _)) (b2i_0 (by assumption)))
              · exact ⟨by omega, gb, gc, fun q => ⟨(gd q).1, by have := (gd q).2; omega⟩, by omega⟩
            · refine z_iconst (v := 1) X dX12_unit_112 (by decide) ?_
              refine z_goto X 117 dX12_unit_113 (by decide) ?_
              refine z_iret X E dX12_unit_117 (by omega) (by omega) ⟨1, p'20, f'21, k'22 - 1, ?_, ?_, ?_, ?_, ?_⟩
              · rfl
              · first | (rw [ze35, ze24, ze14, ze9]; done) | (rw [ze35, ze24, ze14, ze9]; simp only [up_up]; done) | (rw [ze35, ze24, ze14, ze9]; funext zz; simp only [va_up]; (repeat' split) <;> first | rfl | (exfalso; omega) | simp_all)
              · rfl
              · exact (unitS_b (by assumption) zf27).trans (congrArg (fun z => (z, _)) (b2i_1 (by assumption)))
              · exact ⟨by omega, gb, gc, fun q => ⟨(gd q).1, by have := (gd q).2; omega⟩, by omega⟩
          · first | exact absurd zc39 zc33 | exact absurd zc33 zc39 | (exfalso; omega) | (exfalso; simp only [i_eq, i_lt, i_le] at *; omega)
        · first | exact absurd zc33 zc18 | exact absurd zc18 zc33 | (exfalso; omega) | (exfalso; simp only [i_eq, i_lt, i_le] at *; omega)
      · exact absurd (zc18.symm.trans zc6) (by decide)
    · try replace zc7 := (nI_eq (a := k) (b := 5) (by omega) (by omega)).mp zc7
      omega
  · refine z_iload_n X 0 dX12_unit_11 rfl ?_
    refine z_bipush (v := 40) X dX12_unit_12 (by decide) ?_
    refine z_icmp_ne X 118 dX12_unit_14 (by decide) (fun zc41 => ?_) (fun zc41 => ?_)
    · refine z_aload_n X 1 dX12_unit_118 rfl ?_
      refine z_iload_n X 0 dX12_unit_119 rfl ?_
      refine z_callV X (r_nameOf (κ := κ) (n := n) (o := (o)) (c := (tk (sh d base) sz p f))  ) mk_X12_nameOf dX12_unit_120 wd_1128 wd_1130 wd_38 rfl K0 rfl rfl rfl (Nat.le_of_ble_eq_true rfl) (by omega) (Nat.le_of_ble_eq_true rfl) (by omega) (by omega) (fun q zh42 zm44 zp45 => ?_)
      obtain ⟨rfl, ze43, zn46⟩ := zp45
      subst zm44
      subst zh42
      refine z_st (st' := [.int (nmI (tk (sh d base) sz p f))]) rfl ?_
      refine z_istore_n (ls' := [(2, .int (nmI (tk (sh d base) sz p f))), (1, .int (tk (sh d base) sz p f)), (0, .ref o)]) X dX12_unit_123 (by decide) rfl ?_
      refine z_iload_n X 0 dX12_unit_124 rfl ?_
      refine z_if_lt X 145 dX12_unit_125 (by decide) (fun zc47 => ?_) (fun zc47 => ?_)
      · refine z_iconst (v := 0) X dX12_unit_145 (by decide) ?_
        refine z_istore_n (ls' := [(3, .int 0), (2, .int (nmI (tk (sh d base) sz p f))), (1, .int (tk (sh d base) sz p f)), (0, .ref o)]) X dX12_unit_146 (by decide) rfl ?_
        refine z_iconst (v := 0) X dX12_unit_147 (by decide) ?_
        refine z_istore (ls' := [(4, .int 0), (3, .int 0), (2, .int (nmI (tk (sh d base) sz p f))), (1, .int (tk (sh d base) sz p f)), (0, .ref o)]) X dX12_unit_148 (by decide) rfl ?_
        have L150 : ∀ (jj : Nat) (hh150 : Mm)  (g : Nat) (v : Int32) (p2 : Nat), (4 - g < jj) → (hh150 = va_up h o (some (.inr (12, [.ref (o + 1), .ref (o + 2), .ref (o + 3), .int im, .ref (o + 4), .int (nI base), .int (nI p2), .int (nI sz), .int (faI f), .int (nI k), .ref (o + 5), .ref (o + 6), .int rm, .ref (o + 7), .ref (o + 8), .int ti, .ref (o + 9), .int tm, .int wh, .ref (o + 10), .ref (o + 11), .ref (o + 12), .ref (o + 13)])))) → (hg : g ≤ 4) → (hp : p2 = p + g) → (hp2 : p2 ≤ sz) → (hR : digF (sh d base) sz f 4 0 p = digF (sh d base) sz f (4 - g) v p2) → Z κ G 5 150 [(0, .ref o), (1, .int (tk (sh d base) sz p f)), (2, .int (nmI (tk (sh d base) sz p f))), (3, .int v), (4, .int (nI g))] [] hh150 n 0 (0) := by
          intro jj
          induction jj with
          | zero => intro hh150 g v p2 hmu; exact absurd hmu (Nat.not_lt_zero _)
          | succ jj ih150 =>
            intro hh150 g v p2 hmu he150 hg hp hp2 hR
            have zK48 : hh150 o = some (.inr (12, [.ref (o + 1), .ref (o + 2), .ref (o + 3), .int im, .ref (o + 4), .int (nI base), .int (nI p2), .int (nI sz), .int (faI f), .int (nI k), .ref (o + 5), .ref (o + 6), .int rm, .ref (o + 7), .ref (o + 8), .int ti, .ref (o + 9), .int tm, .int wh, .ref (o + 10), .ref (o + 11), .ref (o + 12), .ref (o + 13)])) := by rw [he150]; exact va_up_self _ _ _
            have zK49 : hh150 (o + 1) = arI κ 340 d := by rw [he150]; rw [va_up_ne _ _ (show o + 1 ≠ o by omega)]; exact K1
            have zK50 : hh150 (o + 5) = arI κ 3 nm := by rw [he150]; rw [va_up_ne _ _ (show o + 5 ≠ o by omega)]; exact K2
            refine z_iload X 4 dX12_unit_150 rfl ?_
            refine z_iconst (v := 4) X dX12_unit_152 (by decide) ?_
            refine z_icmp_ge X 202 dX12_unit_153 (by decide) (fun zc51 => ?_) (fun zc51 => ?_)
            · try replace zc51 := (nI_leI (a := 4) (b := g) (by omega) (by omega)).mp zc51
              refine z_iload X 4 dX12_unit_202 rfl ?_
              refine z_if_ne X 214 dX12_unit_204 (by decide) (fun zc52 => ?_) (fun zc52 => ?_)
              · try replace zc52 := mt (nI_eq (a := g) (b := 0) (by omega) (by omega)).mpr zc52
                refine z_iload_n X 3 dX12_unit_214 rfl ?_
                refine z_iret X E dX12_unit_215 (by omega) (by omega) ⟨v, p2, f, k, ?_, ?_, ?_, ?_, ?_⟩
                · rfl
                · first | (rw [he150]; done) | (rw [he150]; simp only [up_up]; done) | (rw [he150]; funext zz; simp only [va_up]; (repeat' split) <;> first | rfl | (exfalso; omega) | simp_all)
                · rfl
                · (have hdg : digF (sh d base) sz f 4 0 p = (v, p2) := by (rw [hR]; first | exact digF_stop hrg | (rw [show 4 - g = 0 by omega]; rfl))); exact (unitS_l (by assumption) (by assumption)).trans (leafU_n (by assumption) hdg (by omega))
                · exact ⟨by omega, by omega, e4, fun q => ⟨q, rfl⟩, Nat.le_refl _⟩
              · try replace zc52 := (nI_eq (a := g) (b := 0) (by omega) (by omega)).mp zc52
                refine z_aload_n X 0 dX12_unit_207 rfl ?_
                refine z_callV X (r_wrong (κ := κ) (n := n) (o := (o)) (base := (base)) (sz := (sz)) (p := (p2)) (k := (k)) (f := (f)) (d := (d)) (im := (im)) (rm := (rm)) (ti := (ti)) (tm := (tm)) (wh := (wh)) zK48 (by assumption)) mk_X12_wrong dX12_unit_208 wd_1120 wd_1122 wd_36 rfl zK48 rfl rfl rfl (Nat.le_of_ble_eq_true rfl) (by omega) (Nat.le_of_ble_eq_true rfl) (by omega) (by omega) (fun q zh53 zm55 zp56 => ?_)
                obtain ⟨rfl, ze54, zn57⟩ := zp56
                subst zm55
                refine z_st (st' := [.int 0]) rfl ?_
                have zK58 : zh53 o = some (.inr (12, [.ref (o + 1), .ref (o + 2), .ref (o + 3), .int im, .ref (o + 4), .int (nI base), .int (nI p2), .int (nI sz), .int (faI (flW f p2)), .int (nI k), .ref (o + 5), .ref (o + 6), .int rm, .ref (o + 7), .ref (o + 8), .int ti, .ref (o + 9), .int tm, .int wh, .ref (o + 10), .ref (o + 11), .ref (o + 12), .ref (o + 13)])) := by rw [ze54]; exact va_up_self _ _ _
                have zK59 : zh53 (o + 1) = arI κ 340 d := by rw [ze54]; rw [va_up_ne _ _ (show o + 1 ≠ o by omega)]; exact zK49
                have zK60 : zh53 (o + 5) = arI κ 3 nm := by rw [ze54]; rw [va_up_ne _ _ (show o + 5 ≠ o by omega)]; exact zK50
                refine z_goto X 215 dX12_unit_211 (by decide) ?_
                have hg0 : g = 0 := by omega
                subst hg0
                have hpp : p2 = p := by omega
                subst p2
                refine z_iret X E dX12_unit_215 (by omega) (by omega) ⟨0, p, flW f p, k, ?_, ?_, ?_, ?_, ?_⟩
                · rfl
                · first | (rw [ze54, he150]; done) | (rw [ze54, he150]; simp only [up_up]; done) | (rw [ze54, he150]; funext zz; simp only [va_up]; (repeat' split) <;> first | rfl | (exfalso; omega) | simp_all)
                · rfl
                · (have hdg : digF (sh d base) sz f 4 0 p = (v, p) := by (rw [hR]; first | exact digF_stop hrg | (exfalso; omega))); exact (unitS_l (by assumption) (by assumption)).trans (leafU_w (by assumption) hdg)
                · exact ⟨Nat.le_refl _, e3, flW_ok e4 (by omega), fun q => absurd q (flW_ne f p), Nat.le_refl _⟩
            · try replace zc51 := mt (nI_leI (a := 4) (b := g) (by omega) (by omega)).mpr zc51
              refine z_aload_n X 0 dX12_unit_156 rfl ?_
              refine z_callV X (r_here (κ := κ) (n := n) (o := (o)) (base := (base)) (sz := (sz)) (p := (p2)) (k := (k)) (f := (f)) (d := (d)) (im := (im)) (rm := (rm)) (ti := (ti)) (tm := (tm)) (wh := (wh)) zK48 zK49 (by first | assumption | omega) (by first | assumption | omega) (by first | assumption | omega) (by first | assumption | omega)) mk_X12_here dX12_unit_157 wd_1116 wd_1118 wd_35 rfl zK48 rfl rfl rfl (Nat.le_of_ble_eq_true rfl) (by omega) (Nat.le_of_ble_eq_true rfl) (by omega) (by omega) (fun q zh61 zm63 zp64 => ?_)
              obtain ⟨rfl, ze62, zn65⟩ := zp64
              subst zm63
              subst zh61
              refine z_st (st' := [.int (tk (sh d base) sz p2 f)]) rfl ?_
              refine z_i2l X dX12_unit_160 rfl ?_
              refine z_ldc2 X dX12_unit_161 wd_1132 ?_
              refine z_ldc2 X dX12_unit_164 wd_1133 ?_
              refine z_callS X (r_in (κ := κ) (n := n) (v := ((tk (sh d base) sz p2 f).toInt64)) (lo := (48 : Int64)) (hi := (57 : Int64))  ) mk_X12_in dX12_unit_167 wd_1014 wd_1015 rfl rfl (Nat.le_of_ble_eq_true rfl) (by omega) (Nat.le_of_ble_eq_true rfl) (by omega) (by omega) (fun q zh66 zm68 zp69 => ?_)
              obtain ⟨rfl, ze67, zn70⟩ := zp69
              subst zm68
              subst zh66
              refine z_st (st' := [.int (b2i ((48 : Int64).toInt ≤ ((tk (sh d base) sz p2 f).toInt64 : Int64).toInt ∧ ((tk (sh d base) sz p2 f).toInt64 : Int64).toInt ≤ (57 : Int64).toInt))]) rfl ?_
              refine z_toe (y := b2i (48 ≤ (tk (sh d base) sz p2 f).toInt ∧ (tk (sh d base) sz p2 f).toInt ≤ 57)) (by simp only [Int32.toInt_toInt64, show (48 : Int64).toInt = 48 by decide, show (57 : Int64).toInt = 57 by decide]) ?_
              refine z_if_eq X 202 dX12_unit_170 (by decide) (fun zc71 => ?_) (fun zc71 => ?_)
              · replace zc71 := b2i_f zc71
                have hrg := zc71
                refine z_iload X 4 dX12_unit_202 rfl ?_
                refine z_if_ne X 214 dX12_unit_204 (by decide) (fun zc72 => ?_) (fun zc72 => ?_)
                · try replace zc72 := mt (nI_eq (a := g) (b := 0) (by omega) (by omega)).mpr zc72
                  refine z_iload_n X 3 dX12_unit_214 rfl ?_
                  refine z_iret X E dX12_unit_215 (by omega) (by omega) ⟨v, p2, f, k, ?_, ?_, ?_, ?_, ?_⟩
                  · rfl
                  · first | (rw [he150]; done) | (rw [he150]; simp only [up_up]; done) | (rw [he150]; funext zz; simp only [va_up]; (repeat' split) <;> first | rfl | (exfalso; omega) | simp_all)
                  · rfl
                  · (have hdg : digF (sh d base) sz f 4 0 p = (v, p2) := by (rw [hR]; first | exact digF_stop hrg | (rw [show 4 - g = 0 by omega]; rfl))); exact (unitS_l (by assumption) (by assumption)).trans (leafU_n (by assumption) hdg (by omega))
                  · exact ⟨by omega, by omega, e4, fun q => ⟨q, rfl⟩, Nat.le_refl _⟩
                · try replace zc72 := (nI_eq (a := g) (b := 0) (by omega) (by omega)).mp zc72
                  refine z_aload_n X 0 dX12_unit_207 rfl ?_
                  refine z_callV X (r_wrong (κ := κ) (n := n) (o := (o)) (base := (base)) (sz := (sz)) (p := (p2)) (k := (k)) (f := (f)) (d := (d)) (im := (im)) (rm := (rm)) (ti := (ti)) (tm := (tm)) (wh := (wh)) zK48 (by assumption)) mk_X12_wrong dX12_unit_208 wd_1120 wd_1122 wd_36 rfl zK48 rfl rfl rfl (Nat.le_of_ble_eq_true rfl) (by omega) (Nat.le_of_ble_eq_true rfl) (by omega) (by omega) (fun q zh73 zm75 zp76 => ?_)
                  obtain ⟨rfl, ze74, zn77⟩ := zp76
                  subst zm75
                  refine z_st (st' := [.int 0]) rfl ?_
                  have zK78 : zh73 o = some (.inr (12, [.ref (o + 1), .ref (o + 2), .ref (o + 3), .int im, .ref (o + 4), .int (nI base), .int (nI p2), .int (nI sz), .int (faI (flW f p2)), .int (nI k), .ref (o + 5), .ref (o + 6), .int rm, .ref (o + 7), .ref (o + 8), .int ti, .ref (o + 9), .int tm, .int wh, .ref (o + 10), .ref (o + 11), .ref (o + 12), .ref (o + 13)])) := by rw [ze74]; exact va_up_self _ _ _
                  have zK79 : zh73 (o + 1) = arI κ 340 d := by rw [ze74]; rw [va_up_ne _ _ (show o + 1 ≠ o by omega)]; exact zK49
                  have zK80 : zh73 (o + 5) = arI κ 3 nm := by rw [ze74]; rw [va_up_ne _ _ (show o + 5 ≠ o by omega)]; exact zK50
                  refine z_goto X 215 dX12_unit_211 (by decide) ?_
                  have hg0 : g = 0 := by omega
                  subst hg0
                  have hpp : p2 = p := by omega
                  subst p2
                  refine z_iret X E dX12_unit_215 (by omega) (by omega) ⟨0, p, flW f p, k, ?_, ?_, ?_, ?_, ?_⟩
                  · rfl
                  · first | (rw [ze74, he150]; done) | (rw [ze74, he150]; simp only [up_up]; done) | (rw [ze74, he150]; funext zz; simp only [va_up]; (repeat' split) <;> first | rfl | (exfalso; omega) | simp_all)
                  · rfl
                  · (have hdg : digF (sh d base) sz f 4 0 p = (v, p) := by (rw [hR]; first | exact digF_stop hrg | (exfalso; omega))); exact (unitS_l (by assumption) (by assumption)).trans (leafU_w (by assumption) hdg)
                  · exact ⟨Nat.le_refl _, e3, flW_ok e4 (by omega), fun q => absurd q (flW_ne f p), Nat.le_refl _⟩
              · replace zc71 := b2i_t zc71
                have hrg := zc71
                have hin := tk_in (b := sh d base) (n := sz) (p := p2) (f := f) (fun q => by rw [q] at hrg; exact absurd hrg.1 (by decide))
                refine z_bipush (v := 10) X dX12_unit_173 (by decide) ?_
                refine z_iload_n X 3 dX12_unit_175 rfl ?_
                refine z_imul X dX12_unit_176 ?_
                refine z_aload_n X 0 dX12_unit_177 rfl ?_
                refine z_callV X (r_here (κ := κ) (n := n) (o := (o)) (base := (base)) (sz := (sz)) (p := (p2)) (k := (k)) (f := (f)) (d := (d)) (im := (im)) (rm := (rm)) (ti := (ti)) (tm := (tm)) (wh := (wh)) zK48 zK49 (by first | assumption | omega) (by first | assumption | omega) (by first | assumption | omega) (by first | assumption | omega)) mk_X12_here dX12_unit_178 wd_1116 wd_1118 wd_35 rfl zK48 rfl rfl rfl (Nat.le_of_ble_eq_true rfl) (by omega) (Nat.le_of_ble_eq_true rfl) (by omega) (by omega) (fun q zh81 zm83 zp84 => ?_)
                obtain ⟨rfl, ze82, zn85⟩ := zp84
                subst zm83
                subst zh81
                refine z_st (st' := [.int (tk (sh d base) sz p2 f), .int (10 * v)]) rfl ?_
                refine z_iadd X dX12_unit_181 ?_
                refine z_bipush (v := 48) X dX12_unit_182 (by decide) ?_
                refine z_isub X dX12_unit_184 ?_
                refine z_istore_n (ls' := [(3, .int (((10 * v) + (tk (sh d base) sz p2 f)) - 48)), (0, .ref o), (1, .int (tk (sh d base) sz p f)), (2, .int (nmI (tk (sh d base) sz p f))), (4, .int (nI g))]) X dX12_unit_185 (by decide) rfl ?_
                refine z_aload_n X 1 dX12_unit_186 rfl ?_
                refine z_dup X dX12_unit_187 rfl ?_
                refine z_get X fl_X12_106_12 dX12_unit_188 zK48 rfl ?_
                refine z_iconst (v := 1) X dX12_unit_191 (by decide) ?_
                refine z_iadd X dX12_unit_192 ?_
                refine z_toe (y := nI (p2 + 1)) (nI_add (p2) (1)) ?_
                refine z_put X fp_X12_106_12 dX12_unit_193 zK48 (by first | rfl | decide) (by first | rfl | decide) (Nat.le_of_ble_eq_true rfl) rfl ?_
                obtain ⟨zh86, ze87⟩ : ∃ z : Mm, z = va_up hh150 o (some (.inr (12, [.ref (o + 1), .ref (o + 2), .ref (o + 3), .int im, .ref (o + 4), .int (nI base), .int (nI (p2 + 1)), .int (nI sz), .int (faI f), .int (nI k), .ref (o + 5), .ref (o + 6), .int rm, .ref (o + 7), .ref (o + 8), .int ti, .ref (o + 9), .int tm, .int wh, .ref (o + 10), .ref (o + 11), .ref (o + 12), .ref (o + 13)]))) := ⟨_, rfl⟩
                refine z_heap (h' := zh86) ze87.symm ?_
                have zK88 := up_at ze87
                have zK89 := up_off ze87 (show o + 1 ≠ o by omega) zK49
                have zK90 := up_off ze87 (show o + 5 ≠ o by omega) zK50
                refine z_iinc (v := nI (g + 1)) (ls' := [(4, .int (nI (g + 1))), (3, .int (((10 * v) + (tk (sh d base) sz p2 f)) - 48)), (0, .ref o), (1, .int (tk (sh d base) sz p f)), (2, .int (nmI (tk (sh d base) sz p f)))]) X 4 dX12_unit_196 rfl (nI_1 (g)) (by decide) rfl ?_
                refine z_goto X 150 dX12_unit_199 (by decide) ?_
                refine z_sub (ls' := [(0, .ref o), (1, .int (tk (sh d base) sz p f)), (2, .int (nmI (tk (sh d base) sz p f))), (3, .int (((10 * v) + (tk (sh d base) sz p2 f)) - 48)), (4, .int (nI (g + 1)))]) [2, 3, 4, 1, 0] rfl ?_
                exact ih150 _ (g + 1) (((10 * v) + (tk (sh d base) sz p2 f)) - 48) (p2 + 1) (by omega) (by first | (rw [ze87, he150]; done) | (rw [ze87, he150]; simp only [up_up]; done) | (rw [ze87, he150]; funext zz; simp only [va_up]; (repeat' split) <;> first | rfl | (exfalso; omega) | simp_all)) (by first | assumption | rfl | omega) (by first | assumption | rfl | omega) (by first | assumption | rfl | omega) (by rw [hR]; exact digF_go (by omega) hrg)
        refine z_sub (ls' := [(0, .ref o), (1, .int (tk (sh d base) sz p f)), (2, .int (nmI (tk (sh d base) sz p f))), (3, .int 0), (4, .int 0)]) [4, 3, 2, 1, 0] rfl ?_
        exact L150 _ _ 0 0 p (Nat.lt_succ_self _) (by first | rfl | (rw [up_same _ _ K0]) | (funext zz; simp only [va_up]; (repeat' split) <;> first | rfl | (exfalso; omega) | simp_all)) (by first | assumption | rfl | omega) (by first | assumption | rfl | omega) (by first | assumption | rfl | omega) (by first | assumption | rfl | omega)
      · have hin := tk_in (nm_ne zc47)
        refine z_aload_n X 2 dX12_unit_128 rfl ?_
        refine z_dup X dX12_unit_129 rfl ?_
        refine z_get X fl_X12_106_12 dX12_unit_130 K0 rfl ?_
        refine z_iconst (v := 1) X dX12_unit_133 (by decide) ?_
        refine z_iadd X dX12_unit_134 ?_
        refine z_toe (y := nI (p + 1)) (nI_add (p) (1)) ?_
        refine z_put X fp_X12_106_12 dX12_unit_135 K0 (by first | rfl | decide) (by first | rfl | decide) (Nat.le_of_ble_eq_true rfl) rfl ?_
        obtain ⟨zh91, ze92⟩ : ∃ z : Mm, z = va_up h o (some (.inr (12, [.ref (o + 1), .ref (o + 2), .ref (o + 3), .int im, .ref (o + 4), .int (nI base), .int (nI (p + 1)), .int (nI sz), .int (faI f), .int (nI k), .ref (o + 5), .ref (o + 6), .int rm, .ref (o + 7), .ref (o + 8), .int ti, .ref (o + 9), .int tm, .int wh, .ref (o + 10), .ref (o + 11), .ref (o + 12), .ref (o + 13)]))) := ⟨_, rfl⟩
        refine z_heap (h' := zh91) ze92.symm ?_
        have zK93 := up_at ze92
        have zK94 := up_off ze92 (show o + 1 ≠ o by omega) K1
        have zK95 := up_off ze92 (show o + 5 ≠ o by omega) K2
        refine z_aload_n X 2 dX12_unit_138 rfl ?_
        refine z_get X fl_X12_22_12 dX12_unit_139 zK93 rfl ?_
        refine z_iload_n X 0 dX12_unit_142 rfl ?_
        refine z_iald2 (v := nm (nmI (tk (sh d base) sz p f)).toNatClampNeg) X dX12_unit_143 zK95 (nm_in (by assumption)) (rfl) ?_
        refine z_iret X E dX12_unit_144 (by omega) (by omega) ⟨nm (nmI (tk (sh d base) sz p f)).toNatClampNeg, p + 1, f, k, ?_, ?_, ?_, ?_, ?_⟩
        · rfl
        · first | (rw [ze92]; done) | (rw [ze92]; simp only [up_up]; done) | (rw [ze92]; funext zz; simp only [va_up]; (repeat' split) <;> first | rfl | (exfalso; omega) | simp_all)
        · rfl
        · exact (unitS_l (by assumption) (by assumption)).trans (leafU_nm (by assumption))
        · exact ⟨by omega, by omega, e4, fun q => ⟨q, rfl⟩, Nat.le_refl _⟩
    · have hin := tk_in (show ¬ tk (sh d base) sz p f = -1 by rw [zc41]; decide)
      have hkj := e6 hin.2
      refine z_aload_n X 1 dX12_unit_17 rfl ?_
      refine z_get X fl_X12_141_12 dX12_unit_18 K0 rfl ?_
      refine z_iconst (v := 5) X dX12_unit_21 (by decide) ?_
      refine z_icmp_ne X 30 dX12_unit_22 (by decide) (fun zc96 => ?_) (fun zc96 => ?_)
      · try replace zc96 := mt (nI_eq (a := k) (b := 5) (by omega) (by omega)).mpr zc96
        refine z_aload_n X 1 dX12_unit_30 rfl ?_
        refine z_dup X dX12_unit_31 rfl ?_
        refine z_get X fl_X12_141_12 dX12_unit_32 K0 rfl ?_
        refine z_iconst (v := 1) X dX12_unit_35 (by decide) ?_
        refine z_iadd X dX12_unit_36 ?_
        refine z_toe (y := nI (k + 1)) (nI_add (k) (1)) ?_
        refine z_put X fp_X12_141_12 dX12_unit_37 K0 (by first | rfl | decide) (by first | rfl | decide) (Nat.le_of_ble_eq_true rfl) rfl ?_
        obtain ⟨zh97, ze98⟩ : ∃ z : Mm, z = va_up h o (some (.inr (12, [.ref (o + 1), .ref (o + 2), .ref (o + 3), .int im, .ref (o + 4), .int (nI base), .int (nI p), .int (nI sz), .int (faI f), .int (nI (k + 1)), .ref (o + 5), .ref (o + 6), .int rm, .ref (o + 7), .ref (o + 8), .int ti, .ref (o + 9), .int tm, .int wh, .ref (o + 10), .ref (o + 11), .ref (o + 12), .ref (o + 13)]))) := ⟨_, rfl⟩
        refine z_heap (h' := zh97) ze98.symm ?_
        have zK99 := up_at ze98
        have zK100 := up_off ze98 (show o + 1 ≠ o by omega) K1
        have zK101 := up_off ze98 (show o + 5 ≠ o by omega) K2
        refine z_aload_n X 1 dX12_unit_40 rfl ?_
        refine z_dup X dX12_unit_41 rfl ?_
        refine z_get X fl_X12_106_12 dX12_unit_42 zK99 rfl ?_
        refine z_iconst (v := 1) X dX12_unit_45 (by decide) ?_
        refine z_iadd X dX12_unit_46 ?_
        refine z_toe (y := nI (p + 1)) (nI_add (p) (1)) ?_
        refine z_put X fp_X12_106_12 dX12_unit_47 zK99 (by first | rfl | decide) (by first | rfl | decide) (Nat.le_of_ble_eq_true rfl) rfl ?_
        obtain ⟨zh102, ze103⟩ : ∃ z : Mm, z = va_up zh97 o (some (.inr (12, [.ref (o + 1), .ref (o + 2), .ref (o + 3), .int im, .ref (o + 4), .int (nI base), .int (nI (p + 1)), .int (nI sz), .int (faI f), .int (nI (k + 1)), .ref (o + 5), .ref (o + 6), .int rm, .ref (o + 7), .ref (o + 8), .int ti, .ref (o + 9), .int tm, .int wh, .ref (o + 10), .ref (o + 11), .ref (o + 12), .ref (o + 13)]))) := ⟨_, rfl⟩
        refine z_heap (h' := zh102) ze103.symm ?_
        have zK104 := up_at ze103
        have zK105 := up_off ze103 (show o + 1 ≠ o by omega) zK100
        have zK106 := up_off ze103 (show o + 5 ≠ o by omega) zK101
        refine z_iload_n X 0 dX12_unit_50 rfl ?_
        refine z_bipush (v := 40) X dX12_unit_51 (by decide) ?_
        refine z_icmp_ne X 63 dX12_unit_53 (by decide) (fun zc107 => ?_) (fun zc107 => ?_)
        · first | exact absurd zc107 zc41 | exact absurd zc41 zc107 | (exfalso; omega) | (exfalso; simp only [i_eq, i_lt, i_le] at *; omega)
        · refine z_aload_n X 1 dX12_unit_56 rfl ?_
          refine z_callV X (EvC.use hE (κ := κ) (n := n) (o := (o)) (base := (base)) (sz := (sz)) (p := (p + 1)) (k := (k + 1)) (f := (f)) (im := (im)) (rm := (rm)) (ti := (ti)) (tm := (tm)) (wh := (wh)) (d := (d)) (nm := (nm)) zK104 zK105 zK106 (by first | assumption | omega) (by first | assumption | omega) (by omega) (e4) (fun q => (by have := e6 q; omega))) mk_X12_either dX12_unit_57 wd_1092 wd_1094 wd_29 rfl zK104 rfl rfl rfl (Nat.le_of_ble_eq_true rfl) (by omega) (Nat.le_of_ble_eq_true rfl) (by omega) (by omega) (fun q zh112 zm114 zp115 => ?_)
          obtain ⟨v'108, p'109, f'110, k'111, rfl, ze113, zn118, zf116, zf117⟩ := zp115
          subst zm114
          refine z_st (st' := [.int v'108]) rfl ?_
          have zK119 : zh112 o = some (.inr (12, [.ref (o + 1), .ref (o + 2), .ref (o + 3), .int im, .ref (o + 4), .int (nI base), .int (nI p'109), .int (nI sz), .int (faI f'110), .int (nI k'111), .ref (o + 5), .ref (o + 6), .int rm, .ref (o + 7), .ref (o + 8), .int ti, .ref (o + 9), .int tm, .int wh, .ref (o + 10), .ref (o + 11), .ref (o + 12), .ref (o + 13)])) := by rw [ze113]; exact va_up_self _ _ _
          have zK120 : zh112 (o + 1) = arI κ 340 d := by rw [ze113]; rw [va_up_ne _ _ (show o + 1 ≠ o by omega)]; exact zK105
          have zK121 : zh112 (o + 5) = arI κ 3 nm := by rw [ze113]; rw [va_up_ne _ _ (show o + 5 ≠ o by omega)]; exact zK106
          obtain ⟨ga, gb, gc, gd, ge⟩ := id zf117
          refine z_goto X 67 dX12_unit_60 (by decide) ?_
          refine z_istore_n (ls' := [(2, .int v'108), (1, .int (tk (sh d base) sz p f)), (0, .ref o)]) X dX12_unit_67 (by decide) rfl ?_
          refine z_iload_n X 1 dX12_unit_68 rfl ?_
          refine z_bipush (v := 40) X dX12_unit_69 (by decide) ?_
          refine z_icmp_ne X 88 dX12_unit_71 (by decide) (fun zc122 => ?_) (fun zc122 => ?_)
          · first | exact absurd zc122 zc107 | exact absurd zc107 zc122 | (exfalso; omega) | (exfalso; simp only [i_eq, i_lt, i_le] at *; omega)
          · refine z_aload_n X 2 dX12_unit_74 rfl ?_
            refine z_bipush (v := 41) X dX12_unit_75 (by decide) ?_
            refine z_callV X (r_takes (κ := κ) (n := n) (o := (o)) (base := (base)) (sz := (sz)) (p := (p'109)) (k := (k'111)) (f := (f'110)) (d := (d)) (im := (im)) (rm := (rm)) (ti := (ti)) (tm := (tm)) (wh := (wh)) (c := (41)) zK119 zK120 (by first | assumption | omega) (by first | assumption | omega) (by omega) (gc) (by decide)) mk_X12_takes dX12_unit_77 wd_1124 wd_1126 wd_37 rfl zK119 rfl rfl rfl (Nat.le_of_ble_eq_true rfl) (by omega) (Nat.le_of_ble_eq_true rfl) (by omega) (by omega) (fun q zh124 zm126 zp127 => ?_)
            obtain ⟨p'123, rfl, ze125, zn129, zf128⟩ := zp127
            subst zm126
            refine z_st (st' := [.int (b2i (tk (sh d base) sz p'109 f'110 = 41))]) rfl ?_
            have zK130 : zh124 o = some (.inr (12, [.ref (o + 1), .ref (o + 2), .ref (o + 3), .int im, .ref (o + 4), .int (nI base), .int (nI p'123), .int (nI sz), .int (faI f'110), .int (nI k'111), .ref (o + 5), .ref (o + 6), .int rm, .ref (o + 7), .ref (o + 8), .int ti, .ref (o + 9), .int tm, .int wh, .ref (o + 10), .ref (o + 11), .ref (o + 12), .ref (o + 13)])) := by rw [ze125]; exact va_up_self _ _ _
            have zK131 : zh124 (o + 1) = arI κ 340 d := by rw [ze125]; rw [va_up_ne _ _ (show o + 1 ≠ o by omega)]; exact zK120
            have zK132 : zh124 (o + 5) = arI κ 3 nm := by rw [ze125]; rw [va_up_ne _ _ (show o + 5 ≠ o by omega)]; exact zK121
            skip
            refine z_if_ne X 88 dX12_unit_80 (by decide) (fun zc133 => ?_) (fun zc133 => ?_)
            · replace zc133 := b2i_t zc133
              have hch := zc133
              have hin2 := tk_in (show ¬ tk (sh d base) sz p'109 f'110 = -1 by rw [hch]; decide)
              replace zf128 := zf128.trans (if_pos hch)
              subst p'123
              refine z_aload_n X 2 dX12_unit_88 rfl ?_
              refine z_dup X dX12_unit_89 rfl ?_
              refine z_get X fl_X12_141_12 dX12_unit_90 zK130 rfl ?_
              refine z_iconst (v := 1) X dX12_unit_93 (by decide) ?_
              refine z_isub X dX12_unit_94 ?_
              refine z_toe (y := nI (k'111 - 1)) (pk_sub (a := k'111) (b := 1) (by omega)) ?_
              refine z_put X fp_X12_141_12 dX12_unit_95 zK130 (by first | rfl | decide) (by first | rfl | decide) (Nat.le_of_ble_eq_true rfl) rfl ?_
              obtain ⟨zh134, ze135⟩ : ∃ z : Mm, z = va_up zh124 o (some (.inr (12, [.ref (o + 1), .ref (o + 2), .ref (o + 3), .int im, .ref (o + 4), .int (nI base), .int (nI (p'109 + 1)), .int (nI sz), .int (faI f'110), .int (nI (k'111 - 1)), .ref (o + 5), .ref (o + 6), .int rm, .ref (o + 7), .ref (o + 8), .int ti, .ref (o + 9), .int tm, .int wh, .ref (o + 10), .ref (o + 11), .ref (o + 12), .ref (o + 13)]))) := ⟨_, rfl⟩
              refine z_heap (h' := zh134) ze135.symm ?_
              have zK136 := up_at ze135
              have zK137 := up_off ze135 (show o + 1 ≠ o by omega) zK131
              have zK138 := up_off ze135 (show o + 5 ≠ o by omega) zK132
              refine z_iload_n X 1 dX12_unit_98 rfl ?_
              refine z_bipush (v := 40) X dX12_unit_99 (by decide) ?_
              refine z_icmp_ne X 108 dX12_unit_101 (by decide) (fun zc139 => ?_) (fun zc139 => ?_)
              · first | exact absurd zc139 zc122 | exact absurd zc122 zc139 | (exfalso; omega) | (exfalso; simp only [i_eq, i_lt, i_le] at *; omega)
              · refine z_iload_n X 0 dX12_unit_104 rfl ?_
                refine z_goto X 117 dX12_unit_105 (by decide) ?_
                refine z_iret X E dX12_unit_117 (by omega) (by omega) ⟨v'108, p'109 + 1, f'110, k'111 - 1, ?_, ?_, ?_, ?_, ?_⟩
                · rfl
                · first | (rw [ze135, ze125, ze113, ze103, ze98]; done) | (rw [ze135, ze125, ze113, ze103, ze98]; simp only [up_up]; done) | (rw [ze135, ze125, ze113, ze103, ze98]; funext zz; simp only [va_up]; (repeat' split) <;> first | rfl | (exfalso; omega) | simp_all)
                · rfl
                · exact unitS_p (by assumption) zf116 hch
                · exact ⟨by omega, by omega, gc, fun q => ⟨(gd q).1, by have := (gd q).2; omega⟩, by omega⟩
            · replace zc133 := b2i_f zc133
              have hch := zc133
              replace zf128 := zf128.trans (if_neg hch)
              subst p'123
              refine z_aload_n X 2 dX12_unit_83 rfl ?_
              refine z_callV X (r_wrong (κ := κ) (n := n) (o := (o)) (base := (base)) (sz := (sz)) (p := (p'109)) (k := (k'111)) (f := (f'110)) (d := (d)) (im := (im)) (rm := (rm)) (ti := (ti)) (tm := (tm)) (wh := (wh)) zK130 (by assumption)) mk_X12_wrong dX12_unit_84 wd_1120 wd_1122 wd_36 rfl zK130 rfl rfl rfl (Nat.le_of_ble_eq_true rfl) (by omega) (Nat.le_of_ble_eq_true rfl) (by omega) (by omega) (fun q zh140 zm142 zp143 => ?_)
              obtain ⟨rfl, ze141, zn144⟩ := zp143
              subst zm142
              refine z_st (st' := [.int 0]) rfl ?_
              have zK145 : zh140 o = some (.inr (12, [.ref (o + 1), .ref (o + 2), .ref (o + 3), .int im, .ref (o + 4), .int (nI base), .int (nI p'109), .int (nI sz), .int (faI (flW f'110 p'109)), .int (nI k'111), .ref (o + 5), .ref (o + 6), .int rm, .ref (o + 7), .ref (o + 8), .int ti, .ref (o + 9), .int tm, .int wh, .ref (o + 10), .ref (o + 11), .ref (o + 12), .ref (o + 13)])) := by rw [ze141]; exact va_up_self _ _ _
              have zK146 : zh140 (o + 1) = arI κ 340 d := by rw [ze141]; rw [va_up_ne _ _ (show o + 1 ≠ o by omega)]; exact zK131
              have zK147 : zh140 (o + 5) = arI κ 3 nm := by rw [ze141]; rw [va_up_ne _ _ (show o + 5 ≠ o by omega)]; exact zK132
              refine z_iret X E dX12_unit_87 (by omega) (by omega) ⟨0, p'109, flW f'110 p'109, k'111, ?_, ?_, ?_, ?_, ?_⟩
              · rfl
              · first | (rw [ze141, ze125, ze113, ze103, ze98]; done) | (rw [ze141, ze125, ze113, ze103, ze98]; simp only [up_up]; done) | (rw [ze141, ze125, ze113, ze103, ze98]; funext zz; simp only [va_up]; (repeat' split) <;> first | rfl | (exfalso; omega) | simp_all)
              · rfl
              · exact unitS_w (by assumption) zf116 hch
              · exact ⟨by omega, gb, flW_ok gc (by omega), fun q => absurd q (flW_ne _ _), by omega⟩
      · try replace zc96 := (nI_eq (a := k) (b := 5) (by omega) (by omega)).mp zc96
        omega
theorem ev_chain {κ : Wc} {l : Launch} {j dd : Nat} (hdd : 3 ≤ dd) (hU : EvC κ l yX12_unit cX12_unit 5 dd j (unitF j)) : EvC κ l yX12_either cX12_either 3 (dd + 5) j (evE j) := ev_either (by omega) (ev_both (by omega) (ev_compared (by omega) (ev_sum (by omega) (ev_product (by omega) hU))))
theorem ev_unit {κ : Wc} {l : Launch} : ∀ j, EvC κ l yX12_unit cX12_unit 5 (6 * j + 3) j (unitF j) := by
  intro j
  induction j with
  | zero => exact ev_unit0
  | succ j ih => exact ev_unitS (by omega) ih (ev_chain (by omega) ih)
