def opB (v w : Int32) : Int32 := b2i (¬ v = 0 ∧ ¬ w = 0)
def opE (v w : Int32) : Int32 := b2i (¬ v = 0 ∨ ¬ w = 0)
def bothF (b : Nat → Int32) (n : Nat) (u : Ev → Int32 × Ev) : Nat → Int32 → Ev → Int32 × Ev
  | 0, v, s => (v, s)
  | i + 1, v, s => if tk b n s.1 s.2.1 = 38 then bothF b n u i (opB v (u (s.1 + 1, s.2)).1) (u (s.1 + 1, s.2)).2 else (v, s)
def bothE (U : EvF) : EvF := fun b n nm s => bothF b n (U b n nm) 51 (U b n nm s).1 (U b n nm s).2
theorem bothF_stop {b : Nat → Int32} {n : Nat} {u : Ev → Int32 × Ev} {i : Nat} {v : Int32} {s : Ev} (h : ¬ tk b n s.1 s.2.1 = 38) : bothF b n u (i + 1) v s = (v, s) := if_neg h
theorem bothF_go {b : Nat → Int32} {n : Nat} {u : Ev → Int32 × Ev} {i : Nat} {v w : Int32} {s s' : Ev} (h : tk b n s.1 s.2.1 = 38) (hu : u (s.1 + 1, s.2) = (w, s')) : bothF b n u (i + 1) v s = bothF b n u i (opB v w) s' := by
  rw [bothF, if_pos h, hu]
def eithF (b : Nat → Int32) (n : Nat) (u : Ev → Int32 × Ev) : Nat → Int32 → Ev → Int32 × Ev
  | 0, v, s => (v, s)
  | i + 1, v, s => if tk b n s.1 s.2.1 = 124 then eithF b n u i (opE v (u (s.1 + 1, s.2)).1) (u (s.1 + 1, s.2)).2 else (v, s)
def eithE (U : EvF) : EvF := fun b n nm s => eithF b n (U b n nm) 51 (U b n nm s).1 (U b n nm s).2
theorem eithF_stop {b : Nat → Int32} {n : Nat} {u : Ev → Int32 × Ev} {i : Nat} {v : Int32} {s : Ev} (h : ¬ tk b n s.1 s.2.1 = 124) : eithF b n u (i + 1) v s = (v, s) := if_neg h
theorem eithF_go {b : Nat → Int32} {n : Nat} {u : Ev → Int32 × Ev} {i : Nat} {v w : Int32} {s s' : Ev} (h : tk b n s.1 s.2.1 = 124) (hu : u (s.1 + 1, s.2) = (w, s')) : eithF b n u (i + 1) v s = eithF b n u i (opE v w) s' := by
  rw [eithF, if_pos h, hu]
def opC (c v w : Int32) : Int32 := b2i ((c = 60 ∧ v < w) ∨ (c = 61 ∧ v = w) ∨ (c = 62 ∧ w < v))
def cmpE (U : EvF) : EvF := fun b n nm s => if tk b n (U b n nm s).2.1 (U b n nm s).2.2.1 = 60 ∨ tk b n (U b n nm s).2.1 (U b n nm s).2.2.1 = 61 ∨ tk b n (U b n nm s).2.1 (U b n nm s).2.2.1 = 62 then (opC (tk b n (U b n nm s).2.1 (U b n nm s).2.2.1) (U b n nm s).1 (U b n nm ((U b n nm s).2.1 + 1, (U b n nm s).2.2)).1, (U b n nm ((U b n nm s).2.1 + 1, (U b n nm s).2.2)).2) else U b n nm s
theorem cmpE_stop {U : EvF} {b : Nat → Int32} {n : Nat} {nm : Nat → Int32} {s s' : Ev} {v : Int32} (hu : U b n nm s = (v, s')) (h : ¬ (tk b n s'.1 s'.2.1 = 60 ∨ tk b n s'.1 s'.2.1 = 61 ∨ tk b n s'.1 s'.2.1 = 62)) : cmpE U b n nm s = (v, s') := by
  unfold cmpE
  rw [hu]
  exact if_neg h
theorem cmpE_go {U : EvF} {b : Nat → Int32} {n : Nat} {nm : Nat → Int32} {s s' s2 : Ev} {v w : Int32} (hu : U b n nm s = (v, s')) (h : tk b n s'.1 s'.2.1 = 60 ∨ tk b n s'.1 s'.2.1 = 61 ∨ tk b n s'.1 s'.2.1 = 62) (hu2 : U b n nm (s'.1 + 1, s'.2) = (w, s2)) : cmpE U b n nm s = (opC (tk b n s'.1 s'.2.1) v w, s2) := by
  unfold cmpE
  rw [hu]
  refine (if_pos h).trans ?_
  rw [hu2]
theorem b2i_10 (v : Int32) : True := trivial
set_option maxHeartbeats 4000000 in
set_option maxRecDepth 100000 in
theorem ev_both {κ : Wc} {l : Launch} {j dd : Nat} {U : EvF} (hdd : 2 ≤ dd) (hU : EvC κ l yX12_compared cX12_compared 4 dd j U) : EvC κ l yX12_both cX12_both 3 (dd + 1) j (bothE U) := by
  intro h n o base sz p k f d nm im rm ti tm wh K0 K1 K2 e1 e2 e3 e4 e6
  refine Con.of mk_X12_both (Nat.le_of_ble_eq_true rfl) (fun G hG X E => ?_)
  subst hG
  refine z_ls (ls' := [(0, .ref o)]) rfl ?_
  refine z_aload_n X 0 dX12_both_0 rfl ?_
  refine z_callV X (EvC.use hU (κ := κ) (n := n) (o := (o)) (base := (base)) (sz := (sz)) (p := (p)) (k := (k)) (f := (f)) (im := (im)) (rm := (rm)) (ti := (ti)) (tm := (tm)) (wh := (wh)) (d := (d)) (nm := (nm)) K0 K1 K2 (by first | assumption | omega) (by first | assumption | omega) (by omega) (by assumption) (e6)) mk_X12_compared dX12_both_1 wd_1100 wd_1102 wd_31 rfl K0 rfl rfl rfl (Nat.le_of_ble_eq_true rfl) (by omega) (Nat.le_of_ble_eq_true rfl) (by omega) (by omega) (fun q zh5 zm7 zp8 => ?_)
  obtain ⟨v'1, p'2, f'3, k'4, rfl, ze6, zn11, zf9, zf10⟩ := zp8
  subst zm7
  refine z_st (st' := [.int v'1]) rfl ?_
  have zK12 : zh5 o = some (.inr (12, [.ref (o + 1), .ref (o + 2), .ref (o + 3), .int im, .ref (o + 4), .int (nI base), .int (nI p'2), .int (nI sz), .int (faI f'3), .int (nI k'4), .ref (o + 5), .ref (o + 6), .int rm, .ref (o + 7), .ref (o + 8), .int ti, .ref (o + 9), .int tm, .int wh, .ref (o + 10), .ref (o + 11), .ref (o + 12), .ref (o + 13)])) := by rw [ze6]; exact va_up_self _ _ _
  have zK13 : zh5 (o + 1) = arI κ 340 d := by rw [ze6]; rw [va_up_ne _ _ (show o + 1 ≠ o by omega)]; exact K1
  have zK14 : zh5 (o + 5) = arI κ 3 nm := by rw [ze6]; rw [va_up_ne _ _ (show o + 5 ≠ o by omega)]; exact K2
  obtain ⟨ga, gb, gc, gd, ge⟩ := id zf10
  refine z_istore_n (ls' := [(1, .int v'1), (0, .ref o)]) X dX12_both_4 (by decide) rfl ?_
  have L5 : ∀ (jj : Nat) (hh5 : Mm)  (i : Nat) (v : Int32) (p2 : Nat) (f2 : Option Nat) (k2 : Nat), (i < jj) → (hh5 = va_up h o (some (.inr (12, [.ref (o + 1), .ref (o + 2), .ref (o + 3), .int im, .ref (o + 4), .int (nI base), .int (nI p2), .int (nI sz), .int (faI f2), .int (nI k2), .ref (o + 5), .ref (o + 6), .int rm, .ref (o + 7), .ref (o + 8), .int ti, .ref (o + 9), .int tm, .int wh, .ref (o + 10), .ref (o + 11), .ref (o + 12), .ref (o + 13)])))) → (hi : sz - p2 < i) → (g1 : p ≤ p2) → (g2 : p2 ≤ sz) → (g3 : flOk f2) → (g4 : f2 = none → f = none ∧ k2 = k) → (g5 : k ≤ k2) → (hR : bothE U (sh d base) sz nm (p, f, k) = bothF (sh d base) sz (U (sh d base) sz nm) i v (p2, f2, k2)) → Z κ G 3 5 [(0, .ref o), (1, .int v)] [] hh5 n 0 (0) := by
    intro jj
    induction jj with
    | zero => intro hh5 i v p2 f2 k2 hmu; exact absurd hmu (Nat.not_lt_zero _)
    | succ jj ih5 =>
      intro hh5 i v p2 f2 k2 hmu he5 hi g1 g2 g3 g4 g5 hR
      have zK15 : hh5 o = some (.inr (12, [.ref (o + 1), .ref (o + 2), .ref (o + 3), .int im, .ref (o + 4), .int (nI base), .int (nI p2), .int (nI sz), .int (faI f2), .int (nI k2), .ref (o + 5), .ref (o + 6), .int rm, .ref (o + 7), .ref (o + 8), .int ti, .ref (o + 9), .int tm, .int wh, .ref (o + 10), .ref (o + 11), .ref (o + 12), .ref (o + 13)])) := by rw [he5]; exact va_up_self _ _ _
      have zK16 : hh5 (o + 1) = arI κ 340 d := by rw [he5]; rw [va_up_ne _ _ (show o + 1 ≠ o by omega)]; exact K1
      have zK17 : hh5 (o + 5) = arI κ 3 nm := by rw [he5]; rw [va_up_ne _ _ (show o + 5 ≠ o by omega)]; exact K2
      obtain ⟨i0, rfl⟩ : ∃ z, i = z + 1 := ⟨i - 1, by omega⟩
      refine z_aload_n X 0 dX12_both_5 rfl ?_
      refine z_bipush (v := 38) X dX12_both_6 (by decide) ?_
      refine z_callV X (r_takes (κ := κ) (n := n) (o := (o)) (base := (base)) (sz := (sz)) (p := (p2)) (k := (k2)) (f := (f2)) (d := (d)) (im := (im)) (rm := (rm)) (ti := (ti)) (tm := (tm)) (wh := (wh)) (c := (38)) zK15 zK16 (by first | assumption | omega) (by first | assumption | omega) (by first | assumption | omega) (by first | assumption | omega) (by decide)) mk_X12_takes dX12_both_8 wd_1124 wd_1126 wd_37 rfl zK15 rfl rfl rfl (Nat.le_of_ble_eq_true rfl) (by omega) (Nat.le_of_ble_eq_true rfl) (by omega) (by omega) (fun q zh19 zm21 zp22 => ?_)
      obtain ⟨p'18, rfl, ze20, zn24, zf23⟩ := zp22
      subst zm21
      refine z_st (st' := [.int (b2i (tk (sh d base) sz p2 f2 = 38))]) rfl ?_
      have zK25 : zh19 o = some (.inr (12, [.ref (o + 1), .ref (o + 2), .ref (o + 3), .int im, .ref (o + 4), .int (nI base), .int (nI p'18), .int (nI sz), .int (faI f2), .int (nI k2), .ref (o + 5), .ref (o + 6), .int rm, .ref (o + 7), .ref (o + 8), .int ti, .ref (o + 9), .int tm, .int wh, .ref (o + 10), .ref (o + 11), .ref (o + 12), .ref (o + 13)])) := by rw [ze20]; exact va_up_self _ _ _
      have zK26 : zh19 (o + 1) = arI κ 340 d := by rw [ze20]; rw [va_up_ne _ _ (show o + 1 ≠ o by omega)]; exact zK16
      have zK27 : zh19 (o + 5) = arI κ 3 nm := by rw [ze20]; rw [va_up_ne _ _ (show o + 5 ≠ o by omega)]; exact zK17
      skip
      refine z_if_eq X 36 dX12_both_11 (by decide) (fun zc28 => ?_) (fun zc28 => ?_)
      · replace zc28 := b2i_f zc28
        have hch := zc28
        replace zf23 := zf23.trans (if_neg hch)
        subst p'18
        refine z_iload_n X 1 dX12_both_36 rfl ?_
        refine z_iret X E dX12_both_37 (by omega) (by omega) ⟨v, p2, f2, k2, ?_, ?_, ?_, ?_, ?_⟩
        · rfl
        · first | (rw [ze20, he5]; done) | (rw [ze20, he5]; simp only [up_up]; done) | (rw [ze20, he5]; funext zz; simp only [va_up]; (repeat' split) <;> first | rfl | (exfalso; omega) | simp_all)
        · rfl
        · rw [hR]; exact bothF_stop hch
        · exact ⟨g1, g2, g3, g4, g5⟩
      · replace zc28 := b2i_t zc28
        have hch := zc28
        replace zf23 := zf23.trans (if_pos hch)
        subst p'18
        have hin := tk_in (show ¬ tk (sh d base) sz p2 f2 = -1 by rw [hch]; decide)
        refine z_aload_n X 0 dX12_both_14 rfl ?_
        refine z_callV X (EvC.use hU (κ := κ) (n := n) (o := (o)) (base := (base)) (sz := (sz)) (p := (p2 + 1)) (k := (k2)) (f := (f2)) (im := (im)) (rm := (rm)) (ti := (ti)) (tm := (tm)) (wh := (wh)) (d := (d)) (nm := (nm)) zK25 zK26 zK27 (by first | assumption | omega) (by first | assumption | omega) (by omega) (by assumption) (fun q => (by have := e6 (g4 q).1; have := (g4 q).2; omega))) mk_X12_compared dX12_both_15 wd_1100 wd_1102 wd_31 rfl zK25 rfl rfl rfl (Nat.le_of_ble_eq_true rfl) (by omega) (Nat.le_of_ble_eq_true rfl) (by omega) (by omega) (fun q zh33 zm35 zp36 => ?_)
        obtain ⟨v'29, p'30, f'31, k'32, rfl, ze34, zn39, zf37, zf38⟩ := zp36
        subst zm35
        refine z_st (st' := [.int v'29]) rfl ?_
        have zK40 : zh33 o = some (.inr (12, [.ref (o + 1), .ref (o + 2), .ref (o + 3), .int im, .ref (o + 4), .int (nI base), .int (nI p'30), .int (nI sz), .int (faI f'31), .int (nI k'32), .ref (o + 5), .ref (o + 6), .int rm, .ref (o + 7), .ref (o + 8), .int ti, .ref (o + 9), .int tm, .int wh, .ref (o + 10), .ref (o + 11), .ref (o + 12), .ref (o + 13)])) := by rw [ze34]; exact va_up_self _ _ _
        have zK41 : zh33 (o + 1) = arI κ 340 d := by rw [ze34]; rw [va_up_ne _ _ (show o + 1 ≠ o by omega)]; exact zK26
        have zK42 : zh33 (o + 5) = arI κ 3 nm := by rw [ze34]; rw [va_up_ne _ _ (show o + 5 ≠ o by omega)]; exact zK27
        obtain ⟨ga, gb, gc, gd, ge⟩ := id zf38
        refine z_istore_n (ls' := [(2, .int v'29), (0, .ref o), (1, .int v)]) X dX12_both_18 (by decide) rfl ?_
        refine z_iload_n X 2 dX12_both_19 rfl ?_
        refine z_if_eq X 31 dX12_both_20 (by decide) (fun zc43 => ?_) (fun zc43 => ?_)
        · refine z_iconst (v := 0) X dX12_both_31 (by decide) ?_
          refine z_istore_n (ls' := [(1, .int 0), (2, .int v'29), (0, .ref o)]) X dX12_both_32 (by decide) rfl ?_
          refine z_goto X 5 dX12_both_33 (by decide) ?_
          refine z_sub (ls' := [(0, .ref o), (1, .int 0)]) [2, 0] rfl ?_
          exact ih5 _ i0 0 p'30 f'31 k'32 (by omega) (by first | (rw [ze34, ze20, he5]; done) | (rw [ze34, ze20, he5]; simp only [up_up]; done) | (rw [ze34, ze20, he5]; funext zz; simp only [va_up]; (repeat' split) <;> first | rfl | (exfalso; omega) | simp_all)) (by omega) (by first | assumption | rfl | omega) (by first | assumption | rfl | omega) (by exact gc) (by exact fun q => ⟨(g4 (gd q).1).1, (gd q).2.trans (g4 (gd q).1).2⟩) (by first | assumption | rfl | omega) (by rw [hR, bothF_go hch zf37]; exact congrArg (fun z => bothF (sh d base) sz (U (sh d base) sz nm) i0 z _) (by first | exact b2i_1 (by first | exact ⟨by assumption, by assumption⟩ | exact Or.inl (by assumption) | exact Or.inr (by assumption)) | exact b2i_0 (fun q => absurd q.1 (by simp only [Decidable.not_not]; assumption)) | exact b2i_0 (fun q => absurd q.2 (by simp only [Decidable.not_not]; assumption)) | exact b2i_0 (fun q => q.elim (fun z => z (by assumption)) (fun z => z (by assumption)))))
        · refine z_iload_n X 0 dX12_both_23 rfl ?_
          refine z_if_eq X 31 dX12_both_24 (by decide) (fun zc44 => ?_) (fun zc44 => ?_)
          · refine z_iconst (v := 0) X dX12_both_31 (by decide) ?_
            refine z_istore_n (ls' := [(1, .int 0), (2, .int v'29), (0, .ref o)]) X dX12_both_32 (by decide) rfl ?_
            refine z_goto X 5 dX12_both_33 (by decide) ?_
            refine z_sub (ls' := [(0, .ref o), (1, .int 0)]) [2, 0] rfl ?_
            exact ih5 _ i0 0 p'30 f'31 k'32 (by omega) (by first | (rw [ze34, ze20, he5]; done) | (rw [ze34, ze20, he5]; simp only [up_up]; done) | (rw [ze34, ze20, he5]; funext zz; simp only [va_up]; (repeat' split) <;> first | rfl | (exfalso; omega) | simp_all)) (by omega) (by first | assumption | rfl | omega) (by first | assumption | rfl | omega) (by exact gc) (by exact fun q => ⟨(g4 (gd q).1).1, (gd q).2.trans (g4 (gd q).1).2⟩) (by first | assumption | rfl | omega) (by rw [hR, bothF_go hch zf37]; exact congrArg (fun z => bothF (sh d base) sz (U (sh d base) sz nm) i0 z _) (by first | exact b2i_1 (by first | exact ⟨by assumption, by assumption⟩ | exact Or.inl (by assumption) | exact Or.inr (by assumption)) | exact b2i_0 (fun q => absurd q.1 (by simp only [Decidable.not_not]; assumption)) | exact b2i_0 (fun q => absurd q.2 (by simp only [Decidable.not_not]; assumption)) | exact b2i_0 (fun q => q.elim (fun z => z (by assumption)) (fun z => z (by assumption)))))
          · refine z_iconst (v := 1) X dX12_both_27 (by decide) ?_
            refine z_goto X 32 dX12_both_28 (by decide) ?_
            refine z_istore_n (ls' := [(1, .int 1), (2, .int v'29), (0, .ref o)]) X dX12_both_32 (by decide) rfl ?_
            refine z_goto X 5 dX12_both_33 (by decide) ?_
            refine z_sub (ls' := [(0, .ref o), (1, .int 1)]) [2, 0] rfl ?_
            exact ih5 _ i0 1 p'30 f'31 k'32 (by omega) (by first | (rw [ze34, ze20, he5]; done) | (rw [ze34, ze20, he5]; simp only [up_up]; done) | (rw [ze34, ze20, he5]; funext zz; simp only [va_up]; (repeat' split) <;> first | rfl | (exfalso; omega) | simp_all)) (by omega) (by first | assumption | rfl | omega) (by first | assumption | rfl | omega) (by exact gc) (by exact fun q => ⟨(g4 (gd q).1).1, (gd q).2.trans (g4 (gd q).1).2⟩) (by first | assumption | rfl | omega) (by rw [hR, bothF_go hch zf37]; exact congrArg (fun z => bothF (sh d base) sz (U (sh d base) sz nm) i0 z _) (by first | exact b2i_1 (by first | exact ⟨by assumption, by assumption⟩ | exact Or.inl (by assumption) | exact Or.inr (by assumption)) | exact b2i_0 (fun q => absurd q.1 (by simp only [Decidable.not_not]; assumption)) | exact b2i_0 (fun q => absurd q.2 (by simp only [Decidable.not_not]; assumption)) | exact b2i_0 (fun q => q.elim (fun z => z (by assumption)) (fun z => z (by assumption)))))
  refine z_sub (ls' := [(0, .ref o), (1, .int v'1)]) [1, 0] rfl ?_
  exact L5 _ _ 51 v'1 p'2 f'3 k'4 (Nat.lt_succ_self _) (by first | (rw [ze6]; done) | (rw [ze6]; simp only [up_up]; done) | (rw [ze6]; funext zz; simp only [va_up]; (repeat' split) <;> first | rfl | (exfalso; omega) | simp_all)) (by omega) (by first | assumption | rfl | omega) (by first | assumption | rfl | omega) (by exact gc) (by exact gd) (by first | assumption | rfl | omega) (by unfold bothE; rw [zf9])
set_option maxHeartbeats 4000000 in
set_option maxRecDepth 100000 in
theorem ev_either {κ : Wc} {l : Launch} {j dd : Nat} {U : EvF} (hdd : 2 ≤ dd) (hU : EvC κ l yX12_both cX12_both 3 dd j U) : EvC κ l yX12_either cX12_either 3 (dd + 1) j (eithE U) := by
  intro h n o base sz p k f d nm im rm ti tm wh K0 K1 K2 e1 e2 e3 e4 e6
  refine Con.of mk_X12_either (Nat.le_of_ble_eq_true rfl) (fun G hG X E => ?_)
  subst hG
  refine z_ls (ls' := [(0, .ref o)]) rfl ?_
  refine z_aload_n X 0 dX12_either_0 rfl ?_
  refine z_callV X (EvC.use hU (κ := κ) (n := n) (o := (o)) (base := (base)) (sz := (sz)) (p := (p)) (k := (k)) (f := (f)) (im := (im)) (rm := (rm)) (ti := (ti)) (tm := (tm)) (wh := (wh)) (d := (d)) (nm := (nm)) K0 K1 K2 (by first | assumption | omega) (by first | assumption | omega) (by omega) (by assumption) (e6)) mk_X12_both dX12_either_1 wd_1096 wd_1098 wd_30 rfl K0 rfl rfl rfl (Nat.le_of_ble_eq_true rfl) (by omega) (Nat.le_of_ble_eq_true rfl) (by omega) (by omega) (fun q zh5 zm7 zp8 => ?_)
  obtain ⟨v'1, p'2, f'3, k'4, rfl, ze6, zn11, zf9, zf10⟩ := zp8
  subst zm7
  refine z_st (st' := [.int v'1]) rfl ?_
  have zK12 : zh5 o = some (.inr (12, [.ref (o + 1), .ref (o + 2), .ref (o + 3), .int im, .ref (o + 4), .int (nI base), .int (nI p'2), .int (nI sz), .int (faI f'3), .int (nI k'4), .ref (o + 5), .ref (o + 6), .int rm, .ref (o + 7), .ref (o + 8), .int ti, .ref (o + 9), .int tm, .int wh, .ref (o + 10), .ref (o + 11), .ref (o + 12), .ref (o + 13)])) := by rw [ze6]; exact va_up_self _ _ _
  have zK13 : zh5 (o + 1) = arI κ 340 d := by rw [ze6]; rw [va_up_ne _ _ (show o + 1 ≠ o by omega)]; exact K1
  have zK14 : zh5 (o + 5) = arI κ 3 nm := by rw [ze6]; rw [va_up_ne _ _ (show o + 5 ≠ o by omega)]; exact K2
  obtain ⟨ga, gb, gc, gd, ge⟩ := id zf10
  refine z_istore_n (ls' := [(1, .int v'1), (0, .ref o)]) X dX12_either_4 (by decide) rfl ?_
  have L5 : ∀ (jj : Nat) (hh5 : Mm)  (i : Nat) (v : Int32) (p2 : Nat) (f2 : Option Nat) (k2 : Nat), (i < jj) → (hh5 = va_up h o (some (.inr (12, [.ref (o + 1), .ref (o + 2), .ref (o + 3), .int im, .ref (o + 4), .int (nI base), .int (nI p2), .int (nI sz), .int (faI f2), .int (nI k2), .ref (o + 5), .ref (o + 6), .int rm, .ref (o + 7), .ref (o + 8), .int ti, .ref (o + 9), .int tm, .int wh, .ref (o + 10), .ref (o + 11), .ref (o + 12), .ref (o + 13)])))) → (hi : sz - p2 < i) → (g1 : p ≤ p2) → (g2 : p2 ≤ sz) → (g3 : flOk f2) → (g4 : f2 = none → f = none ∧ k2 = k) → (g5 : k ≤ k2) → (hR : eithE U (sh d base) sz nm (p, f, k) = eithF (sh d base) sz (U (sh d base) sz nm) i v (p2, f2, k2)) → Z κ G 3 5 [(0, .ref o), (1, .int v)] [] hh5 n 0 (0) := by
    intro jj
    induction jj with
    | zero => intro hh5 i v p2 f2 k2 hmu; exact absurd hmu (Nat.not_lt_zero _)
    | succ jj ih5 =>
      intro hh5 i v p2 f2 k2 hmu he5 hi g1 g2 g3 g4 g5 hR
      have zK15 : hh5 o = some (.inr (12, [.ref (o + 1), .ref (o + 2), .ref (o + 3), .int im, .ref (o + 4), .int (nI base), .int (nI p2), .int (nI sz), .int (faI f2), .int (nI k2), .ref (o + 5), .ref (o + 6), .int rm, .ref (o + 7), .ref (o + 8), .int ti, .ref (o + 9), .int tm, .int wh, .ref (o + 10), .ref (o + 11), .ref (o + 12), .ref (o + 13)])) := by rw [he5]; exact va_up_self _ _ _
      have zK16 : hh5 (o + 1) = arI κ 340 d := by rw [he5]; rw [va_up_ne _ _ (show o + 1 ≠ o by omega)]; exact K1
      have zK17 : hh5 (o + 5) = arI κ 3 nm := by rw [he5]; rw [va_up_ne _ _ (show o + 5 ≠ o by omega)]; exact K2
      obtain ⟨i0, rfl⟩ : ∃ z, i = z + 1 := ⟨i - 1, by omega⟩
      refine z_aload_n X 0 dX12_either_5 rfl ?_
      refine z_bipush (v := 124) X dX12_either_6 (by decide) ?_
      refine z_callV X (r_takes (κ := κ) (n := n) (o := (o)) (base := (base)) (sz := (sz)) (p := (p2)) (k := (k2)) (f := (f2)) (d := (d)) (im := (im)) (rm := (rm)) (ti := (ti)) (tm := (tm)) (wh := (wh)) (c := (124)) zK15 zK16 (by first | assumption | omega) (by first | assumption | omega) (by first | assumption | omega) (by first | assumption | omega) (by decide)) mk_X12_takes dX12_either_8 wd_1124 wd_1126 wd_37 rfl zK15 rfl rfl rfl (Nat.le_of_ble_eq_true rfl) (by omega) (Nat.le_of_ble_eq_true rfl) (by omega) (by omega) (fun q zh19 zm21 zp22 => ?_)
      obtain ⟨p'18, rfl, ze20, zn24, zf23⟩ := zp22
      subst zm21
      refine z_st (st' := [.int (b2i (tk (sh d base) sz p2 f2 = 124))]) rfl ?_
      have zK25 : zh19 o = some (.inr (12, [.ref (o + 1), .ref (o + 2), .ref (o + 3), .int im, .ref (o + 4), .int (nI base), .int (nI p'18), .int (nI sz), .int (faI f2), .int (nI k2), .ref (o + 5), .ref (o + 6), .int rm, .ref (o + 7), .ref (o + 8), .int ti, .ref (o + 9), .int tm, .int wh, .ref (o + 10), .ref (o + 11), .ref (o + 12), .ref (o + 13)])) := by rw [ze20]; exact va_up_self _ _ _
      have zK26 : zh19 (o + 1) = arI κ 340 d := by rw [ze20]; rw [va_up_ne _ _ (show o + 1 ≠ o by omega)]; exact zK16
      have zK27 : zh19 (o + 5) = arI κ 3 nm := by rw [ze20]; rw [va_up_ne _ _ (show o + 5 ≠ o by omega)]; exact zK17
      skip
      refine z_if_eq X 36 dX12_either_11 (by decide) (fun zc28 => ?_) (fun zc28 => ?_)
      · replace zc28 := b2i_f zc28
        have hch := zc28
        replace zf23 := zf23.trans (if_neg hch)
        subst p'18
        refine z_iload_n X 1 dX12_either_36 rfl ?_
        refine z_iret X E dX12_either_37 (by omega) (by omega) ⟨v, p2, f2, k2, ?_, ?_, ?_, ?_, ?_⟩
        · rfl
        · first | (rw [ze20, he5]; done) | (rw [ze20, he5]; simp only [up_up]; done) | (rw [ze20, he5]; funext zz; simp only [va_up]; (repeat' split) <;> first | rfl | (exfalso; omega) | simp_all)
        · rfl
        · rw [hR]; exact eithF_stop hch
        · exact ⟨g1, g2, g3, g4, g5⟩
      · replace zc28 := b2i_t zc28
        have hch := zc28
        replace zf23 := zf23.trans (if_pos hch)
        subst p'18
        have hin := tk_in (show ¬ tk (sh d base) sz p2 f2 = -1 by rw [hch]; decide)
        refine z_aload_n X 0 dX12_either_14 rfl ?_
        refine z_callV X (EvC.use hU (κ := κ) (n := n) (o := (o)) (base := (base)) (sz := (sz)) (p := (p2 + 1)) (k := (k2)) (f := (f2)) (im := (im)) (rm := (rm)) (ti := (ti)) (tm := (tm)) (wh := (wh)) (d := (d)) (nm := (nm)) zK25 zK26 zK27 (by first | assumption | omega) (by first | assumption | omega) (by omega) (by assumption) (fun q => (by have := e6 (g4 q).1; have := (g4 q).2; omega))) mk_X12_both dX12_either_15 wd_1096 wd_1098 wd_30 rfl zK25 rfl rfl rfl (Nat.le_of_ble_eq_true rfl) (by omega) (Nat.le_of_ble_eq_true rfl) (by omega) (by omega) (fun q zh33 zm35 zp36 => ?_)
        obtain ⟨v'29, p'30, f'31, k'32, rfl, ze34, zn39, zf37, zf38⟩ := zp36
        subst zm35
        refine z_st (st' := [.int v'29]) rfl ?_
        have zK40 : zh33 o = some (.inr (12, [.ref (o + 1), .ref (o + 2), .ref (o + 3), .int im, .ref (o + 4), .int (nI base), .int (nI p'30), .int (nI sz), .int (faI f'31), .int (nI k'32), .ref (o + 5), .ref (o + 6), .int rm, .ref (o + 7), .ref (o + 8), .int ti, .ref (o + 9), .int tm, .int wh, .ref (o + 10), .ref (o + 11), .ref (o + 12), .ref (o + 13)])) := by rw [ze34]; exact va_up_self _ _ _
        have zK41 : zh33 (o + 1) = arI κ 340 d := by rw [ze34]; rw [va_up_ne _ _ (show o + 1 ≠ o by omega)]; exact zK26
        have zK42 : zh33 (o + 5) = arI κ 3 nm := by rw [ze34]; rw [va_up_ne _ _ (show o + 5 ≠ o by omega)]; exact zK27
        obtain ⟨ga, gb, gc, gd, ge⟩ := id zf38
        refine z_istore_n (ls' := [(2, .int v'29), (0, .ref o), (1, .int v)]) X dX12_either_18 (by decide) rfl ?_
        refine z_iload_n X 2 dX12_either_19 rfl ?_
        refine z_if_ne X 27 dX12_either_20 (by decide) (fun zc43 => ?_) (fun zc43 => ?_)
        · refine z_iconst (v := 1) X dX12_either_27 (by decide) ?_
          refine z_goto X 32 dX12_either_28 (by decide) ?_
          refine z_istore_n (ls' := [(1, .int 1), (2, .int v'29), (0, .ref o)]) X dX12_either_32 (by decide) rfl ?_
          refine z_goto X 5 dX12_either_33 (by decide) ?_
          refine z_sub (ls' := [(0, .ref o), (1, .int 1)]) [2, 0] rfl ?_
          exact ih5 _ i0 1 p'30 f'31 k'32 (by omega) (by first | (rw [ze34, ze20, he5]; done) | (rw [ze34, ze20, he5]; simp only [up_up]; done) | (rw [ze34, ze20, he5]; funext zz; simp only [va_up]; (repeat' split) <;> first | rfl | (exfalso; omega) | simp_all)) (by omega) (by first | assumption | rfl | omega) (by first | assumption | rfl | omega) (by exact gc) (by exact fun q => ⟨(g4 (gd q).1).1, (gd q).2.trans (g4 (gd q).1).2⟩) (by first | assumption | rfl | omega) (by rw [hR, eithF_go hch zf37]; exact congrArg (fun z => eithF (sh d base) sz (U (sh d base) sz nm) i0 z _) (by first | exact b2i_1 (by first | exact ⟨by assumption, by assumption⟩ | exact Or.inl (by assumption) | exact Or.inr (by assumption)) | exact b2i_0 (fun q => absurd q.1 (by simp only [Decidable.not_not]; assumption)) | exact b2i_0 (fun q => absurd q.2 (by simp only [Decidable.not_not]; assumption)) | exact b2i_0 (fun q => q.elim (fun z => z (by assumption)) (fun z => z (by assumption)))))
        · refine z_iload_n X 0 dX12_either_23 rfl ?_
          refine z_if_eq X 31 dX12_either_24 (by decide) (fun zc44 => ?_) (fun zc44 => ?_)
          · refine z_iconst (v := 0) X dX12_either_31 (by decide) ?_
            refine z_istore_n (ls' := [(1, .int 0), (2, .int v'29), (0, .ref o)]) X dX12_either_32 (by decide) rfl ?_
            refine z_goto X 5 dX12_either_33 (by decide) ?_
            refine z_sub (ls' := [(0, .ref o), (1, .int 0)]) [2, 0] rfl ?_
            exact ih5 _ i0 0 p'30 f'31 k'32 (by omega) (by first | (rw [ze34, ze20, he5]; done) | (rw [ze34, ze20, he5]; simp only [up_up]; done) | (rw [ze34, ze20, he5]; funext zz; simp only [va_up]; (repeat' split) <;> first | rfl | (exfalso; omega) | simp_all)) (by omega) (by first | assumption | rfl | omega) (by first | assumption | rfl | omega) (by exact gc) (by exact fun q => ⟨(g4 (gd q).1).1, (gd q).2.trans (g4 (gd q).1).2⟩) (by first | assumption | rfl | omega) (by rw [hR, eithF_go hch zf37]; exact congrArg (fun z => eithF (sh d base) sz (U (sh d base) sz nm) i0 z _) (by first | exact b2i_1 (by first | exact ⟨by assumption, by assumption⟩ | exact Or.inl (by assumption) | exact Or.inr (by assumption)) | exact b2i_0 (fun q => absurd q.1 (by simp only [Decidable.not_not]; assumption)) | exact b2i_0 (fun q => absurd q.2 (by simp only [Decidable.not_not]; assumption)) | exact b2i_0 (fun q => q.elim (fun z => z (by assumption)) (fun z => z (by assumption)))))
          · refine z_iconst (v := 1) X dX12_either_27 (by decide) ?_
            refine z_goto X 32 dX12_either_28 (by decide) ?_
            refine z_istore_n (ls' := [(1, .int 1), (2, .int v'29), (0, .ref o)]) X dX12_either_32 (by decide) rfl ?_
            refine z_goto X 5 dX12_either_33 (by decide) ?_
            refine z_sub (ls' := [(0, .ref o), (1, .int 1)]) [2, 0] rfl ?_
            exact ih5 _ i0 1 p'30 f'31 k'32 (by omega) (by first | (rw [ze34, ze20, he5]; done) | (rw [ze34, ze20, he5]; simp only [up_up]; done) | (rw [ze34, ze20, he5]; funext zz; simp only [va_up]; (repeat' split) <;> first | rfl | (exfalso; omega) | simp_all)) (by omega) (by first | assumption | rfl | omega) (by first | assumption | rfl | omega) (by exact gc) (by exact fun q => ⟨(g4 (gd q).1).1, (gd q).2.trans (g4 (gd q).1).2⟩) (by first | assumption | rfl | omega) (by rw [hR, eithF_go hch zf37]; exact congrArg (fun z => eithF (sh d base) sz (U (sh d base) sz nm) i0 z _) (by first | exact b2i_1 (by first | exact ⟨by assumption, by assumption⟩ | exact Or.inl (by assumption) | exact Or.inr (by assumption)) | exact b2i_0 (fun q => absurd q.1 (by simp only [Decidable.not_not]; assumption)) | exact b2i_0 (fun q => absurd q.2 (by simp only [Decidable.not_not]; assumption)) | exact b2i_0 (fun q => q.elim (fun z => z (by assumption)) (fun z => z (by assumption)))))
  refine z_sub (ls' := [(0, .ref o), (1, .int v'1)]) [1, 0] rfl ?_
  exact L5 _ _ 51 v'1 p'2 f'3 k'4 (Nat.lt_succ_self _) (by first | (rw [ze6]; done) | (rw [ze6]; simp only [up_up]; done) | (rw [ze6]; funext zz; simp only [va_up]; (repeat' split) <;> first | rfl | (exfalso; omega) | simp_all)) (by omega) (by first | assumption | rfl | omega) (by first | assumption | rfl | omega) (by exact gc) (by exact gd) (by first | assumption | rfl | omega) (by unfold eithE; rw [zf9])
set_option maxHeartbeats 4000000 in
set_option maxRecDepth 100000 in
theorem ev_compared {κ : Wc} {l : Launch} {j dd : Nat} {U : EvF} (hdd : 1 ≤ dd) (hU : EvC κ l yX12_sum cX12_sum 4 dd j U) : EvC κ l yX12_compared cX12_compared 4 (dd + 1) j (cmpE U) := by
  intro h n o base sz p k f d nm im rm ti tm wh K0 K1 K2 e1 e2 e3 e4 e6
  refine Con.of mk_X12_compared (Nat.le_of_ble_eq_true rfl) (fun G hG X E => ?_)
  subst hG
  refine z_ls (ls' := [(0, .ref o)]) rfl ?_
  refine z_aload_n X 0 dX12_compared_0 rfl ?_
  refine z_callV X (EvC.use hU (κ := κ) (n := n) (o := (o)) (base := (base)) (sz := (sz)) (p := (p)) (k := (k)) (f := (f)) (im := (im)) (rm := (rm)) (ti := (ti)) (tm := (tm)) (wh := (wh)) (d := (d)) (nm := (nm)) K0 K1 K2 (by first | assumption | omega) (by first | assumption | omega) (by omega) (by assumption) (e6)) mk_X12_sum dX12_compared_1 wd_1104 wd_1106 wd_32 rfl K0 rfl rfl rfl (Nat.le_of_ble_eq_true rfl) (by omega) (Nat.le_of_ble_eq_true rfl) (by omega) (by omega) (fun q zh5 zm7 zp8 => ?_)
  obtain ⟨v'1, p'2, f'3, k'4, rfl, ze6, zn11, zf9, zf10⟩ := zp8
  subst zm7
  refine z_st (st' := [.int v'1]) rfl ?_
  have zK12 : zh5 o = some (.inr (12, [.ref (o + 1), .ref (o + 2), .ref (o + 3), .int im, .ref (o + 4), .int (nI base), .int (nI p'2), .int (nI sz), .int (faI f'3), .int (nI k'4), .ref (o + 5), .ref (o + 6), .int rm, .ref (o + 7), .ref (o + 8), .int ti, .ref (o + 9), .int tm, .int wh, .ref (o + 10), .ref (o + 11), .ref (o + 12), .ref (o + 13)])) := by rw [ze6]; exact va_up_self _ _ _
  have zK13 : zh5 (o + 1) = arI κ 340 d := by rw [ze6]; rw [va_up_ne _ _ (show o + 1 ≠ o by omega)]; exact K1
  have zK14 : zh5 (o + 5) = arI κ 3 nm := by rw [ze6]; rw [va_up_ne _ _ (show o + 5 ≠ o by omega)]; exact K2
  obtain ⟨ga0, gb0, gc0, gd0, ge0⟩ := id zf10
  refine z_istore_n (ls' := [(1, .int v'1), (0, .ref o)]) X dX12_compared_4 (by decide) rfl ?_
  refine z_aload_n X 1 dX12_compared_5 rfl ?_
  refine z_callV X (r_here (κ := κ) (n := n) (o := (o)) (base := (base)) (sz := (sz)) (p := (p'2)) (k := (k'4)) (f := (f'3)) (d := (d)) (im := (im)) (rm := (rm)) (ti := (ti)) (tm := (tm)) (wh := (wh)) zK12 zK13 (by first | assumption | omega) (by first | assumption | omega) (by first | assumption | omega) (by first | assumption | omega)) mk_X12_here dX12_compared_6 wd_1116 wd_1118 wd_35 rfl zK12 rfl rfl rfl (Nat.le_of_ble_eq_true rfl) (by omega) (Nat.le_of_ble_eq_true rfl) (by omega) (by omega) (fun q zh15 zm17 zp18 => ?_)
  obtain ⟨rfl, ze16, zn19⟩ := zp18
  subst zm17
  subst zh15
  refine z_st (st' := [.int (tk (sh d base) sz p'2 f'3)]) rfl ?_
  refine z_istore_n (ls' := [(2, .int (tk (sh d base) sz p'2 f'3)), (1, .int v'1), (0, .ref o)]) X dX12_compared_9 (by decide) rfl ?_
  refine z_iload_n X 0 dX12_compared_10 rfl ?_
  refine z_bipush (v := 60) X dX12_compared_11 (by decide) ?_
  refine z_icmp_eq X 30 dX12_compared_13 (by decide) (fun zc20 => ?_) (fun zc20 => ?_)
  · have hch := zc20
    have hin := tk_in (show ¬ tk (sh d base) sz p'2 f'3 = -1 by rw [hch]; decide)
    refine z_aload_n X 2 dX12_compared_30 rfl ?_
    refine z_dup X dX12_compared_31 rfl ?_
    refine z_get X fl_X12_106_12 dX12_compared_32 zK12 rfl ?_
    refine z_iconst (v := 1) X dX12_compared_35 (by decide) ?_
    refine z_iadd X dX12_compared_36 ?_
    refine z_toe (y := nI (p'2 + 1)) (nI_add (p'2) (1)) ?_
    refine z_put X fp_X12_106_12 dX12_compared_37 zK12 (by first | rfl | decide) (by first | rfl | decide) (Nat.le_of_ble_eq_true rfl) rfl ?_
    obtain ⟨zh21, ze22⟩ : ∃ z : Mm, z = va_up zh5 o (some (.inr (12, [.ref (o + 1), .ref (o + 2), .ref (o + 3), .int im, .ref (o + 4), .int (nI base), .int (nI (p'2 + 1)), .int (nI sz), .int (faI f'3), .int (nI k'4), .ref (o + 5), .ref (o + 6), .int rm, .ref (o + 7), .ref (o + 8), .int ti, .ref (o + 9), .int tm, .int wh, .ref (o + 10), .ref (o + 11), .ref (o + 12), .ref (o + 13)]))) := ⟨_, rfl⟩
    refine z_heap (h' := zh21) ze22.symm ?_
    have zK23 := up_at ze22
    have zK24 := up_off ze22 (show o + 1 ≠ o by omega) zK13
    have zK25 := up_off ze22 (show o + 5 ≠ o by omega) zK14
    refine z_aload_n X 2 dX12_compared_40 rfl ?_
    refine z_callV X (EvC.use hU (κ := κ) (n := n) (o := (o)) (base := (base)) (sz := (sz)) (p := (p'2 + 1)) (k := (k'4)) (f := (f'3)) (im := (im)) (rm := (rm)) (ti := (ti)) (tm := (tm)) (wh := (wh)) (d := (d)) (nm := (nm)) zK23 zK24 zK25 (by first | assumption | omega) (by first | assumption | omega) (by omega) (by assumption) (fun q => (by have := e6 (gd0 q).1; have := (gd0 q).2; omega))) mk_X12_sum dX12_compared_41 wd_1104 wd_1106 wd_32 rfl zK23 rfl rfl rfl (Nat.le_of_ble_eq_true rfl) (by omega) (Nat.le_of_ble_eq_true rfl) (by omega) (by omega) (fun q zh30 zm32 zp33 => ?_)
    obtain ⟨v'26, p'27, f'28, k'29, rfl, ze31, zn36, zf34, zf35⟩ := zp33
    subst zm32
    refine z_st (st' := [.int v'26]) rfl ?_
    have zK37 : zh30 o = some (.inr (12, [.ref (o + 1), .ref (o + 2), .ref (o + 3), .int im, .ref (o + 4), .int (nI base), .int (nI p'27), .int (nI sz), .int (faI f'28), .int (nI k'29), .ref (o + 5), .ref (o + 6), .int rm, .ref (o + 7), .ref (o + 8), .int ti, .ref (o + 9), .int tm, .int wh, .ref (o + 10), .ref (o + 11), .ref (o + 12), .ref (o + 13)])) := by rw [ze31]; exact va_up_self _ _ _
    have zK38 : zh30 (o + 1) = arI κ 340 d := by rw [ze31]; rw [va_up_ne _ _ (show o + 1 ≠ o by omega)]; exact zK24
    have zK39 : zh30 (o + 5) = arI κ 3 nm := by rw [ze31]; rw [va_up_ne _ _ (show o + 5 ≠ o by omega)]; exact zK25
    obtain ⟨ga1, gb1, gc1, gd1, ge1⟩ := id zf35
    refine z_istore_n (ls' := [(3, .int v'26), (2, .int (tk (sh d base) sz p'2 f'3)), (1, .int v'1), (0, .ref o)]) X dX12_compared_44 (by decide) rfl ?_
    refine z_iload_n X 1 dX12_compared_45 rfl ?_
    refine z_bipush (v := 60) X dX12_compared_46 (by decide) ?_
    refine z_icmp_ne X 59 dX12_compared_48 (by decide) (fun zc40 => ?_) (fun zc40 => ?_)
    · first | exact absurd zc40 zc20 | exact absurd zc20 zc40 | (exfalso; omega) | (exfalso; simp only [i_eq, i_lt, i_le] at *; omega)
    · refine z_iload_n X 2 dX12_compared_51 rfl ?_
      refine z_iload_n X 0 dX12_compared_52 rfl ?_
      refine z_icmp_ge X 82 dX12_compared_53 (by decide) (fun zc41 => ?_) (fun zc41 => ?_)
      · refine z_iconst (v := 0) X dX12_compared_82 (by decide) ?_
        refine z_iret X E dX12_compared_83 (by omega) (by omega) ⟨0, p'27, f'28, k'29, ?_, ?_, ?_, ?_, ?_⟩
        · rfl
        · first | (rw [ze31, ze22, ze6]; done) | (rw [ze31, ze22, ze6]; simp only [up_up]; done) | (rw [ze31, ze22, ze6]; funext zz; simp only [va_up]; (repeat' split) <;> first | rfl | (exfalso; omega) | simp_all)
        · rfl
        · refine (cmpE_go zf9 (by first | exact Or.inl (by assumption) | exact Or.inr (Or.inl (by assumption)) | exact Or.inr (Or.inr (by assumption))) zf34).trans ?_; exact congrArg (fun z => (z, _)) (b2i_0 (by simp only [i_eq, i_lt, i_le, show (60 : Int32).toInt = 60 by decide, show (61 : Int32).toInt = 61 by decide, show (62 : Int32).toInt = 62 by decide] at *; omega))
        · exact ⟨by omega, by omega, gc1, fun q => ⟨(gd0 (gd1 q).1).1, (gd1 q).2.trans (gd0 (gd1 q).1).2⟩, by omega⟩
      · refine z_goto X 78 dX12_compared_56 (by decide) ?_
        refine z_iconst (v := 1) X dX12_compared_78 (by decide) ?_
        refine z_goto X 83 dX12_compared_79 (by decide) ?_
        refine z_iret X E dX12_compared_83 (by omega) (by omega) ⟨1, p'27, f'28, k'29, ?_, ?_, ?_, ?_, ?_⟩
        · rfl
        · first | (rw [ze31, ze22, ze6]; done) | (rw [ze31, ze22, ze6]; simp only [up_up]; done) | (rw [ze31, ze22, ze6]; funext zz; simp only [va_up]; (repeat' split) <;> first | rfl | (exfalso; omega) | simp_all)
        · rfl
        · refine (cmpE_go zf9 (by first | exact Or.inl (by assumption) | exact Or.inr (Or.inl (by assumption)) | exact Or.inr (Or.inr (by assumption))) zf34).trans ?_; exact congrArg (fun z => (z, _)) (b2i_1 (by first | exact Or.inl ⟨by assumption, by assumption⟩ | exact Or.inl ⟨by assumption, Int32.not_le.mp (by assumption)⟩ | exact Or.inr (Or.inl ⟨by assumption, by assumption⟩) | exact Or.inr (Or.inr ⟨by assumption, Int32.not_le.mp (by assumption)⟩)))
        · exact ⟨by omega, by omega, gc1, fun q => ⟨(gd0 (gd1 q).1).1, (gd1 q).2.trans (gd0 (gd1 q).1).2⟩, by omega⟩
  · refine z_iload_n X 0 dX12_compared_16 rfl ?_
    refine z_bipush (v := 61) X dX12_compared_17 (by decide) ?_
    refine z_icmp_eq X 30 dX12_compared_19 (by decide) (fun zc42 => ?_) (fun zc42 => ?_)
    · have hch := zc42
      have hin := tk_in (show ¬ tk (sh d base) sz p'2 f'3 = -1 by rw [hch]; decide)
      refine z_aload_n X 2 dX12_compared_30 rfl ?_
      refine z_dup X dX12_compared_31 rfl ?_
      refine z_get X fl_X12_106_12 dX12_compared_32 zK12 rfl ?_
      refine z_iconst (v := 1) X dX12_compared_35 (by decide) ?_
      refine z_iadd X dX12_compared_36 ?_
      refine z_toe (y := nI (p'2 + 1)) (nI_add (p'2) (1)) ?_
      refine z_put X fp_X12_106_12 dX12_compared_37 zK12 (by first | rfl | decide) (by first | rfl | decide) (Nat.le_of_ble_eq_true rfl) rfl ?_
      obtain ⟨zh43, ze44⟩ : ∃ z : Mm, z = va_up zh5 o (some (.inr (12, [.ref (o + 1), .ref (o + 2), .ref (o + 3), .int im, .ref (o + 4), .int (nI base), .int (nI (p'2 + 1)), .int (nI sz), .int (faI f'3), .int (nI k'4), .ref (o + 5), .ref (o + 6), .int rm, .ref (o + 7), .ref (o + 8), .int ti, .ref (o + 9), .int tm, .int wh, .ref (o + 10), .ref (o + 11), .ref (o + 12), .ref (o + 13)]))) := ⟨_, rfl⟩
      refine z_heap (h' := zh43) ze44.symm ?_
      have zK45 := up_at ze44
      have zK46 := up_off ze44 (show o + 1 ≠ o by omega) zK13
      have zK47 := up_off ze44 (show o + 5 ≠ o by omega) zK14
      refine z_aload_n X 2 dX12_compared_40 rfl ?_
      refine z_callV X (EvC.use hU (κ := κ) (n := n) (o := (o)) (base := (base)) (sz := (sz)) (p := (p'2 + 1)) (k := (k'4)) (f := (f'3)) (im := (im)) (rm := (rm)) (ti := (ti)) (tm := (tm)) (wh := (wh)) (d := (d)) (nm := (nm)) zK45 zK46 zK47 (by first | assumption | omega) (by first | assumption | omega) (by omega) (by assumption) (fun q => (by have := e6 (gd0 q).1; have := (gd0 q).2; omega))) mk_X12_sum dX12_compared_41 wd_1104 wd_1106 wd_32 rfl zK45 rfl rfl rfl (Nat.le_of_ble_eq_true rfl) (by omega) (Nat.le_of_ble_eq_true rfl) (by omega) (by omega) (fun q zh52 zm54 zp55 => ?_)
      obtain ⟨v'48, p'49, f'50, k'51, rfl, ze53, zn58, zf56, zf57⟩ := zp55
      subst zm54
      refine z_st (st' := [.int v'48]) rfl ?_
      have zK59 : zh52 o = some (.inr (12, [.ref (o + 1), .ref (o + 2), .ref (o + 3), .int im, .ref (o + 4), .int (nI base), .int (nI p'49), .int (nI sz), .int (faI f'50), .int (nI k'51), .ref (o + 5), .ref (o + 6), .int rm, .ref (o + 7), .ref (o + 8), .int ti, .ref (o + 9), .int tm, .int wh, .ref (o + 10), .ref (o + 11), .ref (o + 12), .ref (o + 13)])) := by rw [ze53]; exact va_up_self _ _ _
      have zK60 : zh52 (o + 1) = arI κ 340 d := by rw [ze53]; rw [va_up_ne _ _ (show o + 1 ≠ o by omega)]; exact zK46
      have zK61 : zh52 (o + 5) = arI κ 3 nm := by rw [ze53]; rw [va_up_ne _ _ (show o + 5 ≠ o by omega)]; exact zK47
      obtain ⟨ga1, gb1, gc1, gd1, ge1⟩ := id zf57
      refine z_istore_n (ls' := [(3, .int v'48), (2, .int (tk (sh d base) sz p'2 f'3)), (1, .int v'1), (0, .ref o)]) X dX12_compared_44 (by decide) rfl ?_
      refine z_iload_n X 1 dX12_compared_45 rfl ?_
      refine z_bipush (v := 60) X dX12_compared_46 (by decide) ?_
      refine z_icmp_ne X 59 dX12_compared_48 (by decide) (fun zc62 => ?_) (fun zc62 => ?_)
      · refine z_iload_n X 1 dX12_compared_59 rfl ?_
        refine z_bipush (v := 61) X dX12_compared_60 (by decide) ?_
        refine z_icmp_ne X 73 dX12_compared_62 (by decide) (fun zc63 => ?_) (fun zc63 => ?_)
        · first | exact absurd zc63 zc42 | exact absurd zc42 zc63 | (exfalso; omega) | (exfalso; simp only [i_eq, i_lt, i_le] at *; omega)
        · refine z_iload_n X 2 dX12_compared_65 rfl ?_
          refine z_iload_n X 0 dX12_compared_66 rfl ?_
          refine z_icmp_ne X 82 dX12_compared_67 (by decide) (fun zc64 => ?_) (fun zc64 => ?_)
          · refine z_iconst (v := 0) X dX12_compared_82 (by decide) ?_
            refine z_iret X E dX12_compared_83 (by omega) (by omega) ⟨0, p'49, f'50, k'51, ?_, ?_, ?_, ?_, ?_⟩
            · rfl
            · first | (rw [ze53, ze44, ze6]; done) | (rw [ze53, ze44, ze6]; simp only [up_up]; done) | (rw [ze53, ze44, ze6]; funext zz; simp only [va_up]; (repeat' split) <;> first | rfl | (exfalso; omega) | simp_all)
            · rfl
            · refine (cmpE_go zf9 (by first | exact Or.inl (by assumption) | exact Or.inr (Or.inl (by assumption)) | exact Or.inr (Or.inr (by assumption))) zf56).trans ?_; exact congrArg (fun z => (z, _)) (b2i_0 (by simp only [i_eq, i_lt, i_le, show (60 : Int32).toInt = 60 by decide, show (61 : Int32).toInt = 61 by decide, show (62 : Int32).toInt = 62 by decide] at *; omega))
            · exact ⟨by omega, by omega, gc1, fun q => ⟨(gd0 (gd1 q).1).1, (gd1 q).2.trans (gd0 (gd1 q).1).2⟩, by omega⟩
          · refine z_goto X 78 dX12_compared_70 (by decide) ?_
            refine z_iconst (v := 1) X dX12_compared_78 (by decide) ?_
            refine z_goto X 83 dX12_compared_79 (by decide) ?_
            refine z_iret X E dX12_compared_83 (by omega) (by omega) ⟨1, p'49, f'50, k'51, ?_, ?_, ?_, ?_, ?_⟩
            · rfl
            · first | (rw [ze53, ze44, ze6]; done) | (rw [ze53, ze44, ze6]; simp only [up_up]; done) | (rw [ze53, ze44, ze6]; funext zz; simp only [va_up]; (repeat' split) <;> first | rfl | (exfalso; omega) | simp_all)
            · rfl
            · refine (cmpE_go zf9 (by first | exact Or.inl (by assumption) | exact Or.inr (Or.inl (by assumption)) | exact Or.inr (Or.inr (by assumption))) zf56).trans ?_; exact congrArg (fun z => (z, _)) (b2i_1 (by first | exact Or.inl ⟨by assumption, by assumption⟩ | exact Or.inl ⟨by assumption, Int32.not_le.mp (by assumption)⟩ | exact Or.inr (Or.inl ⟨by assumption, by assumption⟩) | exact Or.inr (Or.inr ⟨by assumption, Int32.not_le.mp (by assumption)⟩)))
            · exact ⟨by omega, by omega, gc1, fun q => ⟨(gd0 (gd1 q).1).1, (gd1 q).2.trans (gd0 (gd1 q).1).2⟩, by omega⟩
      · first | exact absurd zc62 zc20 | exact absurd zc20 zc62 | (exfalso; omega) | (exfalso; simp only [i_eq, i_lt, i_le] at *; omega)
    · refine z_iload_n X 0 dX12_compared_22 rfl ?_
      refine z_bipush (v := 62) X dX12_compared_23 (by decide) ?_
      refine z_icmp_eq X 30 dX12_compared_25 (by decide) (fun zc65 => ?_) (fun zc65 => ?_)
      · have hch := zc65
        have hin := tk_in (show ¬ tk (sh d base) sz p'2 f'3 = -1 by rw [hch]; decide)
        refine z_aload_n X 2 dX12_compared_30 rfl ?_
        refine z_dup X dX12_compared_31 rfl ?_
        refine z_get X fl_X12_106_12 dX12_compared_32 zK12 rfl ?_
        refine z_iconst (v := 1) X dX12_compared_35 (by decide) ?_
        refine z_iadd X dX12_compared_36 ?_
        refine z_toe (y := nI (p'2 + 1)) (nI_add (p'2) (1)) ?_
        refine z_put X fp_X12_106_12 dX12_compared_37 zK12 (by first | rfl | decide) (by first | rfl | decide) (Nat.le_of_ble_eq_true rfl) rfl ?_
        obtain ⟨zh66, ze67⟩ : ∃ z : Mm, z = va_up zh5 o (some (.inr (12, [.ref (o + 1), .ref (o + 2), .ref (o + 3), .int im, .ref (o + 4), .int (nI base), .int (nI (p'2 + 1)), .int (nI sz), .int (faI f'3), .int (nI k'4), .ref (o + 5), .ref (o + 6), .int rm, .ref (o + 7), .ref (o + 8), .int ti, .ref (o + 9), .int tm, .int wh, .ref (o + 10), .ref (o + 11), .ref (o + 12), .ref (o + 13)]))) := ⟨_, rfl⟩
        refine z_heap (h' := zh66) ze67.symm ?_
        have zK68 := up_at ze67
        have zK69 := up_off ze67 (show o + 1 ≠ o by omega) zK13
        have zK70 := up_off ze67 (show o + 5 ≠ o by omega) zK14
        refine z_aload_n X 2 dX12_compared_40 rfl ?_
        refine z_callV X (EvC.use hU (κ := κ) (n := n) (o := (o)) (base := (base)) (sz := (sz)) (p := (p'2 + 1)) (k := (k'4)) (f := (f'3)) (im := (im)) (rm := (rm)) (ti := (ti)) (tm := (tm)) (wh := (wh)) (d := (d)) (nm := (nm)) zK68 zK69 zK70 (by first | assumption | omega) (by first | assumption | omega) (by omega) (by assumption) (fun q => (by have := e6 (gd0 q).1; have := (gd0 q).2; omega))) mk_X12_sum dX12_compared_41 wd_1104 wd_1106 wd_32 rfl zK68 rfl rfl rfl (Nat.le_of_ble_eq_true rfl) (by omega) (Nat.le_of_ble_eq_true rfl) (by omega) (by omega) (fun q zh75 zm77 zp78 => ?_)
        obtain ⟨v'71, p'72, f'73, k'74, rfl, ze76, zn81, zf79, zf80⟩ := zp78
        subst zm77
        refine z_st (st' := [.int v'71]) rfl ?_
        have zK82 : zh75 o = some (.inr (12, [.ref (o + 1), .ref (o + 2), .ref (o + 3), .int im, .ref (o + 4), .int (nI base), .int (nI p'72), .int (nI sz), .int (faI f'73), .int (nI k'74), .ref (o + 5), .ref (o + 6), .int rm, .ref (o + 7), .ref (o + 8), .int ti, .ref (o + 9), .int tm, .int wh, .ref (o + 10), .ref (o + 11), .ref (o + 12), .ref (o + 13)])) := by rw [ze76]; exact va_up_self _ _ _
        have zK83 : zh75 (o + 1) = arI κ 340 d := by rw [ze76]; rw [va_up_ne _ _ (show o + 1 ≠ o by omega)]; exact zK69
        have zK84 : zh75 (o + 5) = arI κ 3 nm := by rw [ze76]; rw [va_up_ne _ _ (show o + 5 ≠ o by omega)]; exact zK70
        obtain ⟨ga1, gb1, gc1, gd1, ge1⟩ := id zf80
        refine z_istore_n (ls' := [(3, .int v'71), (2, .int (tk (sh d base) sz p'2 f'3)), (1, .int v'1), (0, .ref o)]) X dX12_compared_44 (by decide) rfl ?_
        refine z_iload_n X 1 dX12_compared_45 rfl ?_
        refine z_bipush (v := 60) X dX12_compared_46 (by decide) ?_
        refine z_icmp_ne X 59 dX12_compared_48 (by decide) (fun zc85 => ?_) (fun zc85 => ?_)
        · refine z_iload_n X 1 dX12_compared_59 rfl ?_
          refine z_bipush (v := 61) X dX12_compared_60 (by decide) ?_
          refine z_icmp_ne X 73 dX12_compared_62 (by decide) (fun zc86 => ?_) (fun zc86 => ?_)
          · refine z_iload_n X 2 dX12_compared_73 rfl ?_
            refine z_iload_n X 0 dX12_compared_74 rfl ?_
            refine z_icmp_le X 82 dX12_compared_75 (by decide) (fun zc87 => ?_) (fun zc87 => ?_)
            · refine z_iconst (v := 0) X dX12_compared_82 (by decide) ?_
              refine z_iret X E dX12_compared_83 (by omega) (by omega) ⟨0, p'72, f'73, k'74, ?_, ?_, ?_, ?_, ?_⟩
              · rfl
              · first | (rw [ze76, ze67, ze6]; done) | (rw [ze76, ze67, ze6]; simp only [up_up]; done) | (rw [ze76, ze67, ze6]; funext zz; simp only [va_up]; (repeat' split) <;> first | rfl | (exfalso; omega) | simp_all)
              · rfl
              · refine (cmpE_go zf9 (by first | exact Or.inl (by assumption) | exact Or.inr (Or.inl (by assumption)) | exact Or.inr (Or.inr (by assumption))) zf79).trans ?_; exact congrArg (fun z => (z, _)) (b2i_0 (by simp only [i_eq, i_lt, i_le, show (60 : Int32).toInt = 60 by decide, show (61 : Int32).toInt = 61 by decide, show (62 : Int32).toInt = 62 by decide] at *; omega))
              · exact ⟨by omega, by omega, gc1, fun q => ⟨(gd0 (gd1 q).1).1, (gd1 q).2.trans (gd0 (gd1 q).1).2⟩, by omega⟩
            · refine z_iconst (v := 1) X dX12_compared_78 (by decide) ?_
              refine z_goto X 83 dX12_compared_79 (by decide) ?_
              refine z_iret X E dX12_compared_83 (by omega) (by omega) ⟨1, p'72, f'73, k'74, ?_, ?_, ?_, ?_, ?_⟩
              · rfl
              · first | (rw [ze76, ze67, ze6]; done) | (rw [ze76, ze67, ze6]; simp only [up_up]; done) | (rw [ze76, ze67, ze6]; funext zz; simp only [va_up]; (repeat' split) <;> first | rfl | (exfalso; omega) | simp_all)
              · rfl
              · refine (cmpE_go zf9 (by first | exact Or.inl (by assumption) | exact Or.inr (Or.inl (by assumption)) | exact Or.inr (Or.inr (by assumption))) zf79).trans ?_; exact congrArg (fun z => (z, _)) (b2i_1 (by first | exact Or.inl ⟨by assumption, by assumption⟩ | exact Or.inl ⟨by assumption, Int32.not_le.mp (by assumption)⟩ | exact Or.inr (Or.inl ⟨by assumption, by assumption⟩) | exact Or.inr (Or.inr ⟨by assumption, Int32.not_le.mp (by assumption)⟩)))
              · exact ⟨by omega, by omega, gc1, fun q => ⟨(gd0 (gd1 q).1).1, (gd1 q).2.trans (gd0 (gd1 q).1).2⟩, by omega⟩
          · first | exact absurd zc86 zc42 | exact absurd zc42 zc86 | (exfalso; omega) | (exfalso; simp only [i_eq, i_lt, i_le] at *; omega)
        · first | exact absurd zc85 zc20 | exact absurd zc20 zc85 | (exfalso; omega) | (exfalso; simp only [i_eq, i_lt, i_le] at *; omega)
      · refine z_iload_n X 1 dX12_compared_28 rfl ?_
        refine z_iret X E dX12_compared_29 (by omega) (by omega) ⟨v'1, p'2, f'3, k'4, ?_, ?_, ?_, ?_, ?_⟩
        · rfl
        · first | (rw [ze6]; done) | (rw [ze6]; simp only [up_up]; done) | (rw [ze6]; funext zz; simp only [va_up]; (repeat' split) <;> first | rfl | (exfalso; omega) | simp_all)
        · rfl
        · exact cmpE_stop zf9 (by simp only [not_or]; exact ⟨by assumption, by assumption, by assumption⟩)
        · exact zf10
