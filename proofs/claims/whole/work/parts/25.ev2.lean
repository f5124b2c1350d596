abbrev Ev : Type := Nat × Option Nat × Nat
abbrev EvF : Type := (Nat → Int32) → Nat → (Nat → Int32) → Ev → Int32 × Ev
def evG (n p : Nat) (f : Option Nat) (k p' : Nat) (f' : Option Nat) (k' : Nat) : Prop := p ≤ p' ∧ p' ≤ n ∧ flOk f' ∧ (f' = none → f = none ∧ k' = k) ∧ k ≤ k'
def EvC (κ : Wc) (l : Launch) (y : MethodName) (bt : ByteArray) (mL dep j : Nat) (F : EvF) : Prop := ∀ (h : Mm) (n o base sz p k : Nat) (f : Option Nat) (d nm : Nat → Int32) (im rm ti tm wh : Int32), h o = oMod o im (nI base) (nI p) (nI sz) (faI f) (nI k) rm ti tm wh → h (o + 1) = arI κ 340 d → h (o + 5) = arI κ 3 nm → base + sz ≤ 340 → sz ≤ 50 → p ≤ sz → flOk f → (f = none → k + j = 5) → Con κ l y bt mL (some .int) dep 0 0 [.ref o] h n (fun q h' n' => ∃ (v' : Int32) (p' : Nat) (f' : Option Nat) (k' : Nat), q = some (.int v') ∧ h' = va_up h o (oMod o im (nI base) (nI p') (nI sz) (faI f') (nI k') rm ti tm wh) ∧ n' = n ∧ F (sh d base) sz nm (p, f, k) = (v', p', f', k') ∧ evG sz p f k p' f' k')
theorem EvC.use {κ : Wc} {l : Launch} {y : MethodName} {bt : ByteArray} {mL dep j : Nat} {F : EvF} (H : EvC κ l y bt mL dep j F) {h : Mm} {n o base sz p k : Nat} {f : Option Nat} {d nm : Nat → Int32} {im rm ti tm wh : Int32} (K0 : h o = oMod o im (nI base) (nI p) (nI sz) (faI f) (nI k) rm ti tm wh) (K1 : h (o + 1) = arI κ 340 d) (K2 : h (o + 5) = arI κ 3 nm) (e1 : base + sz ≤ 340) (e2 : sz ≤ 50) (e3 : p ≤ sz) (e4 : flOk f) (e6 : f = none → k + j = 5) : Con κ l y bt mL (some .int) dep 0 0 [.ref o] h n (fun q h' n' => ∃ (v' : Int32) (p' : Nat) (f' : Option Nat) (k' : Nat), q = some (.int v') ∧ h' = va_up h o (oMod o im (nI base) (nI p') (nI sz) (faI f') (nI k') rm ti tm wh) ∧ n' = n ∧ F (sh d base) sz nm (p, f, k) = (v', p', f', k') ∧ evG sz p f k p' f' k') := H h n o base sz p k f d nm im rm ti tm wh K0 K1 K2 e1 e2 e3 e4 e6
def opP (c v w : Int32) : Int32 := if c = 42 then v * w else if w = 0 then 0 else if c = 47 then v / w else v - v / w * w
def opS (c v w : Int32) : Int32 := if c = 43 then v + w else v - w
def prodF (b : Nat → Int32) (n : Nat) (u : Ev → Int32 × Ev) : Nat → Int32 → Ev → Int32 × Ev
  | 0, v, s => (v, s)
  | i + 1, v, s => if tk b n s.1 s.2.1 = 42 ∨ tk b n s.1 s.2.1 = 47 ∨ tk b n s.1 s.2.1 = 37 then prodF b n u i (opP (tk b n s.1 s.2.1) v (u (s.1 + 1, s.2)).1) (u (s.1 + 1, s.2)).2 else (v, s)
def prodE (U : EvF) : EvF := fun b n nm s => prodF b n (U b n nm) 51 (U b n nm s).1 (U b n nm s).2
theorem prodF_stop {b : Nat → Int32} {n : Nat} {u : Ev → Int32 × Ev} {i : Nat} {v : Int32} {s : Ev} (h : ¬ (tk b n s.1 s.2.1 = 42 ∨ tk b n s.1 s.2.1 = 47 ∨ tk b n s.1 s.2.1 = 37)) : prodF b n u (i + 1) v s = (v, s) := if_neg h
theorem prodF_go {b : Nat → Int32} {n : Nat} {u : Ev → Int32 × Ev} {i : Nat} {v w : Int32} {s s' : Ev} (h : tk b n s.1 s.2.1 = 42 ∨ tk b n s.1 s.2.1 = 47 ∨ tk b n s.1 s.2.1 = 37) (hu : u (s.1 + 1, s.2) = (w, s')) : prodF b n u (i + 1) v s = prodF b n u i (opP (tk b n s.1 s.2.1) v w) s' := by
  rw [prodF, if_pos h, hu]
def sumF (b : Nat → Int32) (n : Nat) (u : Ev → Int32 × Ev) : Nat → Int32 → Ev → Int32 × Ev
  | 0, v, s => (v, s)
  | i + 1, v, s => if tk b n s.1 s.2.1 = 43 ∨ tk b n s.1 s.2.1 = 45 then sumF b n u i (opS (tk b n s.1 s.2.1) v (u (s.1 + 1, s.2)).1) (u (s.1 + 1, s.2)).2 else (v, s)
def sumE (U : EvF) : EvF := fun b n nm s => sumF b n (U b n nm) 51 (U b n nm s).1 (U b n nm s).2
theorem sumF_stop {b : Nat → Int32} {n : Nat} {u : Ev → Int32 × Ev} {i : Nat} {v : Int32} {s : Ev} (h : ¬ (tk b n s.1 s.2.1 = 43 ∨ tk b n s.1 s.2.1 = 45)) : sumF b n u (i + 1) v s = (v, s) := if_neg h
theorem sumF_go {b : Nat → Int32} {n : Nat} {u : Ev → Int32 × Ev} {i : Nat} {v w : Int32} {s s' : Ev} (h : tk b n s.1 s.2.1 = 43 ∨ tk b n s.1 s.2.1 = 45) (hu : u (s.1 + 1, s.2) = (w, s')) : sumF b n u (i + 1) v s = sumF b n u i (opS (tk b n s.1 s.2.1) v w) s' := by
  rw [sumF, if_pos h, hu]
set_option maxHeartbeats 4000000 in
set_option maxRecDepth 100000 in
theorem ev_product {κ : Wc} {l : Launch} {j dd : Nat} {U : EvF} (hdd : 1 ≤ dd) (hU : EvC κ l yX12_unit cX12_unit 5 dd j U) : EvC κ l yX12_product cX12_product 4 (dd + 1) j (prodE U) := by
  intro h n o base sz p k f d nm im rm ti tm wh K0 K1 K2 e1 e2 e3 e4 e6
  refine Con.of mk_X12_product (Nat.le_of_ble_eq_true rfl) (fun G hG X E => ?_)
  subst hG
  refine z_ls (ls' := [(0, .ref o)]) rfl ?_
  refine z_aload_n X 0 dX12_product_0 rfl ?_
  refine z_callV X (EvC.use hU (κ := κ) (n := n) (o := (o)) (base := (base)) (sz := (sz)) (p := (p)) (k := (k)) (f := (f)) (im := (im)) (rm := (rm)) (ti := (ti)) (tm := (tm)) (wh := (wh)) (d := (d)) (nm := (nm)) K0 K1 K2 (by first | assumption | omega) (by first | assumption | omega) (by omega) (by assumption) (e6)) mk_X12_unit dX12_product_1 wd_1112 wd_1114 wd_34 rfl K0 rfl rfl rfl (Nat.le_of_ble_eq_true rfl) (by omega) (Nat.le_of_ble_eq_true rfl) (by omega) (by omega) (fun q zh5 zm7 zp8 => ?_)
  obtain ⟨v'1, p'2, f'3, k'4, rfl, ze6, zn11, zf9, zf10⟩ := zp8
  subst zm7
  refine z_st (st' := [.int v'1]) rfl ?_
  have zK12 : zh5 o = some (.inr (12, [.ref (o + 1), .ref (o + 2), .ref (o + 3), .int im, .ref (o + 4), .int (nI base), .int (nI p'2), .int (nI sz), .int (faI f'3), .int (nI k'4), .ref (o + 5), .ref (o + 6), .int rm, .ref (o + 7), .ref (o + 8), .int ti, .ref (o + 9), .int tm, .int wh, .ref (o + 10), .ref (o + 11), .ref (o + 12), .ref (o + 13)])) := by rw [ze6]; exact va_up_self _ _ _
  have zK13 : zh5 (o + 1) = arI κ 340 d := by rw [ze6]; rw [va_up_ne _ _ (show o + 1 ≠ o by omega)]; exact K1
  have zK14 : zh5 (o + 5) = arI κ 3 nm := by rw [ze6]; rw [va_up_ne _ _ (show o + 5 ≠ o by omega)]; exact K2
  obtain ⟨ga, gb, gc, gd, ge⟩ := id zf10
  refine z_istore_n (ls' := [(1, .int v'1), (0, .ref o)]) X dX12_product_4 (by decide) rfl ?_
  have L5 : ∀ (jj : Nat) (hh5 : Mm)  (i : Nat) (v : Int32) (p2 : Nat) (f2 : Option Nat) (k2 : Nat), (i < jj) → (hh5 = va_up h o (some (.inr (12, [.ref (o + 1), .ref (o + 2), .ref (o + 3), .int im, .ref (o + 4), .int (nI base), .int (nI p2), .int (nI sz), .int (faI f2), .int (nI k2), .ref (o + 5), .ref (o + 6), .int rm, .ref (o + 7), .ref (o + 8), .int ti, .ref (o + 9), .int tm, .int wh, .ref (o + 10), .ref (o + 11), .ref (o + 12), .ref (o + 13)])))) → (hi : sz - p2 < i) → (g1 : p ≤ p2) → (g2 : p2 ≤ sz) → (g3 : flOk f2) → (g4 : f2 = none → f = none ∧ k2 = k) → (g5 : k ≤ k2) → (hR : prodE U (sh d base) sz nm (p, f, k) = prodF (sh d base) sz (U (sh d base) sz nm) i v (p2, f2, k2)) → Z κ G 4 5 [(0, .ref o), (1, .int v)] [] hh5 n 0 (0) := by
    intro jj
    induction jj with
    | zero => intro hh5 i v p2 f2 k2 hmu; exact absurd hmu (Nat.not_lt_zero _)
    | succ jj ih5 =>
      intro hh5 i v p2 f2 k2 hmu he5 hi g1 g2 g3 g4 g5 hR
      have zK15 : hh5 o = some (.inr (12, [.ref (o + 1), .ref (o + 2), .ref (o + 3), .int im, .ref (o + 4), .int (nI base), .int (nI p2), .int (nI sz), .int (faI f2), .int (nI k2), .ref (o + 5), .ref (o + 6), .int rm, .ref (o + 7), .ref (o + 8), .int ti, .ref (o + 9), .int tm, .int wh, .ref (o + 10), .ref (o + 11), .ref (o + 12), .ref (o + 13)])) := by rw [he5]; exact va_up_self _ _ _
      have zK16 : hh5 (o + 1) = arI κ 340 d := by rw [he5]; rw [va_up_ne _ _ (show o + 1 ≠ o by omega)]; exact K1
      have zK17 : hh5 (o + 5) = arI κ 3 nm := by rw [he5]; rw [va_up_ne _ _ (show o + 5 ≠ o by omega)]; exact K2
      obtain ⟨i0, rfl⟩ : ∃ z, i = z + 1 := ⟨i - 1, by omega⟩
      refine z_aload_n X 0 dX12_product_5 rfl ?_
      refine z_callV X (r_here (κ := κ) (n := n) (o := (o)) (base := (base)) (sz := (sz)) (p := (p2)) (k := (k2)) (f := (f2)) (d := (d)) (im := (im)) (rm := (rm)) (ti := (ti)) (tm := (tm)) (wh := (wh)) zK15 zK16 (by first | assumption | omega) (by first | assumption | omega) (by first | assumption | omega) (by first | assumption | omega)) mk_X12_here dX12_product_6 wd_1116 wd_1118 wd_35 rfl zK15 rfl rfl rfl (Nat.le_of_ble_eq_true rfl) (by omega) (Nat.le_of_ble_eq_true rfl) (by omega) (by omega) (fun q zh18 zm20 zp21 => ?_)
      obtain ⟨rfl, ze19, zn22⟩ := zp21
      subst zm20
      subst zh18
      refine z_st (st' := [.int (tk (sh d base) sz p2 f2)]) rfl ?_
      refine z_bipush (v := 42) X dX12_product_9 (by decide) ?_
      refine z_icmp_eq X 32 dX12_product_11 (by decide) (fun zc23 => ?_) (fun zc23 => ?_)
      · have hin := tk_in (show ¬ tk (sh d base) sz p2 f2 = -1 by rw [zc23]; decide)
        refine z_aload_n X 0 dX12_product_32 rfl ?_
        refine z_callV X (r_here (κ := κ) (n := n) (o := (o)) (base := (base)) (sz := (sz)) (p := (p2)) (k := (k2)) (f := (f2)) (d := (d)) (im := (im)) (rm := (rm)) (ti := (ti)) (tm := (tm)) (wh := (wh)) zK15 zK16 (by first | assumption | omega) (by first | assumption | omega) (by first | assumption | omega) (by first | assumption | omega)) mk_X12_here dX12_product_33 wd_1116 wd_1118 wd_35 rfl zK15 rfl rfl rfl (Nat.le_of_ble_eq_true rfl) (by omega) (Nat.le_of_ble_eq_true rfl) (by omega) (by omega) (fun q zh24 zm26 zp27 => ?_)
        obtain ⟨rfl, ze25, zn28⟩ := zp27
        subst zm26
        subst zh24
        refine z_st (st' := [.int (tk (sh d base) sz p2 f2)]) rfl ?_
        refine z_istore_n (ls' := [(2, .int (tk (sh d base) sz p2 f2)), (0, .ref o), (1, .int v)]) X dX12_product_36 (by decide) rfl ?_
        refine z_aload_n X 1 dX12_product_37 rfl ?_
        refine z_dup X dX12_product_38 rfl ?_
        refine z_get X fl_X12_106_12 dX12_product_39 zK15 rfl ?_
        refine z_iconst (v := 1) X dX12_product_42 (by decide) ?_
        refine z_iadd X dX12_product_43 ?_
        refine z_toe (y := nI (p2 + 1)) (nI_add (p2) (1)) ?_
        refine z_put X fp_X12_106_12 dX12_product_44 zK15 (by first | rfl | decide) (by first | rfl | decide) (Nat.le_of_ble_eq_true rfl) rfl ?_
        obtain ⟨zh29, ze30⟩ : ∃ z : Mm, z = va_up hh5 o (some (.inr (12, [.ref (o + 1), .ref (o + 2), .ref (o + 3), .int im, .ref (o + 4), .int (nI base), .int (nI (p2 + 1)), .int (nI sz), .int (faI f2), .int (nI k2), .ref (o + 5), .ref (o + 6), .int rm, .ref (o + 7), .ref (o + 8), .int ti, .ref (o + 9), .int tm, .int wh, .ref (o + 10), .ref (o + 11), .ref (o + 12), .ref (o + 13)]))) := ⟨_, rfl⟩
        refine z_heap (h' := zh29) ze30.symm ?_
        have zK31 := up_at ze30
        have zK32 := up_off ze30 (show o + 1 ≠ o by omega) zK16
        have zK33 := up_off ze30 (show o + 5 ≠ o by omega) zK17
        refine z_aload_n X 1 dX12_product_47 rfl ?_
        refine z_callV X (EvC.use hU (κ := κ) (n := n) (o := (o)) (base := (base)) (sz := (sz)) (p := (p2 + 1)) (k := (k2)) (f := (f2)) (im := (im)) (rm := (rm)) (ti := (ti)) (tm := (tm)) (wh := (wh)) (d := (d)) (nm := (nm)) zK31 zK32 zK33 (by first | assumption | omega) (by first | assumption | omega) (by omega) (by assumption) (fun q => (by have := e6 (g4 q).1; have := (g4 q).2; omega))) mk_X12_unit dX12_product_48 wd_1112 wd_1114 wd_34 rfl zK31 rfl rfl rfl (Nat.le_of_ble_eq_true rfl) (by omega) (Nat.le_of_ble_eq_true rfl) (by omega) (by omega) (fun q zh38 zm40 zp41 => ?_)
        obtain ⟨v'34, p'35, f'36, k'37, rfl, ze39, zn44, zf42, zf43⟩ := zp41
        subst zm40
        refine z_st (st' := [.int v'34]) rfl ?_
        have zK45 : zh38 o = some (.inr (12, [.ref (o + 1), .ref (o + 2), .ref (o + 3), .int im, .ref (o + 4), .int (nI base), .int (nI p'35), .int (nI sz), .int (faI f'36), .int (nI k'37), .ref (o + 5), .ref (o + 6), .int rm, .ref (o + 7), .ref (o + 8), .int ti, .ref (o + 9), .int tm, .int wh, .ref (o + 10), .ref (o + 11), .ref (o + 12), .ref (o + 13)])) := by rw [ze39]; exact va_up_self _ _ _
        have zK46 : zh38 (o + 1) = arI κ 340 d := by rw [ze39]; rw [va_up_ne _ _ (show o + 1 ≠ o by omega)]; exact zK32
        have zK47 : zh38 (o + 5) = arI κ 3 nm := by rw [ze39]; rw [va_up_ne _ _ (show o + 5 ≠ o by omega)]; exact zK33
        obtain ⟨ga, gb, gc, gd, ge⟩ := id zf43
        refine z_istore_n (ls' := [(3, .int v'34), (2, .int (tk (sh d base) sz p2 f2)), (0, .ref o), (1, .int v)]) X dX12_product_51 (by decide) rfl ?_
        refine z_iload_n X 1 dX12_product_52 rfl ?_
        refine z_bipush (v := 42) X dX12_product_53 (by decide) ?_
        refine z_icmp_ne X 64 dX12_product_55 (by decide) (fun zc48 => ?_) (fun zc48 => ?_)
        · first | exact absurd zc48 zc23 | exact absurd zc23 zc48 | (exfalso; omega) | (exfalso; simp only [i_eq, i_lt, i_le] at *; omega)
        · refine z_iload_n X 3 dX12_product_58 rfl ?_
          refine z_iload_n X 0 dX12_product_59 rfl ?_
          refine z_imul X dX12_product_60 ?_
          refine z_goto X 87 dX12_product_61 (by decide) ?_
          refine z_istore_n (ls' := [(1, .int (v * v'34)), (3, .int v'34), (2, .int (tk (sh d base) sz p2 f2)), (0, .ref o)]) X dX12_product_87 (by decide) rfl ?_
          refine z_goto X 5 dX12_product_88 (by decide) ?_
          refine z_sub (ls' := [(0, .ref o), (1, .int (v * v'34))]) [3, 0] rfl ?_
          exact ih5 _ i0 (v * v'34) p'35 f'36 k'37 (by omega) (by first | (rw [ze39, ze30, he5]; done) | (rw [ze39, ze30, he5]; simp only [up_up]; done) | (rw [ze39, ze30, he5]; funext zz; simp only [va_up]; (repeat' split) <;> first | rfl | (exfalso; omega) | simp_all)) (by omega) (by first | assumption | rfl | omega) (by first | assumption | rfl | omega) (by exact gc) (by exact fun q => ⟨(g4 (gd q).1).1, (gd q).2.trans (g4 (gd q).1).2⟩) (by first | assumption | rfl | omega) (by rw [hR, prodF_go (by first | exact Or.inl (by assumption) | exact Or.inr (Or.inl (by assumption)) | exact Or.inr (Or.inr (by assumption))) zf42]; exact congrArg (fun z => prodF (sh d base) sz (U (sh d base) sz nm) i0 z _) (by (unfold opP; (repeat first | rw [if_pos (by assumption)] | rw [if_neg (by assumption)]))))
      · refine z_aload_n X 0 dX12_product_14 rfl ?_
        refine z_callV X (r_here (κ := κ) (n := n) (o := (o)) (base := (base)) (sz := (sz)) (p := (p2)) (k := (k2)) (f := (f2)) (d := (d)) (im := (im)) (rm := (rm)) (ti := (ti)) (tm := (tm)) (wh := (wh)) zK15 zK16 (by first | assumption | omega) (by first | assumption | omega) (by first | assumption | omega) (by first | assumption | omega)) mk_X12_here dX12_product_15 wd_1116 wd_1118 wd_35 rfl zK15 rfl rfl rfl (Nat.le_of_ble_eq_true rfl) (by omega) (Nat.le_of_ble_eq_true rfl) (by omega) (by omega) (fun q zh49 zm51 zp52 => ?_)
        obtain ⟨rfl, ze50, zn53⟩ := zp52
        subst zm51
        subst zh49
        refine z_st (st' := [.int (tk (sh d base) sz p2 f2)]) rfl ?_
        refine z_bipush (v := 47) X dX12_product_18 (by decide) ?_
        refine z_icmp_eq X 32 dX12_product_20 (by decide) (fun zc54 => ?_) (fun zc54 => ?_)
        · have hin := tk_in (show ¬ tk (sh d base) sz p2 f2 = -1 by rw [zc54]; decide)
          refine z_aload_n X 0 dX12_product_32 rfl ?_
          refine z_callV X (r_here (κ := κ) (n := n) (o := (o)) (base := (base)) (sz := (sz)) (p := (p2)) (k := (k2)) (f := (f2)) (d := (d)) (im := (im)) (rm := (rm)) (ti := (ti)) (tm := (tm)) (wh := (wh)) zK15 zK16 (by first | assumption | omega) (by first | assumption | omega) (by first | assumption | omega) (by first | assumption | omega)) mk_X12_here dX12_product_33 wd_1116 wd_1118 wd_35 rfl zK15 rfl rfl rfl (Nat.le_of_ble_eq_true rfl) (by omega) (Nat.le_of_ble_eq_true rfl) (by omega) (by omega) (fun q zh55 zm57 zp58 => ?_)
          obtain ⟨rfl, ze56, zn59⟩ := zp58
          subst zm57
          subst zh55
          refine z_st (st' := [.int (tk (sh d base) sz p2 f2)]) rfl ?_
          refine z_istore_n (ls' := [(2, .int (tk (sh d base) sz p2 f2)), (0, .ref o), (1, .int v)]) X dX12_product_36 (by decide) rfl ?_
          refine z_aload_n X 1 dX12_product_37 rfl ?_
          refine z_dup X dX12_product_38 rfl ?_
          refine z_get X fl_X12_106_12 dX12_product_39 zK15 rfl ?_
          refine z_iconst (v := 1) X dX12_product_42 (by decide) ?_
          refine z_iadd X dX12_product_43 ?_
          refine z_toe (y := nI (p2 + 1)) (nI_add (p2) (1)) ?_
          refine z_put X fp_X12_106_12 dX12_product_44 zK15 (by first | rfl | decide) (by first | rfl | decide) (Nat.le_of_ble_eq_true rfl) rfl ?_
          obtain ⟨zh60, ze61⟩ : ∃ z : Mm, z = va_up hh5 o (some (.inr (12, [.ref (o + 1), .ref (o + 2), .ref (o + 3), .int im, .ref (o + 4), .int (nI base), .int (nI (p2 + 1)), .int (nI sz), .int (faI f2), .int (nI k2), .ref (o + 5), .ref (o + 6), .int rm, .ref (o + 7), .ref (o + 8), .int ti, .ref (o + 9), .int tm, .int wh, .ref (o + 10), .ref (o + 11), .ref (o + 12), .ref (o + 13)]))) := ⟨_, rfl⟩
          refine z_heap (h' := zh60) ze61.symm ?_
          have zK62 := up_at ze61
          have zK63 := up_off ze61 (show o + 1 ≠ o by omega) zK16
          have zK64 := up_off ze61 (show o + 5 ≠ o by omega) zK17
          refine z_aload_n X 1 dX12_product_47 rfl ?_
          refine z_callV X (EvC.use hU (κ := κ) (n := n) (o := (o)) (base := (base)) (sz := (sz)) (p := (p2 + 1)) (k := (k2)) (f := (f2)) (im := (im)) (rm := (rm)) (ti := (ti)) (tm := (tm)) (wh := (wh)) (d := (d)) (nm := (nm)) zK62 zK63 zK64 (by first | assumption | omega) (by first | assumption | omega) (by omega) (by assumption) (fun q => (by have := e6 (g4 q).1; have := (g4 q).2; omega))) mk_X12_unit dX12_product_48 wd_1112 wd_1114 wd_34 rfl zK62 rfl rfl rfl (Nat.le_of_ble_eq_true rfl) (by omega) (Nat.le_of_ble_eq_true rfl) (by omega) (by omega) (fun q zh69 zm71 zp72 => ?_)
          obtain ⟨v'65, p'66, f'67, k'68, rfl, ze70, zn75, zf73, zf74⟩ := zp72
          subst zm71
          refine z_st (st' := [.int v'65]) rfl ?_
          have zK76 : zh69 o = some (.inr (12, [.ref (o + 1), .ref (o + 2), .ref (o + 3), .int im, .ref (o + 4), .int (nI base), .int (nI p'66), .int (nI sz), .int (faI f'67), .int (nI k'68), .ref (o + 5), .ref (o + 6), .int rm, .ref (o + 7), .ref (o + 8), .int ti, .ref (o + 9), .int tm, .int wh, .ref (o + 10), .ref (o + 11), .ref (o + 12), .ref (o + 13)])) := by rw [ze70]; exact va_up_self _ _ _
          have zK77 : zh69 (o + 1) = arI κ 340 d := by rw [ze70]; rw [va_up_ne _ _ (show o + 1 ≠ o by omega)]; exact zK63
          have zK78 : zh69 (o + 5) = arI κ 3 nm := by rw [ze70]; rw [va_up_ne _ _ (show o + 5 ≠ o by omega)]; exact zK64
          obtain ⟨ga, gb, gc, gd, ge⟩ := id zf74
          refine z_istore_n (ls' := [(3, .int v'65), (2, .int (tk (sh d base) sz p2 f2)), (0, .ref o), (1, .int v)]) X dX12_product_51 (by decide) rfl ?_
          refine z_iload_n X 1 dX12_product_52 rfl ?_
          refine z_bipush (v := 42) X dX12_product_53 (by decide) ?_
          refine z_icmp_ne X 64 dX12_product_55 (by decide) (fun zc79 => ?_) (fun zc79 => ?_)
          · refine z_iload_n X 0 dX12_product_64 rfl ?_
            refine z_if_ne X 72 dX12_product_65 (by decide) (fun zc80 => ?_) (fun zc80 => ?_)
            · refine z_iload_n X 1 dX12_product_72 rfl ?_
              refine z_bipush (v := 47) X dX12_product_73 (by decide) ?_
              refine z_icmp_ne X 84 dX12_product_75 (by decide) (fun zc81 => ?_) (fun zc81 => ?_)
              · first | exact absurd zc81 zc54 | exact absurd zc54 zc81 | (exfalso; omega) | (exfalso; simp only [i_eq, i_lt, i_le] at *; omega)
              · refine z_iload_n X 3 dX12_product_78 rfl ?_
                refine z_iload_n X 0 dX12_product_79 rfl ?_
                refine z_idiv X dX12_product_80 (by assumption) ?_
                refine z_goto X 87 dX12_product_81 (by decide) ?_
                refine z_istore_n (ls' := [(1, .int (v / v'65)), (3, .int v'65), (2, .int (tk (sh d base) sz p2 f2)), (0, .ref o)]) X dX12_product_87 (by decide) rfl ?_
                refine z_goto X 5 dX12_product_88 (by decide) ?_
                refine z_sub (ls' := [(0, .ref o), (1, .int (v / v'65))]) [3, 0] rfl ?_
                exact ih5 _ i0 (v / v'65) p'66 f'67 k'68 (by omega) (by first | (rw [ze70, ze61, he5]; done) | (rw [ze70, ze61, he5]; simp only [up_up]; done) | (rw [ze70, ze61, he5]; funext zz; simp only [va_up]; (repeat' split) <;> first | rfl | (exfalso; omega) | simp_all)) (by omega) (by first | assumption | rfl | omega) (by first | assumption | rfl | omega) (by exact gc) (by exact fun q => ⟨(g4 (gd q).1).1, (gd q).2.trans (g4 (gd q).1).2⟩) (by first | assumption | rfl | omega) (by rw [hR, prodF_go (by first | exact Or.inl (by assumption) | exact Or.inr (Or.inl (by assumption)) | exact Or.inr (Or.inr (by assumption))) zf73]; exact congrArg (fun z => prodF (sh d base) sz (U (sh d base) sz nm) i0 z _) (by (unfold opP; (repeat first | rw [if_pos (by assumption)] | rw [if_neg (by assumption)]))))
            · refine z_iconst (v := 0) X dX12_product_68 (by decide) ?_
              refine z_goto X 87 dX12_product_69 (by decide) ?_
              refine z_istore_n (ls' := [(1, .int 0), (3, .int v'65), (2, .int (tk (sh d base) sz p2 f2)), (0, .ref o)]) X dX12_product_87 (by decide) rfl ?_
              refine z_goto X 5 dX12_product_88 (by decide) ?_
              refine z_sub (ls' := [(0, .ref o), (1, .int 0)]) [3, 0] rfl ?_
              exact ih5 _ i0 0 p'66 f'67 k'68 (by omega) (by first | (rw [ze70, ze61, he5]; done) | (rw [ze70, ze61, he5]; simp only [up_up]; done) | (rw [ze70, ze61, he5]; funext zz; simp only [va_up]; (repeat' split) <;> first | rfl | (exfalso; omega) | simp_all)) (by omega) (by first | assumption | rfl | omega) (by first | assumption | rfl | omega) (by exact gc) (by exact fun q => ⟨(g4 (gd q).1).1, (gd q).2.trans (g4 (gd q).1).2⟩) (by first | assumption | rfl | omega) (by rw [hR, prodF_go (by first | exact Or.inl (by assumption) | exact Or.inr (Or.inl (by assumption)) | exact Or.inr (Or.inr (by assumption))) zf73]; exact congrArg (fun z => prodF (sh d base) sz (U (sh d base) sz nm) i0 z _) (by (unfold opP; (repeat first | rw [if_pos (by assumption)] | rw [if_neg (by assumption)]))))
          · first | exact absurd zc79 zc23 | exact absurd zc23 zc79 | (exfalso; omega) | (exfalso; simp only [i_eq, i_lt, i_le] at *; omega)
        · refine z_aload_n X 0 dX12_product_23 rfl ?_
          refine z_callV X (r_here (κ := κ) (n := n) (o := (o)) (base := (base)) (sz := (sz)) (p := (p2)) (k := (k2)) (f := (f2)) (d := (d)) (im := (im)) (rm := (rm)) (ti := (ti)) (tm := (tm)) (wh := (wh)) zK15 zK16 (by first | assumption | omega) (by first | assumption | omega) (by first | assumption | omega) (by first | assumption | omega)) mk_X12_here dX12_product_24 wd_1116 wd_1118 wd_35 rfl zK15 rfl rfl rfl (Nat.le_of_ble_eq_true rfl) (by omega) (Nat.le_of_ble_eq_true rfl) (by omega) (by omega) (fun q zh82 zm84 zp85 => ?_)
          obtain ⟨rfl, ze83, zn86⟩ := zp85
          subst zm84
          subst zh82
          refine z_st (st' := [.int (tk (sh d base) sz p2 f2)]) rfl ?_
          refine z_bipush (v := 37) X dX12_product_27 (by decide) ?_
          refine z_icmp_ne X 91 dX12_product_29 (by decide) (fun zc87 => ?_) (fun zc87 => ?_)
          · refine z_iload_n X 1 dX12_product_91 rfl ?_
            refine z_iret X E dX12_product_92 (by omega) (by omega) ⟨v, p2, f2, k2, ?_, ?_, ?_, ?_, ?_⟩
            · rfl
            · first | (rw [he5]; done) | (rw [he5]; simp only [up_up]; done) | (rw [he5]; funext zz; simp only [va_up]; (repeat' split) <;> first | rfl | (exfalso; omega) | simp_all)
            · rfl
            · rw [hR]; exact prodF_stop (by simp only [not_or]; exact ⟨by assumption, by assumption, by assumption⟩)
            · exact ⟨g1, g2, g3, g4, g5⟩
          · have hin := tk_in (show ¬ tk (sh d base) sz p2 f2 = -1 by rw [zc87]; decide)
            refine z_aload_n X 0 dX12_product_32 rfl ?_
            refine z_callV X (r_here (κ := κ) (n := n) (o := (o)) (base := (base)) (sz := (sz)) (p := (p2)) (k := (k2)) (f := (f2)) (d := (d)) (im := (im)) (rm := (rm)) (ti := (ti)) (tm := (tm)) (wh := (wh)) zK15 zK16 (by first | assumption | omega) (by first | assumption | omega) (by first | assumption | omega) (by first | assumption | omega)) mk_X12_here dX12_product_33 wd_1116 wd_1118 wd_35 rfl zK15 rfl rfl rfl (Nat.le_of_ble_eq_true rfl) (by omega) (Nat.le_of_ble_eq_true rfl) (by omega) (by omega) (fun q zh88 zm90 zp91 => ?_)
            obtain ⟨rfl, ze89, zn92⟩ := zp91
            subst zm90
            subst zh88
            refine z_st (st' := [.int (tk (sh d base) sz p2 f2)]) rfl ?_
            refine z_istore_n (ls' := [(2, .int (tk (sh d base) sz p2 f2)), (0, .ref o), (1, .int v)]) X dX12_product_36 (by decide) rfl ?_
            refine z_aload_n X 1 dX12_product_37 rfl ?_
            refine z_dup X dX12_product_38 rfl ?_
            refine z_get X fl_X12_106_12 dX12_product_39 zK15 rfl ?_
            refine z_iconst (v := 1) X dX12_product_42 (by decide) ?_
            refine z_iadd X dX12_product_43 ?_
            refine z_toe (y := nI (p2 + 1)) (nI_add (p2) (1)) ?_
            refine z_put X fp_X12_106_12 dX12_product_44 zK15 (by first | rfl | decide) (by first | rfl | decide) (Nat.le_of_ble_eq_true rfl) rfl ?_
            obtain ⟨zh93, ze94⟩ : ∃ z : Mm, z = va_up hh5 o (some (.inr (12, [.ref (o + 1), .ref (o + 2), .ref (o + 3), .int im, .ref (o + 4), .int (nI base), .int (nI (p2 + 1)), .int (nI sz), .int (faI f2), .int (nI k2), .ref (o + 5), .ref (o + 6), .int rm, .ref (o + 7), .ref (o + 8), .int ti, .ref (o + 9), .int tm, .int wh, .ref (o + 10), .ref (o + 11), .ref (o + 12), .ref (o + 13)]))) := ⟨_, rfl⟩
            refine z_heap (h' := zh93) ze94.symm ?_
            have zK95 := up_at ze94
            have zK96 := up_off ze94 (show o + 1 ≠ o by omega) zK16
            have zK97 := up_off ze94 (show o + 5 ≠ o by omega) zK17
            refine z_aload_n X 1 dX12_product_47 rfl ?_
            refine z_callV X (EvC.use hU (κ := κ) (n := n) (o := (o)) (base := (base)) (sz := (sz)) (p := (p2 + 1)) (k := (k2)) (f := (f2)) (im := (im)) (rm := (rm)) (ti := (ti)) (tm := (tm)) (wh := (wh)) (d := (d)) (nm := (nm)) zK95 zK96 zK97 (by first | assumption | omega) (by first | assumption | omega) (by omega) (by assumption) (fun q => (by have := e6 (g4 q).1; have := (g4 q).2; omega))) mk_X12_unit dX12_product_48 wd_1112 wd_1114 wd_34 rfl zK95 rfl rfl rfl (Nat.le_of_ble_eq_true rfl) (by omega) (Nat.le_of_ble_eq_true rfl) (by omega) (by omega) (fun q zh102 zm104 zp105 => ?_)
            obtain ⟨v'98, p'99, f'100, k'101, rfl, ze103, zn108, zf106, zf107⟩ := zp105
            subst zm104
            refine z_st (st' := [.int v'98]) rfl ?_
            have zK109 : zh102 o = some (.inr (12, [.ref (o + 1), .ref (o + 2), .ref (o + 3), .int im, .ref (o + 4), .int (nI base), .int (nI p'99), .int (nI sz), .int (faI f'100), .int (nI k'101), .ref (o + 5), .ref (o + 6), .int rm, .ref (o + 7), .ref (o + 8), .int ti, .ref (o + 9), .int tm, .int wh, .ref (o + 10), .ref (o + 11), .ref (o + 12), .ref (o + 13)])) := by rw [ze103]; exact va_up_self _ _ _
            have zK110 : zh102 (o + 1) = arI κ 340 d := by rw [ze103]; rw [va_up_ne _ _ (show o + 1 ≠ o by omega)]; exact zK96
            have zK111 : zh102 (o + 5) = arI κ 3 nm := by rw [ze103]; rw [va_up_ne _ _ (show o + 5 ≠ o by omega)]; exact zK97
            obtain ⟨ga, gb, gc, gd, ge⟩ := id zf107
            refine z_istore_n (ls' := [(3, .int v'98), (2, .int (tk (sh d base) sz p2 f2)), (0, .ref o), (1, .int v)]) X dX12_product_51 (by decide) rfl ?_
            refine z_iload_n X 1 dX12_product_52 rfl ?_
            refine z_bipush (v := 42) X dX12_product_53 (by decide) ?_
            refine z_icmp_ne X 64 dX12_product_55 (by decide) (fun zc112 => ?_) (fun zc112 => ?_)
            · refine z_iload_n X 0 dX12_product_64 rfl ?_
              refine z_if_ne X 72 dX12_product_65 (by decide) (fun zc113 => ?_) (fun zc113 => ?_)
              · refine z_iload_n X 1 dX12_product_72 rfl ?_
                refine z_bipush (v := 47) X dX12_product_73 (by decide) ?_
                refine z_icmp_ne X 84 dX12_product_75 (by decide) (fun zc114 => ?_) (fun zc114 => ?_)
                · refine z_iload_n X 3 dX12_product_84 rfl ?_
                  refine z_iload_n X 0 dX12_product_85 rfl ?_
                  refine z_irem X dX12_product_86 (by assumption) ?_
                  refine z_istore_n (ls' := [(1, .int (v - v / v'98 * v'98)), (3, .int v'98), (2, .int (tk (sh d base) sz p2 f2)), (0, .ref o)]) X dX12_product_87 (by decide) rfl ?_
                  refine z_goto X 5 dX12_product_88 (by decide) ?_
                  refine z_sub (ls' := [(0, .ref o), (1, .int (v - v / v'98 * v'98))]) [3, 0] rfl ?_
                  exact ih5 _ i0 (v - v / v'98 * v'98) p'99 f'100 k'101 (by omega) (by first | (rw [ze103, ze94, he5]; done) | (rw [ze103, ze94, he5]; simp only [up_up]; done) | (rw [ze103, ze94, he5]; funext zz; simp only [va_up]; (repeat' split) <;> first | rfl | (exfalso; omega) | simp_all)) (by omega) (by first | assumption | rfl | omega) (by first | assumption | rfl | omega) (by exact gc) (by exact fun q => ⟨(g4 (gd q).1).1, (gd q).2.trans (g4 (gd q).1).2⟩) (by first | assumption | rfl | omega) (by rw [hR, prodF_go (by first | exact Or.inl (by assumption) | exact Or.inr (Or.inl (by assumption)) | exact Or.inr (Or.inr (by assumption))) zf106]; exact congrArg (fun z => prodF (sh d base) sz (U (sh d base) sz nm) i0 z _) (by (unfold opP; (repeat first | rw [if_pos (by assumption)] | rw [if_neg (by assumption)]))))
                · first | exact absurd zc114 zc54 | exact absurd zc54 zc114 | (exfalso; omega) | (exfalso; simp only [i_eq, i_lt, i_le] at *; omega)
              · refine z_iconst (v := 0) X dX12_product_68 (by decide) ?_
                refine z_goto X 87 dX12_product_69 (by decide) ?_
                refine z_istore_n (ls' := [(1, .int 0), (3, .int v'98), (2, .int (tk (sh d base) sz p2 f2)), (0, .ref o)]) X dX12_product_87 (by decide) rfl ?_
                refine z_goto X 5 dX12_product_88 (by decide) ?_
                refine z_sub (ls' := [(0, .ref o), (1, .int 0)]) [3, 0] rfl ?_
                exact ih5 _ i0 0 p'99 f'100 k'101 (by omega) (by first | (rw [ze103, ze94, he5]; done) | (rw [ze103, ze94, he5]; simp only [up_up]; done) | (rw [ze103, ze94, he5]; funext zz; simp only [va_up]; (repeat' split) <;> first | rfl | (exfalso; omega) | simp_all)) (by omega) (by first | assumption | rfl | omega) (by first | assumption | rfl | omega) (by exact gc) (by exact fun q => ⟨(g4 (gd q).1).1, (gd q).2.trans (g4 (gd q).1).2⟩) (by first | assumption | rfl | omega) (by rw [hR, prodF_go (by first | exact Or.inl (by assumption) | exact Or.inr (Or.inl (by assumption)) | exact Or.inr (Or.inr (by assumption))) zf106]; exact congrArg (fun z => prodF (sh d base) sz (U (sh d base) sz nm) i0 z _) (by (unfold opP; (repeat first | rw [if_pos (by assumption)] | rw [if_neg (by assumption)]))))
            · first | exact absurd zc112 zc23 | exact absurd zc23 zc112 | (exfalso; omega) | (exfalso; simp only [i_eq, i_lt, i_le] at *; omega)
  refine z_sub (ls' := [(0, .ref o), (1, .int v'1)]) [1, 0] rfl ?_
  exact L5 _ _ 51 v'1 p'2 f'3 k'4 (Nat.lt_succ_self _) (by first | (rw [ze6]; done) | (rw [ze6]; simp only [up_up]; done) | (rw [ze6]; funext zz; simp only [va_up]; (repeat' split) <;> first | rfl | (exfalso; omega) | simp_all)) (by omega) (by first | assumption | rfl | omega) (by first | assumption | rfl | omega) (by exact gc) (by exact gd) (by first | assumption | rfl | omega) (by unfold prodE; rw [zf9])
set_option maxHeartbeats 4000000 in
set_option maxRecDepth 100000 in
theorem ev_sum {κ : Wc} {l : Launch} {j dd : Nat} {U : EvF} (hdd : 1 ≤ dd) (hU : EvC κ l yX12_product cX12_product 4 dd j U) : EvC κ l yX12_sum cX12_sum 4 (dd + 1) j (sumE U) := by
  intro h n o base sz p k f d nm im rm ti tm wh K0 K1 K2 e1 e2 e3 e4 e6
  refine Con.of mk_X12_sum (Nat.le_of_ble_eq_true rfl) (fun G hG X E => ?_)
  subst hG
  refine z_ls (ls' := [(0, .ref o)]) rfl ?_
  refine z_aload_n X 0 dX12_sum_0 rfl ?_
  refine z_callV X (EvC.use hU (κ := κ) (n := n) (o := (o)) (base := (base)) (sz := (sz)) (p := (p)) (k := (k)) (f := (f)) (im := (im)) (rm := (rm)) (ti := (ti)) (tm := (tm)) (wh := (wh)) (d := (d)) (nm := (nm)) K0 K1 K2 (by first | assumption | omega) (by first | assumption | omega) (by omega) (by assumption) (e6)) mk_X12_product dX12_sum_1 wd_1108 wd_1110 wd_33 rfl K0 rfl rfl rfl (Nat.le_of_ble_eq_true rfl) (by omega) (Nat.le_of_ble_eq_true rfl) (by omega) (by omega) (fun q zh5 zm7 zp8 => ?_)
  obtain ⟨v'1, p'2, f'3, k'4, rfl, ze6, zn11, zf9, zf10⟩ := zp8
  subst zm7
  refine z_st (st' := [.int v'1]) rfl ?_
  have zK12 : zh5 o = some (.inr (12, [.ref (o + 1), .ref (o + 2), .ref (o + 3), .int im, .ref (o + 4), .int (nI base), .int (nI p'2), .int (nI sz), .int (faI f'3), .int (nI k'4), .ref (o + 5), .ref (o + 6), .int rm, .ref (o + 7), .ref (o + 8), .int ti, .ref (o + 9), .int tm, .int wh, .ref (o + 10), .ref (o + 11), .ref (o + 12), .ref (o + 13)])) := by rw [ze6]; exact va_up_self _ _ _
  have zK13 : zh5 (o + 1) = arI κ 340 d := by rw [ze6]; rw [va_up_ne _ _ (show o + 1 ≠ o by omega)]; exact K1
  have zK14 : zh5 (o + 5) = arI κ 3 nm := by rw [ze6]; rw [va_up_ne _ _ (show o + 5 ≠ o by omega)]; exact K2
  obtain ⟨ga, gb, gc, gd, ge⟩ := id zf10
  refine z_istore_n (ls' := [(1, .int v'1), (0, .ref o)]) X dX12_sum_4 (by decide) rfl ?_
  have L5 : ∀ (jj : Nat) (hh5 : Mm)  (i : Nat) (v : Int32) (p2 : Nat) (f2 : Option Nat) (k2 : Nat), (i < jj) → (hh5 = va_up h o (some (.inr (12, [.ref (o + 1), .ref (o + 2), .ref (o + 3), .int im, .ref (o + 4), .int (nI base), .int (nI p2), .int (nI sz), .int (faI f2), .int (nI k2), .ref (o + 5), .ref (o + 6), .int rm, .ref (o + 7), .ref (o + 8), .int ti, .ref (o + 9), .int tm, .int wh, .ref (o + 10), .ref (o + 11), .ref (o + 12), .ref (o + 13)])))) → (hi : sz - p2 < i) → (g1 : p ≤ p2) → (g2 : p2 ≤ sz) → (g3 : flOk f2) → (g4 : f2 = none → f = none ∧ k2 = k) → (g5 : k ≤ k2) → (hR : sumE U (sh d base) sz nm (p, f, k) = sumF (sh d base) sz (U (sh d base) sz nm) i v (p2, f2, k2)) → Z κ G 4 5 [(0, .ref o), (1, .int v)] [] hh5 n 0 (0) := by
    intro jj
    induction jj with
    | zero => intro hh5 i v p2 f2 k2 hmu; exact absurd hmu (Nat.not_lt_zero _)
    | succ jj ih5 =>
      intro hh5 i v p2 f2 k2 hmu he5 hi g1 g2 g3 g4 g5 hR
      have zK15 : hh5 o = some (.inr (12, [.ref (o + 1), .ref (o + 2), .ref (o + 3), .int im, .ref (o + 4), .int (nI base), .int (nI p2), .int (nI sz), .int (faI f2), .int (nI k2), .ref (o + 5), .ref (o + 6), .int rm, .ref (o + 7), .ref (o + 8), .int ti, .ref (o + 9), .int tm, .int wh, .ref (o + 10), .ref (o + 11), .ref (o + 12), .ref (o + 13)])) := by rw [he5]; exact va_up_self _ _ _
      have zK16 : hh5 (o + 1) = arI κ 340 d := by rw [he5]; rw [va_up_ne _ _ (show o + 1 ≠ o by omega)]; exact K1
      have zK17 : hh5 (o + 5) = arI κ 3 nm := by rw [he5]; rw [va_up_ne _ _ (show o + 5 ≠ o by omega)]; exact K2
      obtain ⟨i0, rfl⟩ : ∃ z, i = z + 1 := ⟨i - 1, by omega⟩
      refine z_aload_n X 0 dX12_sum_5 rfl ?_
      refine z_callV X (r_here (κ := κ) (n := n) (o := (o)) (base := (base)) (sz := (sz)) (p := (p2)) (k := (k2)) (f := (f2)) (d := (d)) (im := (im)) (rm := (rm)) (ti := (ti)) (tm := (tm)) (wh := (wh)) zK15 zK16 (by first | assumption | omega) (by first | assumption | omega) (by first | assumption | omega) (by first | assumption | omega)) mk_X12_here dX12_sum_6 wd_1116 wd_1118 wd_35 rfl zK15 rfl rfl rfl (Nat.le_of_ble_eq_true rfl) (by omega) (Nat.le_of_ble_eq_true rfl) (by omega) (by omega) (fun q zh18 zm20 zp21 => ?_)
      obtain ⟨rfl, ze19, zn22⟩ := zp21
      subst zm20
      subst zh18
      refine z_st (st' := [.int (tk (sh d base) sz p2 f2)]) rfl ?_
      refine z_bipush (v := 43) X dX12_sum_9 (by decide) ?_
      refine z_icmp_eq X 23 dX12_sum_11 (by decide) (fun zc23 => ?_) (fun zc23 => ?_)
      · have hin := tk_in (show ¬ tk (sh d base) sz p2 f2 = -1 by rw [zc23]; decide)
        refine z_aload_n X 0 dX12_sum_23 rfl ?_
        refine z_callV X (r_here (κ := κ) (n := n) (o := (o)) (base := (base)) (sz := (sz)) (p := (p2)) (k := (k2)) (f := (f2)) (d := (d)) (im := (im)) (rm := (rm)) (ti := (ti)) (tm := (tm)) (wh := (wh)) zK15 zK16 (by first | assumption | omega) (by first | assumption | omega) (by first | assumption | omega) (by first | assumption | omega)) mk_X12_here dX12_sum_24 wd_1116 wd_1118 wd_35 rfl zK15 rfl rfl rfl (Nat.le_of_ble_eq_true rfl) (by omega) (Nat.le_of_ble_eq_true rfl) (by omega) (by omega) (fun q zh24 zm26 zp27 => ?_)
        obtain ⟨rfl, ze25, zn28⟩ := zp27
        subst zm26
        subst zh24
        refine z_st (st' := [.int (tk (sh d base) sz p2 f2)]) rfl ?_
        refine z_istore_n (ls' := [(2, .int (tk (sh d base) sz p2 f2)), (0, .ref o), (1, .int v)]) X dX12_sum_27 (by decide) rfl ?_
        refine z_aload_n X 1 dX12_sum_28 rfl ?_
        refine z_dup X dX12_sum_29 rfl ?_
        refine z_get X fl_X12_106_12 dX12_sum_30 zK15 rfl ?_
        refine z_iconst (v := 1) X dX12_sum_33 (by decide) ?_
        refine z_iadd X dX12_sum_34 ?_
        refine z_toe (y := nI (p2 + 1)) (nI_add (p2) (1)) ?_
        refine z_put X fp_X12_106_12 dX12_sum_35 zK15 (by first | rfl | decide) (by first | rfl | decide) (Nat.le_of_ble_eq_true rfl) rfl ?_
        obtain ⟨zh29, ze30⟩ : ∃ z : Mm, z = va_up hh5 o (some (.inr (12, [.ref (o + 1), .ref (o + 2), .ref (o + 3), .int im, .ref (o + 4), .int (nI base), .int (nI (p2 + 1)), .int (nI sz), .int (faI f2), .int (nI k2), .ref (o + 5), .ref (o + 6), .int rm, .ref (o + 7), .ref (o + 8), .int ti, .ref (o + 9), .int tm, .int wh, .ref (o + 10), .ref (o + 11), .ref (o + 12), .ref (o + 13)]))) := ⟨_, rfl⟩
        refine z_heap (h' := zh29) ze30.symm ?_
        have zK31 := up_at ze30
        have zK32 := up_off ze30 (show o + 1 ≠ o by omega) zK16
        have zK33 := up_off ze30 (show o + 5 ≠ o by omega) zK17
        refine z_aload_n X 1 dX12_sum_38 rfl ?_
        refine z_callV X (EvC.use hU (κ := κ) (n := n) (o := (o)) (base := (base)) (sz := (sz)) (p := (p2 + 1)) (k := (k2)) (f := (f2)) (im := (im)) (rm := (rm)) (ti := (ti)) (tm := (tm)) (wh := (wh)) (d := (d)) (nm := (nm)) zK31 zK32 zK33 (by first | assumption | omega) (by first | assumption | omega) (by omega) (by assumption) (fun q => (by have := e6 (g4 q).1; have := (g4 q).2; omega))) mk_X12_product dX12_sum_39 wd_1108 wd_1110 wd_33 rfl zK31 rfl rfl rfl (Nat.le_of_ble_eq_true rfl) (by omega) (Nat.le_of_ble_eq_true rfl) (by omega) (by omega) (fun q zh38 zm40 zp41 => ?_)
        obtain ⟨v'34, p'35, f'36, k'37, rfl, ze39, zn44, zf42, zf43⟩ := zp41
        subst zm40
        refine z_st (st' := [.int v'34]) rfl ?_
        have zK45 : zh38 o = some (.inr (12, [.ref (o + 1), .ref (o + 2), .ref (o + 3), .int im, .ref (o + 4), .int (nI base), .int (nI p'35), .int (nI sz), .int (faI f'36), .int (nI k'37), .ref (o + 5), .ref (o + 6), .int rm, .ref (o + 7), .ref (o + 8), .int ti, .ref (o + 9), .int tm, .int wh, .ref (o + 10), .ref (o + 11), .ref (o + 12), .ref (o + 13)])) := by rw [ze39]; exact va_up_self _ _ _
        have zK46 : zh38 (o + 1) = arI κ 340 d := by rw [ze39]; rw [va_up_ne _ _ (show o + 1 ≠ o by omega)]; exact zK32
        have zK47 : zh38 (o + 5) = arI κ 3 nm := by rw [ze39]; rw [va_up_ne _ _ (show o + 5 ≠ o by omega)]; exact zK33
        obtain ⟨ga, gb, gc, gd, ge⟩ := id zf43
        refine z_istore_n (ls' := [(3, .int v'34), (2, .int (tk (sh d base) sz p2 f2)), (0, .ref o), (1, .int v)]) X dX12_sum_42 (by decide) rfl ?_
        refine z_iload_n X 1 dX12_sum_43 rfl ?_
        refine z_bipush (v := 43) X dX12_sum_44 (by decide) ?_
        refine z_icmp_ne X 55 dX12_sum_46 (by decide) (fun zc48 => ?_) (fun zc48 => ?_)
        · first | exact absurd zc48 zc23 | exact absurd zc23 zc48 | (exfalso; omega) | (exfalso; simp only [i_eq, i_lt, i_le] at *; omega)
        · refine z_iload_n X 3 dX12_sum_49 rfl ?_
          refine z_iload_n X 0 dX12_sum_50 rfl ?_
          refine z_iadd X dX12_sum_51 ?_
          refine z_goto X 58 dX12_sum_52 (by decide) ?_
          refine z_istore_n (ls' := [(1, .int (v + v'34)), (3, .int v'34), (2, .int (tk (sh d base) sz p2 f2)), (0, .ref o)]) X dX12_sum_58 (by decide) rfl ?_
          refine z_goto X 5 dX12_sum_59 (by decide) ?_
          refine z_sub (ls' := [(0, .ref o), (1, .int (v + v'34))]) [3, 0] rfl ?_
          exact ih5 _ i0 (v + v'34) p'35 f'36 k'37 (by omega) (by first | (rw [ze39, ze30, he5]; done) | (rw [ze39, ze30, he5]; simp only [up_up]; done) | (rw [ze39, ze30, he5]; funext zz; simp only [va_up]; (repeat' split) <;> first | rfl | (exfalso; omega) | simp_all)) (by omega) (by first | assumption | rfl | omega) (by first | assumption | rfl | omega) (by exact gc) (by exact fun q => ⟨(g4 (gd q).1).1, (gd q).2.trans (g4 (gd q).1).2⟩) (by first | assumption | rfl | omega) (by rw [hR, sumF_go (by first | exact Or.inl (by assumption) | exact Or.inr (by assumption)) zf42]; exact congrArg (fun z => sumF (sh d base) sz (U (sh d base) sz nm) i0 z _) (by (unfold opS; (repeat first | rw [if_pos (by assumption)] | rw [if_neg (by assumption)]))))
      · refine z_aload_n X 0 dX12_sum_14 rfl ?_
        refine z_callV X (r_here (κ := κ) (n := n) (o := (o)) (base := (base)) (sz := (sz)) (p := (p2)) (k := (k2)) (f := (f2)) (d := (d)) (im := (im)) (rm := (rm)) (ti := (ti)) (tm := (tm)) (wh := (wh)) zK15 zK16 (by first | assumption | omega) (by first | assumption | omega) (by first | assumption | omega) (by first | assumption | omega)) mk_X12_here dX12_sum_15 wd_1116 wd_1118 wd_35 rfl zK15 rfl rfl rfl (Nat.le_of_ble_eq_true rfl) (by omega) (Nat.le_of_ble_eq_true rfl) (by omega) (by omega) (fun q zh49 zm51 zp52 => ?_)
        obtain ⟨rfl, ze50, zn53⟩ := zp52
        subst zm51
        subst zh49
        refine z_st (st' := [.int (tk (sh d base) sz p2 f2)]) rfl ?_
        refine z_bipush (v := 45) X dX12_sum_18 (by decide) ?_
        refine z_icmp_ne X 62 dX12_sum_20 (by decide) (fun zc54 => ?_) (fun zc54 => ?_)
        · refine z_iload_n X 1 dX12_sum_62 rfl ?_
          refine z_iret X E dX12_sum_63 (by omega) (by omega) ⟨v, p2, f2, k2, ?_, ?_, ?_, ?_, ?_⟩
          · rfl
          · first | (rw [he5]; done) | (rw [he5]; simp only [up_up]; done) | (rw [he5]; funext zz; simp only [va_up]; (repeat' split) <;> first | rfl | (exfalso; omega) | simp_all)
          · rfl
          · rw [hR]; exact sumF_stop (by simp only [not_or]; exact ⟨by assumption, by assumption⟩)
          · exact ⟨g1, g2, g3, g4, g5⟩
        · have hin := tk_in (show ¬ tk (sh d base) sz p2 f2 = -1 by rw [zc54]; decide)
          refine z_aload_n X 0 dX12_sum_23 rfl ?_
          refine z_callV X (r_here (κ := κ) (n := n) (o := (o)) (base := (base)) (sz := (sz)) (p := (p2)) (k := (k2)) (f := (f2)) (d := (d)) (im := (im)) (rm := (rm)) (ti := (ti)) (tm := (tm)) (wh := (wh)) zK15 zK16 (by first | assumption | omega) (by first | assumption | omega) (by first | assumption | omega) (by first | assumption | omega)) mk_X12_here dX12_sum_24 wd_1116 wd_1118 wd_35 rfl zK15 rfl rfl rfl (Nat.le_of_ble_eq_true rfl) (by omega) (Nat.le_of_ble_eq_true rfl) (by omega) (by omega) (fun q zh55 zm57 zp58 => ?_)
          obtain ⟨rfl, ze56, zn59⟩ := zp58
          subst zm57
          subst zh55
          refine z_st (st' := [.int (tk (sh d base) sz p2 f2)]) rfl ?_
          refine z_istore_n (ls' := [(2, .int (tk (sh d base) sz p2 f2)), (0, .ref o), (1, .int v)]) X dX12_sum_27 (by decide) rfl ?_
          refine z_aload_n X 1 dX12_sum_28 rfl ?_
          refine z_dup X dX12_sum_29 rfl ?_
          refine z_get X fl_X12_106_12 dX12_sum_30 zK15 rfl ?_
          refine z_iconst (v := 1) X dX12_sum_33 (by decide) ?_
          refine z_iadd X dX12_sum_34 ?_
          refine z_toe (y := nI (p2 + 1)) (nI_add (p2) (1)) ?_
          refine z_put X fp_X12_106_12 dX12_sum_35 zK15 (by first | rfl | decide) (by first | rfl | decide) (Nat.le_of_ble_eq_true rfl) rfl ?_
          obtain ⟨zh60, ze61⟩ : ∃ z : Mm, z = va_up hh5 o (some (.inr (12, [.ref (o + 1), .ref (o + 2), .ref (o + 3), .int im, .ref (o + 4), .int (nI base), .int (nI (p2 + 1)), .int (nI sz), .int (faI f2), .int (nI k2), .ref (o + 5), .ref (o + 6), .int rm, .ref (o + 7), .ref (o + 8), .int ti, .ref (o + 9), .int tm, .int wh, .ref (o + 10), .ref (o + 11), .ref (o + 12), .ref (o + 13)]))) := ⟨_, rfl⟩
          refine z_heap (h' := zh60) ze61.symm ?_
          have zK62 := up_at ze61
          have zK63 := up_off ze61 (show o + 1 ≠ o by omega) zK16
          have zK64 := up_off ze61 (show o + 5 ≠ o by omega) zK17
          refine z_aload_n X 1 dX12_sum_38 rfl ?_
          refine z_callV X (EvC.use hU (κ := κ) (n := n) (o := (o)) (base := (base)) (sz := (sz)) (p := (p2 + 1)) (k := (k2)) (f := (f2)) (im := (im)) (rm := (rm)) (ti := (ti)) (tm := (tm)) (wh := (wh)) (d := (d)) (nm := (nm)) zK62 zK63 zK64 (by first | assumption | omega) (by first | assumption | omega) (by omega) (by assumption) (fun q => (by have := e6 (g4 q).1; have := (g4 q).2; omega))) mk_X12_product dX12_sum_39 wd_1108 wd_1110 wd_33 rfl zK62 rfl rfl rfl (Nat.le_of_ble_eq_true rfl) (by omega) (Nat.le_of_ble_eq_true rfl) (by omega) (by omega) (fun q zh69 zm71 zp72 => ?_)
          obtain ⟨v'65, p'66, f'67, k'68, rfl, ze70, zn75, zf73, zf74⟩ := zp72
          subst zm71
          refine z_st (st' := [.int v'65]) rfl ?_
          have zK76 : zh69 o = some (.inr (12, [.ref (o + 1), .ref (o + 2), .ref (o + 3), .int im, .ref (o + 4), .int (nI base), .int (nI p'66), .int (nI sz), .int (faI f'67), .int (nI k'68), .ref (o + 5), .ref (o + 6), .int rm, .ref (o + 7), .ref (o + 8), .int ti, .ref (o + 9), .int tm, .int wh, .ref (o + 10), .ref (o + 11), .ref (o + 12), .ref (o + 13)])) := by rw [ze70]; exact va_up_self _ _ _
          have zK77 : zh69 (o + 1) = arI κ 340 d := by rw [ze70]; rw [va_up_ne _ _ (show o + 1 ≠ o by omega)]; exact zK63
          have zK78 : zh69 (o + 5) = arI κ 3 nm := by rw [ze70]; rw [va_up_ne _ _ (show o + 5 ≠ o by omega)]; exact zK64
          obtain ⟨ga, gb, gc, gd, ge⟩ := id zf74
          refine z_istore_n (ls' := [(3, .int v'65), (2, .int (tk (sh d base) sz p2 f2)), (0, .ref o), (1, .int v)]) X dX12_sum_42 (by decide) rfl ?_
          refine z_iload_n X 1 dX12_sum_43 rfl ?_
          refine z_bipush (v := 43) X dX12_sum_44 (by decide) ?_
          refine z_icmp_ne X 55 dX12_sum_46 (by decide) (fun zc79 => ?_) (fun zc79 => ?_)
          · refine z_iload_n X 3 dX12_sum_55 rfl ?_
            refine z_iload_n X 0 dX12_sum_56 rfl ?_
            refine z_isub X dX12_sum_57 ?_
            refine z_istore_n (ls' := [(1, .int (v - v'65)), (3, .int v'65), (2, .int (tk (sh d base) sz p2 f2)), (0, .ref o)]) X dX12_sum_58 (by decide) rfl ?_
            refine z_goto X 5 dX12_sum_59 (by decide) ?_
            refine z_sub (ls' := [(0, .ref o), (1, .int (v - v'65))]) [3, 0] rfl ?_
            exact ih5 _ i0 (v - v'65) p'66 f'67 k'68 (by omega) (by first | (rw [ze70, ze61, he5]; done) | (rw [ze70, ze61, he5]; simp only [up_up]; done) | (rw [ze70, ze61, he5]; funext zz; simp only [va_up]; (repeat' split) <;> first | rfl | (exfalso; omega) | simp_all)) (by omega) (by first | assumption | rfl | omega) (by first | assumption | rfl | omega) (by exact gc) (by exact fun q => ⟨(g4 (gd q).1).1, (gd q).2.trans (g4 (gd q).1).2⟩) (by first | assumption | rfl | omega) (by rw [hR, sumF_go (by first | exact Or.inl (by assumption) | exact Or.inr (by assumption)) zf73]; exact congrArg (fun z => sumF (sh d base) sz (U (sh d base) sz nm) i0 z _) (by (unfold opS; (repeat first | rw [if_pos (by assumption)] | rw [if_neg (by assumption)]))))
          · first | exact absurd zc79 zc23 | exact absurd zc23 zc79 | (exfalso; omega) | (exfalso; simp only [i_eq, i_lt, i_le] at *; omega)
  refine z_sub (ls' := [(0, .ref o), (1, .int v'1)]) [1, 0] rfl ?_
  exact L5 _ _ 51 v'1 p'2 f'3 k'4 (Nat.lt_succ_self _) (by first | (rw [ze6]; done) | (rw [ze6]; simp only [up_up]; done) | (rw [ze6]; funext zz; simp only [va_up]; (repeat' split) <;> first | rfl | (exfalso; omega) | simp_all)) (by omega) (by first | assumption | rfl | omega) (by first | assumption | rfl | omega) (by exact gc) (by exact gd) (by first | assumption | rfl | omega) (by unfold sumE; rw [zf9])
