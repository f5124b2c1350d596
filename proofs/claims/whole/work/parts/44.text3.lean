/-- what a reading of a whole text has found -/
def FaR (b : Nat → Int32) (nn : Nat) (L : List Int32) (f : Option Nat) : Prop := (∀ nm : Nat → Int32, (wkE b nn nm).2 = f) ∧ flOk f ∧ L.length ≤ 50 ∧ (∀ x, x ∈ L → okS x) ∧ (f = none → ∀ nm : Nat → Int32, Good nm L (wkE b nn nm).1)
theorem FaR_of {b : Nat → Int32} {nn k p' : Nat} {L : List Int32} {f' : Option Nat} (hn : nn ≤ 50) (h : PaR (evE 5) b nn 0 0 L p' f' k) : (f' ≠ none → FaR b nn L (some p')) ∧ (f' = none → ¬ p' = nn → FaR b nn L (some p')) ∧ (f' = none → p' = nn → FaR b nn L none) := by
  obtain ⟨ga, gb, gc, gd, ge, gf, gg⟩ := h
  refine ⟨fun h1 => ⟨fun nm => ?_, flOk_some (by omega), by omega, gf, fun zq => (by cases zq)⟩, fun h1 h2 => ⟨fun nm => ?_, flOk_some (by omega), by omega, gf, fun zq => (by cases zq)⟩, fun h1 h2 => ⟨fun nm => ?_, flOk_none, by omega, gf, fun _ nm => ?_⟩⟩
  · obtain ⟨v, ev, -⟩ := gg nm
    rw [wkE_v ev (fun zq => h1 zq.1)]
    exact gd.resolve_left h1
  · obtain ⟨v, ev, -⟩ := gg nm
    rw [wkE_w ev h1 (by omega)]
  · obtain ⟨v, ev, -⟩ := gg nm
    rw [wkE_v ev (fun zq => absurd zq.2 (by omega))]
    exact h1
  · obtain ⟨v, ev, gv1⟩ := gg nm
    rw [wkE_v ev (fun zq => absurd zq.2 (by omega))]
    exact gv1 h1
set_option maxHeartbeats 4000000 in
set_option maxRecDepth 100000 in
theorem t_faultOf {κ : Wc} {l : Launch} {h : Mm} {n : Nat} {t : Nat} {r : Nat} {nn : Nat} {b : Nat → Int32} {st : Nat → Int32} {s0 : Int32} {p0 : Int32} {tp : Int32} {bits : Int32} (K0 : h t = some (.inr (9, [.ref (t + 1), .ref (t + 2), .int s0, .int p0, .int tp]))) (K1 : h (t + 1) = arI κ 50 st) (K2 : h r = some (.inr (6, [.ref (r + 1), .int (nI nn), .int bits]))) (K3 : h (r + 1) = arI κ 50 b) (e1 : nn ≤ 50) (e5 : r + 1 < t ∨ t + 2 < r) : Con κ l yX9_faultOf cX9_faultOf 2 (some .int) 46 0 0 [.ref t, .ref r] h n (fun q h' n' => ∃ L' : List Int32, ∃ pl' : Int32, ∃ f' : Option Nat, q = some (.int (faI f')) ∧ h' = va_up (va_up h t (some (.inr (9, [.ref (t + 1), .ref (t + 2), .int (nI L'.length), .int pl', .int tp])))) (t + 1) (arI κ 50 (wrs st 0 L')) ∧ n' = n ∧ FaR b nn L' f') := by
  refine Con.of mk_X9_faultOf (Nat.le_of_ble_eq_true rfl) (fun G hG X E => ?_)
  subst hG
  refine z_ls (ls' := [(0, .ref t), (1, .ref r)]) rfl ?_
  refine z_aload_n X 0 dX9_faultOf_0 rfl ?_
  refine z_iconst (v := 0) X dX9_faultOf_1 (by decide) ?_
  refine z_put X fp_X9_18_9 dX9_faultOf_2 K0 (by first | rfl | decide) (by first | rfl | decide) (Nat.le_of_ble_eq_true rfl) rfl ?_
  obtain ⟨zh1, ze2⟩ : ∃ z : Mm, z = va_up h t (some (.inr (9, [.ref (t + 1), .ref (t + 2), .int 0, .int p0, .int tp]))) := ⟨_, rfl⟩
  refine z_heap (h' := zh1) ze2.symm ?_
  have zK3 := up_at ze2
  have zK4 := up_off ze2 (show t + 1 ≠ t by omega) K1
  have zK5 := up_off ze2 (show r ≠ t by omega) K2
  have zK6 := up_off ze2 (show r + 1 ≠ t by omega) K3
  refine z_aload_n X 0 dX9_faultOf_5 rfl ?_
  refine z_iconst (v := 0) X dX9_faultOf_6 (by decide) ?_
  refine z_put X fp_X9_22_9 dX9_faultOf_7 zK3 (by first | rfl | decide) (by first | rfl | decide) (Nat.le_of_ble_eq_true rfl) rfl ?_
  obtain ⟨zh7, ze8⟩ : ∃ z : Mm, z = va_up zh1 t (some (.inr (9, [.ref (t + 1), .ref (t + 2), .int 0, .int 0, .int tp]))) := ⟨_, rfl⟩
  refine z_heap (h' := zh7) ze8.symm ?_
  have zK9 := up_at ze8
  have zK10 := up_off ze8 (show t + 1 ≠ t by omega) zK4
  have zK11 := up_off ze8 (show r ≠ t by omega) zK5
  have zK12 := up_off ze8 (show r + 1 ≠ t by omega) zK6
  refine z_aload_n X 0 dX9_faultOf_10 rfl ?_
  refine z_aload_n X 1 dX9_faultOf_11 rfl ?_
  refine z_iconst (v := 0) X dX9_faultOf_12 (by decide) ?_
  refine z_callV X (PaC.use pa_top (κ := κ) (n := n) (t := (t)) (r := (r)) (nn := (nn)) (p := (0)) (sz := (0)) (k := (0)) (b := (b)) (st := (st)) (tp := (tp)) (bits := (bits)) zK9 zK10 zK11 zK12 (by first | assumption | omega) (Nat.zero_le _) (Nat.le_refl _) (rfl) (by first | assumption | omega)) mk_X9_anyOf dX9_faultOf_13 wd_533 wd_535 wd_5 rfl zK9 rfl rfl rfl (Nat.le_of_ble_eq_true rfl) (Nat.le_of_ble_eq_true rfl) (Nat.le_of_ble_eq_true rfl) (by omega) (by omega) (fun q zh17 zm19 zp20 => ?_)
  obtain ⟨p'13, L'14, f'15, k'16, rfl, ze18, zn22, zf21⟩ := zp20
  subst zm19
  refine z_st (st' := [.int (b2i (f'15 = none))]) rfl ?_
  have zK23 : zh17 t = some (.inr (9, [.ref (t + 1), .ref (t + 2), .int (nI (0 + (L'14 : _).length)), .int (nI p'13), .int tp])) := by rw [ze18]; rw [va_up_ne _ _ (show t ≠ t + 1 by omega)]; exact va_up_self _ _ _
  have zK24 : zh17 (t + 1) = arI κ 50 (wrs st 0 L'14) := by rw [ze18]; exact va_up_self _ _ _
  have zK25 : zh17 r = some (.inr (6, [.ref (r + 1), .int (nI nn), .int bits])) := by rw [ze18]; rw [va_up_ne _ _ (show r ≠ t + 1 by omega)]; rw [va_up_ne _ _ (show r ≠ t by omega)]; exact zK11
  have zK26 : zh17 (r + 1) = arI κ 50 b := by rw [ze18]; rw [va_up_ne _ _ (show r + 1 ≠ t + 1 by omega)]; rw [va_up_ne _ _ (show r + 1 ≠ t by omega)]; exact zK12
  have hFa := FaR_of e1 zf21; have hpb := zf21.2.1
  refine z_if_eq X 34 dX9_faultOf_16 (by decide) (fun zc27 => ?_) (fun zc27 => ?_)
  · replace zc27 := b2i_f zc27
    refine z_aload_n X 0 dX9_faultOf_34 rfl ?_
    refine z_get X fl_X9_22_9 dX9_faultOf_35 zK23 rfl ?_
    refine z_iret X E dX9_faultOf_38 (by omega) (by omega) ⟨L'14, nI p'13, some p'13, ?_, ?_, ?_, ?_⟩
    · rfl
    · rw [show nI L'14.length = nI (0 + L'14.length) by rw [Nat.zero_add]]; funext zz; by_cases zq1 : zz = t + 1; (rw [zq1, va_up_self]; exact zK24); by_cases zq0 : zz = t; (rw [zq0, va_up_ne _ _ (show t ≠ t + 1 by omega), va_up_self]; exact zK23); rw [va_up_ne _ _ zq1, va_up_ne _ _ zq0]; rw [ze18, ze8, ze2]; simp only [va_up, if_neg zq0, if_neg zq1]
    · rfl
    · first | exact hFa.1 (by assumption) | exact hFa.2.1 (by assumption) (by assumption)
  · replace zc27 := b2i_t zc27
    refine z_aload_n X 0 dX9_faultOf_19 rfl ?_
    refine z_get X fl_X9_22_9 dX9_faultOf_20 zK23 rfl ?_
    refine z_aload_n X 1 dX9_faultOf_23 rfl ?_
    refine z_get X fl_X9_32_6 dX9_faultOf_24 zK25 rfl ?_
    refine z_icmp_ne X 34 dX9_faultOf_27 (by decide) (fun zc28 => ?_) (fun zc28 => ?_)
    · try replace zc28 := mt (nI_eq (a := p'13) (b := nn) (by omega) (by omega)).mpr zc28
      refine z_aload_n X 0 dX9_faultOf_34 rfl ?_
      refine z_get X fl_X9_22_9 dX9_faultOf_35 zK23 rfl ?_
      refine z_iret X E dX9_faultOf_38 (by omega) (by omega) ⟨L'14, nI p'13, some p'13, ?_, ?_, ?_, ?_⟩
      · rfl
      · rw [show nI L'14.length = nI (0 + L'14.length) by rw [Nat.zero_add]]; funext zz; by_cases zq1 : zz = t + 1; (rw [zq1, va_up_self]; exact zK24); by_cases zq0 : zz = t; (rw [zq0, va_up_ne _ _ (show t ≠ t + 1 by omega), va_up_self]; exact zK23); rw [va_up_ne _ _ zq1, va_up_ne _ _ zq0]; rw [ze18, ze8, ze2]; simp only [va_up, if_neg zq0, if_neg zq1]
      · rfl
      · first | exact hFa.1 (by assumption) | exact hFa.2.1 (by assumption) (by assumption)
    · try replace zc28 := (nI_eq (a := p'13) (b := nn) (by omega) (by omega)).mp zc28
      refine z_iconst (v := -1) X dX9_faultOf_30 (by decide) ?_
      refine z_goto X 38 dX9_faultOf_31 (by decide) ?_
      refine z_iret X E dX9_faultOf_38 (by omega) (by omega) ⟨L'14, nI p'13, none, ?_, ?_, ?_, ?_⟩
      · rfl
      · rw [show nI L'14.length = nI (0 + L'14.length) by rw [Nat.zero_add]]; funext zz; by_cases zq1 : zz = t + 1; (rw [zq1, va_up_self]; exact zK24); by_cases zq0 : zz = t; (rw [zq0, va_up_ne _ _ (show t ≠ t + 1 by omega), va_up_self]; exact zK23); rw [va_up_ne _ _ zq1, va_up_ne _ _ zq0]; rw [ze18, ze8, ze2]; simp only [va_up, if_neg zq0, if_neg zq1]
      · rfl
      · exact hFa.2.2 (by assumption) (by assumption)
set_option maxHeartbeats 4000000 in
set_option maxRecDepth 100000 in
theorem t_init {κ : Wc} {l : Launch} {h : Mm} {t : Nat} (K0 : h t = some (.inr (9, [.null, .null, .int 0, .int 0, .int 0])))  : Con κ l yX9_init cX9_init 1 none 2 2 100 [.ref t] h (t + 1) (fun q h' n' => q = none ∧ h' = va_up (va_up (va_up h t (some (.inr (9, [.ref (t + 1), .ref (t + 2), .int 0, .int 0, .int 0])))) (t + 1) (arI κ 50 (fun _ => 0))) (t + 2) (arI κ 50 (fun _ => 0)) ∧ n' = t + 3) := by
  refine Con.of mk_X9_init (Nat.le_of_ble_eq_true rfl) (fun G hG X E => ?_)
  subst hG
  refine z_ls (ls' := [(0, .ref t)]) rfl ?_
  refine z_aload_n X 0 dX9_init_0 rfl ?_
  refine z_objInit X dX9_init_1 wd_512 wd_80 wd_81 (Nat.le_of_ble_eq_true rfl) (Nat.le_of_ble_eq_true rfl) ?_
  refine z_aload_n X 0 dX9_init_4 rfl ?_
  refine z_bipush (v := 50) X dX9_init_5 (by decide) ?_
  refine z_newa (N := 50) X dX9_init_7 wd_165 (by decide) (by decide) (by omega) (by omega) (by omega) ?_
  obtain ⟨zh1, ze2⟩ : ∃ z : Mm, z = va_up h (t + 1) (arI κ 50 (fun _ => 0)) := ⟨_, rfl⟩
  refine z_heap (h' := zh1) ze2.symm ?_
  have zK3 := up_off ze2 (show t ≠ t + 1 by omega) K0
  have zK4 := up_at ze2
  refine z_putF X E fp_X9_9_9 dX9_init_9 zK3 (by first | rfl | decide) (by first | rfl | decide) (Nat.le_of_ble_eq_true rfl) rfl ?_
  obtain ⟨zh5, ze6⟩ : ∃ z : Mm, z = va_up zh1 t (some (.inr (9, [.ref (t + 1), .null, .int 0, .int 0, .int 0]))) := ⟨_, rfl⟩
  refine z_heap (h' := zh5) ze6.symm ?_
  have zK7 := up_at ze6
  have zK8 := up_off ze6 (show t + 1 ≠ t by omega) zK4
  refine z_aload_n X 0 dX9_init_12 rfl ?_
  refine z_bipush (v := 50) X dX9_init_13 (by decide) ?_
  refine z_newa (N := 50) X dX9_init_15 wd_165 (by decide) (by decide) (by omega) (by omega) (by omega) ?_
  obtain ⟨zh9, ze10⟩ : ∃ z : Mm, z = va_up zh5 (t + 2) (arI κ 50 (fun _ => 0)) := ⟨_, rfl⟩
  refine z_heap (h' := zh9) ze10.symm ?_
  have zK11 := up_off ze10 (show t ≠ t + 2 by omega) zK7
  have zK12 := up_off ze10 (show t + 1 ≠ t + 2 by omega) zK8
  have zK13 := up_at ze10
  refine z_putF X E fp_X9_15_9 dX9_init_17 zK11 (by first | rfl | decide) (by first | rfl | decide) (Nat.le_of_ble_eq_true rfl) rfl ?_
  obtain ⟨zh14, ze15⟩ : ∃ z : Mm, z = va_up zh9 t (some (.inr (9, [.ref (t + 1), .ref (t + 2), .int 0, .int 0, .int 0]))) := ⟨_, rfl⟩
  refine z_heap (h' := zh14) ze15.symm ?_
  have zK16 := up_at ze15
  have zK17 := up_off ze15 (show t + 1 ≠ t by omega) zK12
  have zK18 := up_off ze15 (show t + 2 ≠ t by omega) zK13
  refine z_aload_n X 0 dX9_init_20 rfl ?_
  refine z_iconst (v := 0) X dX9_init_21 (by decide) ?_
  refine z_put X fp_X9_18_9 dX9_init_22 zK16 (by first | rfl | decide) (by first | rfl | decide) (Nat.le_of_ble_eq_true rfl) rfl ?_
  obtain ⟨zh19, ze20⟩ : ∃ z : Mm, z = va_up zh14 t (some (.inr (9, [.ref (t + 1), .ref (t + 2), .int 0, .int 0, .int 0]))) := ⟨_, rfl⟩
  refine z_heap (h' := zh19) ze20.symm ?_
  have zK21 := up_at ze20
  have zK22 := up_off ze20 (show t + 1 ≠ t by omega) zK17
  have zK23 := up_off ze20 (show t + 2 ≠ t by omega) zK18
  refine z_aload_n X 0 dX9_init_25 rfl ?_
  refine z_iconst (v := 0) X dX9_init_26 (by decide) ?_
  refine z_put X fp_X9_22_9 dX9_init_27 zK21 (by first | rfl | decide) (by first | rfl | decide) (Nat.le_of_ble_eq_true rfl) rfl ?_
  obtain ⟨zh24, ze25⟩ : ∃ z : Mm, z = va_up zh19 t (some (.inr (9, [.ref (t + 1), .ref (t + 2), .int 0, .int 0, .int 0]))) := ⟨_, rfl⟩
  refine z_heap (h' := zh24) ze25.symm ?_
  have zK26 := up_at ze25
  have zK27 := up_off ze25 (show t + 1 ≠ t by omega) zK22
  have zK28 := up_off ze25 (show t + 2 ≠ t by omega) zK23
  refine z_aload_n X 0 dX9_init_30 rfl ?_
  refine z_iconst (v := 0) X dX9_init_31 (by decide) ?_
  refine z_put X fp_X9_25_9 dX9_init_32 zK26 (by first | rfl | decide) (by first | rfl | decide) (Nat.le_of_ble_eq_true rfl) rfl ?_
  obtain ⟨zh29, ze30⟩ : ∃ z : Mm, z = va_up zh24 t (some (.inr (9, [.ref (t + 1), .ref (t + 2), .int 0, .int 0, .int 0]))) := ⟨_, rfl⟩
  refine z_heap (h' := zh29) ze30.symm ?_
  have zK31 := up_at ze30
  have zK32 := up_off ze30 (show t + 1 ≠ t by omega) zK27
  have zK33 := up_off ze30 (show t + 2 ≠ t by omega) zK28
  refine z_vret X E dX9_init_35 (by omega) (by omega) ⟨?_, ?_, ?_⟩
  · rfl
  · funext zz; by_cases zq2 : zz = t + 2; (rw [zq2, va_up_self]; exact zK33); by_cases zq1 : zz = t + 1; (rw [zq1, va_up_ne _ _ (show t + 1 ≠ t + 2 by omega), va_up_self]; exact zK32); by_cases zq0 : zz = t; (rw [zq0, va_up_ne _ _ (show t ≠ t + 2 by omega), va_up_ne _ _ (show t ≠ t + 1 by omega), va_up_self]; exact zK31); rw [va_up_ne _ _ zq2, va_up_ne _ _ zq1, va_up_ne _ _ zq0]; rw [ze30, ze25, ze20, ze15, ze10, ze6, ze2]; simp only [va_up, if_neg zq0, if_neg zq1, if_neg zq2]
  · rfl
/-- at a lies a text that gives what the reference works out of these bytes -/
def TxO (κ : Wc) (h : Mm) (a : Nat) (b : Nat → Int32) (nn : Nat) : Prop := ∃ (L : List Int32) (st sk : Nat → Int32) (pl tp : Int32), h a = oText a (nI L.length) pl tp ∧ h (a + 1) = arI κ 50 (wrs st 0 L) ∧ h (a + 2) = arI κ 50 sk ∧ L.length ≤ 50 ∧ (∀ x, x ∈ L → okS x) ∧ ∀ nm : Nat → Int32, Good nm L (wkE b nn nm).1
theorem okS_at {L : List Int32} (h : ∀ x, x ∈ L → okS x) : ∀ j, j < L.length → okS (L.getD j 0) := by
  intro j hj
  rw [show L.getD j 0 = L[j] by simp [List.getD, hj]]
  exact h _ (List.getElem_mem hj)
/-- from zb on: causes stay, texts stay texts of their bytes -/
def Zr (κ : Wc) (zb : Nat) (h h' : Mm) : Prop := (∀ (q : Nat) (v : Nat × List Value), zb ≤ q → h q = some (.inr v) → v.1 ≠ 9 → h' q = some (.inr v)) ∧ ∀ (a : Nat) (b : Nat → Int32) (nn : Nat), zb ≤ a → TxO κ h a b nn → TxO κ h' a b nn
theorem Zr.refl {κ : Wc} {zb : Nat} {h : Mm} : Zr κ zb h h := ⟨fun q v _ e _ => e, fun a b nn _ e => e⟩
theorem Zr.trans {κ : Wc} {zb : Nat} {h h1 h2 : Mm} (x : Zr κ zb h h1) (y : Zr κ zb h1 h2) : Zr κ zb h h2 := ⟨fun q v e1 e2 e3 => y.1 q v e1 (x.1 q v e1 e2 e3) e3, fun a b nn e1 e2 => y.2 a b nn e1 (x.2 a b nn e1 e2)⟩
theorem Zr.same {κ : Wc} {zb : Nat} {h h1 : Mm} (e : ∀ q, zb ≤ q → h1 q = h q) : Zr κ zb h h1 := by
  refine ⟨fun q v e1 e2 _ => (e q e1).trans e2, fun a b nn e1 ⟨L, st, sk, pl, tp, k1, k2, k3, k4⟩ => ⟨L, st, sk, pl, tp, ?_, ?_, ?_, k4⟩⟩
  · rw [e a e1]; exact k1
  · rw [e (a + 1) (by omega)]; exact k2
  · rw [e (a + 2) (by omega)]; exact k3
theorem Zr.agree {κ : Wc} {zb n : Nat} {h0 h h1 : Mm} (hlt : ∀ (a : Nat) (c : va_E), h0 a = some c → a < n) (e : ∀ q, zb ≤ q → q < n → h1 q = h q) (z : Zr κ zb h0 h) : Zr κ zb h0 h1 := by
  refine ⟨fun q v e1 e2 e3 => (e q e1 (hlt q _ e2)).trans (z.1 q v e1 e2 e3), fun a b nn e1 e2 => ?_⟩
  obtain ⟨L0, st0, sk0, pl0, tp0, j1, j2, j3, -⟩ := id e2
  obtain ⟨L, st, sk, pl, tp, k1, k2, k3, k4⟩ := z.2 a b nn e1 e2
  refine ⟨L, st, sk, pl, tp, ?_, ?_, ?_, k4⟩
  · rw [e a e1 (hlt _ _ j1)]; exact k1
  · rw [e (a + 1) (by omega) (hlt _ _ j2)]; exact k2
  · rw [e (a + 2) (by omega) (hlt _ _ j3)]; exact k3
theorem Zr.text {κ : Wc} {zb a : Nat} {h h1 : Mm} {sz pl tp tp2 : Int32} {sk sk2 : Nat → Int32} {x : vp_A} {cA : ClassId} (k0 : h a = oText a sz pl tp) (k1 : h (a + 1) = some (.inl (cA, x))) (k2 : h (a + 2) = arI κ 50 sk) (e : h1 = va_up (va_up h a (oText a sz pl tp2)) (a + 2) (arI κ 50 sk2)) : Zr κ zb h h1 := by
  have off : ∀ q, q ≠ a → q ≠ a + 2 → h1 q = h q := fun q e1 e2 => by rw [e, va_up_ne _ _ e2, va_up_ne _ _ e1]
  refine ⟨fun q v e1 e2 e3 => ?_, fun a2 b nn e1 ⟨L, st, sk3, pl3, tp3, j1, j2, j3, j4⟩ => ?_⟩
  · by_cases h1 : q = a
    · subst h1
      rw [k0] at e2
      cases e2
      exact absurd rfl e3
    · by_cases h2 : q = a + 2
      · subst h2
        rw [k2] at e2
        cases e2
      · rw [off q h1 h2]; exact e2
  · by_cases h2 : a2 = a
    · subst h2
      rw [k0] at j1
      cases j1
      refine ⟨L, st, sk2, pl, tp2, ?_, ?_, ?_, j4⟩
      · rw [e, va_up_ne _ _ (by omega)]; exact va_up_self _ _ _
      · rw [off _ (by omega) (by omega)]; exact j2
      · rw [e]; exact va_up_self _ _ _
    · have n1 : a2 ≠ a + 2 := fun q => by rw [q, k2] at j1; cases j1
      have n2 : a2 + 1 ≠ a := fun q => by rw [q, k0] at j2; cases j2
      have n3 : a2 + 1 ≠ a + 2 := fun q => by
        have : a2 = a + 1 := by omega
        rw [this, k1] at j1; cases j1
      have n4 : a2 + 2 ≠ a := fun q => by rw [q, k0] at j3; cases j3
      refine ⟨L, st, sk3, pl3, tp3, ?_, ?_, ?_, j4⟩
      · rw [off _ h2 n1]; exact j1
      · rw [off _ n2 n3]; exact j2
      · rw [off _ n4 (by omega)]; exact j3
/-- the texts of an icicle's uses -/
def TsO (κ : Wc) (zb : Nat) (h : Mm) (ts : Nat → Option Nat) (T : Nat → Nat → Int32) (tx : Nat → Nat) : Prop := ∀ u, u < 2 → (tx u = 0 ∧ ts u = none) ∨ (¬ tx u = 0 ∧ ∃ a, zb ≤ a ∧ ts u = some a ∧ TxO κ h a (T u) (tx u))
theorem TsO.mono {κ : Wc} {zb : Nat} {h h1 : Mm} {ts : Nat → Option Nat} {T : Nat → Nat → Int32} {tx : Nat → Nat} (z : Zr κ zb h h1) (H : TsO κ zb h ts T tx) : TsO κ zb h1 ts T tx := by
  intro u hu
  rcases H u hu with h0 | ⟨h0, a, e1, e2, e3⟩
  · exact Or.inl h0
  · exact Or.inr ⟨h0, a, e1, e2, z.2 a _ _ e1 e3⟩
def stLo (u : Nat) : Int32 := if u = 0 then 0 else -50
def stHi (u : Nat) : Int32 := if u = 0 then 9999 else 99
/-- what a use gives, held; w0: without a text -/
def gvn (T : Nat → Nat → Int32) (tx : Nat → Nat) (u : Nat) (t w c w0 : Int32) : Int32 := held (gv T tx u t w c w0) (stLo u) (stHi u)
theorem held_mm {v lo hi : Int32} (h : lo ≤ hi) : (if lo < (if hi < v then hi else v) then (if hi < v then hi else v) else lo) = held v lo hi := by
  unfold held
  rw [i_le] at h
  by_cases h1 : hi < v
  · rw [if_pos h1]
    rw [i_lt] at h1
    rw [if_neg (show ¬ v < lo by rw [i_lt]; omega)]
    by_cases h2 : lo < hi
    · rw [if_pos h2]
    · rw [if_neg h2, i_eq]; rw [i_lt] at h2; omega
  · rw [if_neg h1]
    by_cases h2 : lo < v
    · rw [if_pos h2, if_neg (show ¬ v < lo by rw [i_lt] at *; omega)]
    · rw [if_neg h2]
      by_cases h3 : v < lo
      · rw [if_pos h3]
      · rw [if_neg h3, i_eq]; rw [i_lt] at *; omega
theorem held_in {v lo hi : Int32} (h1 : lo ≤ v) (h2 : v ≤ hi) : held v lo hi = v := by
  unfold held
  rw [if_neg (Int32.not_lt.mpr h1), if_neg (Int32.not_lt.mpr h2)]
set_option maxHeartbeats 4000000 in
set_option maxRecDepth 100000 in
theorem c_given_0 {κ : Wc} {l : Launch} {h : Mm} {n : Nat} {i : Nat} {m : Nat → Int32} {zb : Nat} {ts : Nat → Option Nat} {T : Nat → Nat → Int32} {tx : Nat → Nat} {len : Int32} {now : Int32} {dd : Int32} {dr : Int32} {cc : Int32} {on : Int32} {cold : Int32} {wind : Int32} {t : Int32} {w : Int32} {c : Int32} (K0 : h i = some (.inr (2, [.ref (i + 1), .ref (i + 2), .ref (i + 3), .ref (i + 4), .ref (i + 5), .int len, .int now, .int dd, .int dr, .int cc, .int on, .int cold, .int wind]))) (K1 : h (i + 3) = arI κ 6 (win 4 6 m)) (K2 : h (i + 5) = arR κ 2 2 ts) (hz : i + 5 < zb) (hTs : TsO κ zb h ts T tx) (hs1 : 0 ≤ m 4) (hs2 : m 4 ≤ 9999) : Con κ l yX2_given cX2_given 7 (some .int) 4 0 0 [.ref i, .int 0, .int t, .int w, .int c] h n (fun q h' n' => q = some (.int (gvn T tx 0 t w c (m 4))) ∧ n' = n ∧ (∀ zq : Nat, zq < zb → h' zq = h zq) ∧ Zr κ zb h h') := by
  refine Con.of mk_X2_given (Nat.le_of_ble_eq_true rfl) (fun G hG X E => ?_)
  subst hG
  refine z_ls (ls' := [(0, .ref i), (1, .int 0), (2, .int t), (3, .int w), (4, .int c)]) rfl ?_
  refine z_iload_n X 1 dX2_given_0 rfl ?_
  refine z_iconst (v := 0) X dX2_given_1 (by decide) ?_
  refine z_iconst (v := 1) X dX2_given_2 (by decide) ?_
  refine z_callSN (host := "IcicleRings") X (c_within (κ := κ) (n := n) (v := (0)) (lo := (0)) (hi := (1))  ) mk_X11_within dX2_given_3 (by decide +kernel) wd_257 rfl rfl (Nat.le_of_ble_eq_true rfl) (Nat.le_of_ble_eq_true rfl) (Nat.le_of_ble_eq_true rfl) (by omega) (by omega) (fun q zh1 zm3 zp4 => ?_)
  obtain ⟨rfl, ze2, zn5⟩ := zp4
  subst zm3
  subst zh1
  refine z_st (st' := [.int (b2i ((0 : Int32).toInt ≤ (0 : Int32).toInt ∧ (0 : Int32).toInt ≤ (1 : Int32).toInt))]) rfl ?_
  refine z_toe (y := b2i ((0 : Int) ≤ 0 ∧ (0 : Int) ≤ 1)) (by simp only [show (0 : Int32).toInt = 0 by decide, show (1 : Int32).toInt = 1 by decide]) ?_
  refine z_if_ne X 11 dX2_given_6 (by decide) (fun zc6 => ?_) (fun zc6 => ?_)
  · replace zc6 := b2i_t zc6
    refine z_getsN (host := "IcicleRings") X 3 rfl dX2_given_11 (by decide +kernel) ?_
    refine z_iload_n X 1 dX2_given_14 rfl ?_
    refine z_ti (v := .int 0) X 3 rfl dX2_given_15 (vp_in_nI (n := 0) (by decide) (by decide)) (rfl) ?_
    refine z_istore (ls' := [(5, .int 0), (0, .ref i), (1, .int 0), (2, .int t), (3, .int w), (4, .int c)]) X dX2_given_16 (by decide) rfl ?_
    refine z_aload_n X 1 dX2_given_18 rfl ?_
    refine z_get X fl_X2_29_2 dX2_given_19 K0 rfl ?_
    refine z_iload_n X 2 dX2_given_22 rfl ?_
    rcases hTs 0 (by decide) with ⟨h0, hts⟩ | ⟨h0, a, ha, hts, L, st, sk, pl, tp, k0, k1, k2, k3, k4, k5⟩
    · skip
      refine z_aald (t := 2) (v := .null) X dX2_given_23 K2 rfl (vp_in_nI (n := 0) (by decide) (by decide)) (by rw [show ((0 : Int32)).toNatClampNeg = 0 from rfl, hts]; rfl) ?_
      refine z_astoreN (ls' := [(6, .null), (5, .int 0), (0, .ref i), (1, .int 0), (2, .int t), (3, .int w), (4, .int c)]) X dX2_given_24 (by decide) rfl ?_
      refine z_aloadN X 0 dX2_given_26 rfl ?_
      refine z_ifnonnullN X dX2_given_28 ?_
      refine z_aload_n X 2 dX2_given_31 rfl ?_
      refine z_get X fl_X2_18_2 dX2_given_32 K0 rfl ?_
      refine z_iload X 1 dX2_given_35 rfl ?_
      refine z_iald2 (v := m 4) X dX2_given_37 K1 (vp_in_nI (n := 0) (by omega) (by omega)) ((congrArg (win 4 6 m) (nI_clamp (n := 0) (by omega))).trans (win_at (k := 0) (by omega))) ?_
      refine z_iret X E dX2_given_38 (by omega) (by omega) ⟨?_, ?_, ?_, ?_⟩
      · rw [gvn, gv, if_pos h0, show stLo 0 = 0 from rfl, show stHi 0 = 9999 from rfl, held_in hs1 hs2]
      · rfl
      · exact fun zq hzq  => rfl
      · exact Zr.refl
    · skip
      refine z_aald (t := 2) (v := .ref a) X dX2_given_23 K2 rfl (vp_in_nI (n := 0) (by decide) (by decide)) (by rw [show ((0 : Int32)).toNatClampNeg = 0 from rfl, hts]; rfl) ?_
      refine z_astore (ls' := [(6, .ref a), (5, .int 0), (0, .ref i), (1, .int 0), (2, .int t), (3, .int w), (4, .int c)]) X dX2_given_24 (by decide) rfl ?_
      refine z_aload X 0 dX2_given_26 rfl ?_
      refine z_ifnonnull X 39 dX2_given_28 (by decide) ?_
      refine z_getsN (host := "IcicleRings") X 0 rfl dX2_given_39 (by decide +kernel) ?_
      refine z_iload X 1 dX2_given_42 rfl ?_
      refine z_ti (v := .int 0) X 0 rfl dX2_given_44 (vp_in_nI (n := 0) (by decide) (by decide)) (rfl) ?_
      refine z_aload X 0 dX2_given_45 rfl ?_
      refine z_iload_n X 4 dX2_given_47 rfl ?_
      refine z_iload_n X 5 dX2_given_48 rfl ?_
      refine z_iload X 6 dX2_given_49 rfl ?_
      refine z_callV X (t_value (κ := κ) (n := n) (t := (a)) (L := (L)) (st := (st)) (sk := (sk)) (pl := (pl)) (tp := (tp)) (x := (t)) (y := (w)) (z := (c)) (v := ((wkE (T 0) (tx 0) (nm3 t w c)).1)) k0 k1 k2 (k3) (okS_at k4) (k5 _)) mk_X9_value dX2_given_51 wd_447 wd_448 wd_449 rfl k0 rfl rfl rfl (Nat.le_of_ble_eq_true rfl) (Nat.le_of_ble_eq_true rfl) (Nat.le_of_ble_eq_true rfl) (by omega) (by omega) (fun q zh9 zm11 zp12 => ?_)
      obtain ⟨tp'7, sk'8, rfl, ze10, zn13⟩ := zp12
      subst zm11
      refine z_st (st' := [.int (((wkE (T 0) (tx 0) (nm3 t w c)).1)), .int 0]) rfl ?_
      have zK14 : zh9 i = some (.inr (2, [.ref (i + 1), .ref (i + 2), .ref (i + 3), .ref (i + 4), .ref (i + 5), .int len, .int now, .int dd, .int dr, .int cc, .int on, .int cold, .int wind])) := by rw [ze10]; rw [va_up_ne _ _ (show i ≠ a + 2 by omega)]; rw [va_up_ne _ _ (show i ≠ a by omega)]; exact K0
      have zK15 : zh9 (i + 3) = arI κ 6 (win 4 6 m) := by rw [ze10]; rw [va_up_ne _ _ (show i + 3 ≠ a + 2 by omega)]; rw [va_up_ne _ _ (show i + 3 ≠ a by omega)]; exact K1
      have zK16 : zh9 (i + 5) = arR κ 2 2 ts := by rw [ze10]; rw [va_up_ne _ _ (show i + 5 ≠ a + 2 by omega)]; rw [va_up_ne _ _ (show i + 5 ≠ a by omega)]; exact K2
      have zK17 : zh9 a = some (.inr (9, [.ref (a + 1), .ref (a + 2), .int (nI (L : List Int32).length), .int pl, .int tp'7])) := by rw [ze10]; rw [va_up_ne _ _ (show a ≠ a + 2 by omega)]; exact va_up_self _ _ _
      have zK18 : zh9 (a + 1) = arI κ 50 (wrs st 0 L) := by rw [ze10]; rw [va_up_ne _ _ (show a + 1 ≠ a + 2 by omega)]; rw [va_up_ne _ _ (show a + 1 ≠ a by omega)]; exact k1
      have zK19 : zh9 (a + 2) = arI κ 50 sk'8 := by rw [ze10]; exact va_up_self _ _ _
      have zl20 : ∀ zq : Nat, zq < zb → zh9 zq = h zq := by intro zq hzq ; rw [ze10, va_up_ne _ _ (show zq ≠ a + 2 by omega), va_up_ne _ _ (show zq ≠ a by omega)]; try rfl
      have zr21 : Zr κ zb h zh9 := (Zr.refl).trans (Zr.text k0 k1 k2 ze10)
      refine z_getsN (host := "IcicleRings") X 1 rfl dX2_given_54 (by decide +kernel) ?_
      refine z_iload X 1 dX2_given_57 rfl ?_
      refine z_ti (v := .int 9999) X 1 rfl dX2_given_59 (vp_in_nI (n := 0) (by decide) (by decide)) (rfl) ?_
      refine z_mmin X dX2_given_60 wd_464 wd_296 wd_63 wd_297 (Nat.le_of_ble_eq_true rfl) (Nat.le_of_ble_eq_true rfl) (Nat.le_of_ble_eq_true rfl) (Nat.le_of_ble_eq_true rfl) ?_
      refine z_mmax X dX2_given_63 wd_465 wd_173 wd_63 wd_174 (Nat.le_of_ble_eq_true rfl) (Nat.le_of_ble_eq_true rfl) (Nat.le_of_ble_eq_true rfl) (Nat.le_of_ble_eq_true rfl) ?_
      refine z_iret X E dX2_given_66 (by omega) (by omega) ⟨?_, ?_, ?_, ?_⟩
      · rw [gvn, gv, if_neg h0, show stLo 0 = 0 from rfl, show stHi 0 = 9999 from rfl, ← held_mm (by decide)]
      · rfl
      · exact fun zq hzq  => zl20 zq hzq 
      · exact zr21
  · replace zc6 := b2i_f zc6
    exact absurd (by decide) zc6
set_option maxHeartbeats 4000000 in
set_option maxRecDepth 100000 in
theorem c_given_1 {κ : Wc} {l : Launch} {h : Mm} {n : Nat} {i : Nat} {m : Nat → Int32} {zb : Nat} {ts : Nat → Option Nat} {T : Nat → Nat → Int32} {tx : Nat → Nat} {len : Int32} {now : Int32} {dd : Int32} {dr : Int32} {cc : Int32} {on : Int32} {cold : Int32} {wind : Int32} {t : Int32} {w : Int32} {c : Int32} (K0 : h i = some (.inr (2, [.ref (i + 1), .ref (i + 2), .ref (i + 3), .ref (i + 4), .ref (i + 5), .int len, .int now, .int dd, .int dr, .int cc, .int on, .int cold, .int wind]))) (K1 : h (i + 3) = arI κ 6 (win 4 6 m)) (K2 : h (i + 5) = arR κ 2 2 ts) (hz : i + 5 < zb) (hTs : TsO κ zb h ts T tx) (hs1 : (-50) ≤ m 6) (hs2 : m 6 ≤ 99) : Con κ l yX2_given cX2_given 7 (some .int) 4 0 0 [.ref i, .int 1, .int t, .int w, .int c] h n (fun q h' n' => q = some (.int (gvn T tx 1 t w c (m 6))) ∧ n' = n ∧ (∀ zq : Nat, zq < zb → h' zq = h zq) ∧ Zr κ zb h h') := by
  refine Con.of mk_X2_given (Nat.le_of_ble_eq_true rfl) (fun G hG X E => ?_)
  subst hG
  refine z_ls (ls' := [(0, .ref i), (1, .int 1), (2, .int t), (3, .int w), (4, .int c)]) rfl ?_
  refine z_iload_n X 1 dX2_given_0 rfl ?_
  refine z_iconst (v := 0) X dX2_given_1 (by decide) ?_
  refine z_iconst (v := 1) X dX2_given_2 (by decide) ?_
  refine z_callSN (host := "IcicleRings") X (c_within (κ := κ) (n := n) (v := (1)) (lo := (0)) (hi := (1))  ) mk_X11_within dX2_given_3 (by decide +kernel) wd_257 rfl rfl (Nat.le_of_ble_eq_true rfl) (Nat.le_of_ble_eq_true rfl) (Nat.le_of_ble_eq_true rfl) (by omega) (by omega) (fun q zh1 zm3 zp4 => ?_)
  obtain ⟨rfl, ze2, zn5⟩ := zp4
  subst zm3
  subst zh1
  refine z_st (st' := [.int (b2i ((0 : Int32).toInt ≤ (1 : Int32).toInt ∧ (1 : Int32).toInt ≤ (1 : Int32).toInt))]) rfl ?_
  refine z_toe (y := b2i ((0 : Int) ≤ 1 ∧ (1 : Int) ≤ 1)) (by simp only [show (0 : Int32).toInt = 0 by decide, show (1 : Int32).toInt = 1 by decide]) ?_
  refine z_if_ne X 11 dX2_given_6 (by decide) (fun zc6 => ?_) (fun zc6 => ?_)
  · replace zc6 := b2i_t zc6
    refine z_getsN (host := "IcicleRings") X 3 rfl dX2_given_11 (by decide +kernel) ?_
    refine z_iload_n X 1 dX2_given_14 rfl ?_
    refine z_ti (v := .int 2) X 3 rfl dX2_given_15 (vp_in_nI (n := 1) (by decide) (by decide)) (rfl) ?_
    refine z_istore (ls' := [(5, .int 2), (0, .ref i), (1, .int 1), (2, .int t), (3, .int w), (4, .int c)]) X dX2_given_16 (by decide) rfl ?_
    refine z_aload_n X 1 dX2_given_18 rfl ?_
    refine z_get X fl_X2_29_2 dX2_given_19 K0 rfl ?_
    refine z_iload_n X 2 dX2_given_22 rfl ?_
    rcases hTs 1 (by decide) with ⟨h0, hts⟩ | ⟨h0, a, ha, hts, L, st, sk, pl, tp, k0, k1, k2, k3, k4, k5⟩
    · skip
      refine z_aald (t := 2) (v := .null) X dX2_given_23 K2 rfl (vp_in_nI (n := 1) (by decide) (by decide)) (by rw [show ((1 : Int32)).toNatClampNeg = 1 from rfl, hts]; rfl) ?_
      refine z_astoreN (ls' := [(6, .null), (5, .int 2), (0, .ref i), (1, .int 1), (2, .int t), (3, .int w), (4, .int c)]) X dX2_given_24 (by decide) rfl ?_
      refine z_aloadN X 0 dX2_given_26 rfl ?_
      refine z_ifnonnullN X dX2_given_28 ?_
      refine z_aload_n X 2 dX2_given_31 rfl ?_
      refine z_get X fl_X2_18_2 dX2_given_32 K0 rfl ?_
      refine z_iload X 1 dX2_given_35 rfl ?_
      refine z_iald2 (v := m 6) X dX2_given_37 K1 (vp_in_nI (n := 2) (by omega) (by omega)) ((congrArg (win 4 6 m) (nI_clamp (n := 2) (by omega))).trans (win_at (k := 2) (by omega))) ?_
      refine z_iret X E dX2_given_38 (by omega) (by omega) ⟨?_, ?_, ?_, ?_⟩
      · rw [gvn, gv, if_pos h0, show stLo 1 = (-50) from rfl, show stHi 1 = 99 from rfl, held_in hs1 hs2]
      · rfl
      · exact fun zq hzq  => rfl
      · exact Zr.refl
    · skip
      refine z_aald (t := 2) (v := .ref a) X dX2_given_23 K2 rfl (vp_in_nI (n := 1) (by decide) (by decide)) (by rw [show ((1 : Int32)).toNatClampNeg = 1 from rfl, hts]; rfl) ?_
      refine z_astore (ls' := [(6, .ref a), (5, .int 2), (0, .ref i), (1, .int 1), (2, .int t), (3, .int w), (4, .int c)]) X dX2_given_24 (by decide) rfl ?_
      refine z_aload X 0 dX2_given_26 rfl ?_
      refine z_ifnonnull X 39 dX2_given_28 (by decide) ?_
      refine z_getsN (host := "IcicleRings") X 0 rfl dX2_given_39 (by decide +kernel) ?_
      refine z_iload X 1 dX2_given_42 rfl ?_
      refine z_ti (v := .int ((-50))) X 0 rfl dX2_given_44 (vp_in_nI (n := 2) (by decide) (by decide)) (rfl) ?_
      refine z_aload X 0 dX2_given_45 rfl ?_
      refine z_iload_n X 4 dX2_given_47 rfl ?_
      refine z_iload_n X 5 dX2_given_48 rfl ?_
      refine z_iload X 6 dX2_given_49 rfl ?_
      refine z_callV X (t_value (κ := κ) (n := n) (t := (a)) (L := (L)) (st := (st)) (sk := (sk)) (pl := (pl)) (tp := (tp)) (x := (t)) (y := (w)) (z := (c)) (v := ((wkE (T 1) (tx 1) (nm3 t w c)).1)) k0 k1 k2 (k3) (okS_at k4) (k5 _)) mk_X9_value dX2_given_51 wd_447 wd_448 wd_449 rfl k0 rfl rfl rfl (Nat.le_of_ble_eq_true rfl) (Nat.le_of_ble_eq_true rfl) (Nat.le_of_ble_eq_true rfl) (by omega) (by omega) (fun q zh9 zm11 zp12 => ?_)
      obtain ⟨tp'7, sk'8, rfl, ze10, zn13⟩ := zp12
      subst zm11
      refine z_st (st' := [.int (((wkE (T 1) (tx 1) (nm3 t w c)).1)), .int ((-50))]) rfl ?_
      have zK14 : zh9 i = some (.inr (2, [.ref (i + 1), .ref (i + 2), .ref (i + 3), .ref (i + 4), .ref (i + 5), .int len, .int now, .int dd, .int dr, .int cc, .int on, .int cold, .int wind])) := by rw [ze10]; rw [va_up_ne _ _ (show i ≠ a + 2 by omega)]; rw [va_up_ne _ _ (show i ≠ a by omega)]; exact K0
      have zK15 : zh9 (i + 3) = arI κ 6 (win 4 6 m) := by rw [ze10]; rw [va_up_ne _ _ (show i + 3 ≠ a + 2 by omega)]; rw [va_up_ne _ _ (show i + 3 ≠ a by omega)]; exact K1
      have zK16 : zh9 (i + 5) = arR κ 2 2 ts := by rw [ze10]; rw [va_up_ne _ _ (show i + 5 ≠ a + 2 by omega)]; rw [va_up_ne _ _ (show i + 5 ≠ a by omega)]; exact K2
      have zK17 : zh9 a = some (.inr (9, [.ref (a + 1), .ref (a + 2), .int (nI (L : List Int32).length), .int pl, .int tp'7])) := by rw [ze10]; rw [va_up_ne _ _ (show a ≠ a + 2 by omega)]; exact va_up_self _ _ _
      have zK18 : zh9 (a + 1) = arI κ 50 (wrs st 0 L) := by rw [ze10]; rw [va_up_ne _ _ (show a + 1 ≠ a + 2 by omega)]; rw [va_up_ne _ _ (show a + 1 ≠ a by omega)]; exact k1
      have zK19 : zh9 (a + 2) = arI κ 50 sk'8 := by rw [ze10]; exact va_up_self _ _ _
      have zl20 : ∀ zq : Nat, zq < zb → zh9 zq = h zq := by intro zq hzq ; rw [ze10, va_up_ne _ _ (show zq ≠ a + 2 by omega), va_up_ne _ _ (show zq ≠ a by omega)]; try rfl
      have zr21 : Zr κ zb h zh9 := (Zr.refl).trans (Zr.text k0 k1 k2 ze10)
      refine z_getsN (host := "IcicleRings") X 1 rfl dX2_given_54 (by decide +kernel) ?_
      refine z_iload X 1 dX2_given_57 rfl ?_
      refine z_ti (v := .int 99) X 1 rfl dX2_given_59 (vp_in_nI (n := 2) (by decide) (by decide)) (rfl) ?_
      refine z_mmin X dX2_given_60 wd_464 wd_296 wd_63 wd_297 (Nat.le_of_ble_eq_true rfl) (Nat.le_of_ble_eq_true rfl) (Nat.le_of_ble_eq_true rfl) (Nat.le_of_ble_eq_true rfl) ?_
      refine z_mmax X dX2_given_63 wd_465 wd_173 wd_63 wd_174 (Nat.le_of_ble_eq_true rfl) (Nat.le_of_ble_eq_true rfl) (Nat.le_of_ble_eq_true rfl) (Nat.le_of_ble_eq_true rfl) ?_
      refine z_iret X E dX2_given_66 (by omega) (by omega) ⟨?_, ?_, ?_, ?_⟩
      · rw [gvn, gv, if_neg h0, show stLo 1 = (-50) from rfl, show stHi 1 = 99 from rfl, ← held_mm (by decide)]
      · rfl
      · exact fun zq hzq  => zl20 zq hzq 
      · exact zr21
  · replace zc6 := b2i_f zc6
    exact absurd (by decide) zc6
