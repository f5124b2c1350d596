theorem div3 {nb : Nat} (h : nb ≤ 5) : nI (3 * nb) / 3 = nI nb := by
  have h6 : nb = 0 ∨ nb = 1 ∨ nb = 2 ∨ nb = 3 ∨ nb = 4 ∨ nb = 5 := by omega
  rcases h6 with rfl | rfl | rfl | rfl | rfl | rfl <;> decide
set_option maxHeartbeats 4000000 in
set_option maxRecDepth 100000 in
theorem c_boxCount {κ : Wc} {l : Launch} {h : Mm} {n : Nat} {k : Nat} {z : Int32} {nb : Nat} (K0 : h k = some (.inr (3, [.ref (k + 1), .ref (k + 7), .ref (k + 9), .ref (k + 11), .int z]))) (K1 : h (k + 11) = some (.inr (6, [.ref (k + 11 + 1), .int (nI (3 * nb)), .int 32]))) (p1 : nb ≤ 5) : Con κ l yX3_boxCount cX3_boxCount 1 (some .int) 1 0 0 [.ref k] h n (fun q h' n' => q = some (.int (nI nb)) ∧ h' = h ∧ n' = n) := by
  refine Con.of mk_X3_boxCount (Nat.le_of_ble_eq_true rfl) (fun G hG X E => ?_)
  subst hG
  refine z_ls (ls' := [(0, .ref k)]) rfl ?_
  refine z_aload_n X 0 dX3_boxCount_0 rfl ?_
  refine z_get X fl_X3_30_3 dX3_boxCount_1 K0 rfl ?_
  refine z_get X fl_X3_37_6 dX3_boxCount_4 K1 rfl ?_
  refine z_iconst (v := 3) X dX3_boxCount_7 (by decide) ?_
  refine z_idiv X dX3_boxCount_8 (by decide) ?_
  refine z_iret X E dX3_boxCount_9 (by omega) (by omega) ⟨?_, ?_, ?_⟩
  · rw [div3 p1]
  · first | rfl | (funext zz; simp only [va_up]; (repeat' split) <;> first | rfl | (exfalso; omega) | simp_all)
  · rfl
def drZ (z : Int32) : Int32 := z * 1103515245 + 12345
def drV (z : Int32) : Int32 := ((drZ z).toUInt32 >>> (Int32.toUInt32 8 &&& Int32.toUInt32 31)).toInt32
set_option maxHeartbeats 4000000 in
set_option maxRecDepth 100000 in
theorem c_drawn {κ : Wc} {l : Launch} {h : Mm} {n : Nat} {k : Nat} {zs : Int32} (K0 : h k = some (.inr (3, [.ref (k + 1), .ref (k + 7), .ref (k + 9), .ref (k + 11), .int zs])))  : Con κ l yX3_drawn cX3_drawn 1 (some .int) 1 0 0 [.ref k] h n (fun q h' n' => q = some (.int (drV zs)) ∧ h' = va_up h k (some (.inr (3, [.ref (k + 1), .ref (k + 7), .ref (k + 9), .ref (k + 11), .int (drZ zs)]))) ∧ n' = n) := by
  refine Con.of mk_X3_drawn (Nat.le_of_ble_eq_true rfl) (fun G hG X E => ?_)
  subst hG
  refine z_ls (ls' := [(0, .ref k)]) rfl ?_
  refine z_aload_n X 0 dX3_drawn_0 rfl ?_
  refine z_aload_n X 0 dX3_drawn_1 rfl ?_
  refine z_get X fl_X3_33_3 dX3_drawn_2 K0 rfl ?_
  refine z_ldc X dX3_drawn_5 wd_625 ?_
  refine z_imul X dX3_drawn_7 ?_
  refine z_sipush (v := 12345) X dX3_drawn_8 (by decide) ?_
  refine z_iadd X dX3_drawn_11 ?_
  refine z_put X fp_X3_33_3 dX3_drawn_12 K0 (by first | rfl | decide) (by first | rfl | decide) (Nat.le_of_ble_eq_true rfl) rfl ?_
  obtain ⟨zh1, ze2⟩ : ∃ z : Mm, z = va_up h k (some (.inr (3, [.ref (k + 1), .ref (k + 7), .ref (k + 9), .ref (k + 11), .int ((zs * 1103515245) + 12345)]))) := ⟨_, rfl⟩
  refine z_heap (h' := zh1) ze2.symm ?_
  have zK3 := up_at ze2
  refine z_aload_n X 0 dX3_drawn_15 rfl ?_
  refine z_get X fl_X3_33_3 dX3_drawn_16 zK3 rfl ?_
  refine z_bipush (v := 8) X dX3_drawn_19 (by decide) ?_
  refine z_iushr X dX3_drawn_21 rfl ?_
  refine z_iret X E dX3_drawn_22 (by omega) (by omega) ⟨?_, ?_, ?_⟩
  · rfl
  · funext zz; by_cases zq0 : zz = k; (rw [zq0, va_up_self]; exact zK3); rw [va_up_ne _ _ zq0]; rw [ze2]; simp only [va_up, if_neg zq0]
  · rfl
set_option maxHeartbeats 4000000 in
set_option maxRecDepth 100000 in
theorem c_Kbecome {κ : Wc} {l : Launch} {h : Mm} {n : Nat} {k : Nat} {j : Nat} {zb : Nat} {T : Nat → Nat → Int32} {tx : Nat → Nat} {z : Int32} {len : Int32} {now : Int32} {dd : Int32} {dr : Int32} {cc : Int32} {on : Int32} {cold : Int32} {wind : Int32} {f1 : Nat → Int32} {f2 : Nat → Int32} {f3 : Nat → Int32} {tp : Nat → Int32} {wt : Nat → Int32} {bx : Nat → Int32} {c1 : Nat → Option Nat} {t1 : Nat → Option Nat} {nt : Nat} {nw : Nat} {nx : Nat} {z2 : Int32} {len2 : Int32} {now2 : Int32} {dd2 : Int32} {dr2 : Int32} {cc2 : Int32} {on2 : Int32} {cold2 : Int32} {wind2 : Int32} {f12 : Nat → Int32} {f22 : Nat → Int32} {f32 : Nat → Int32} {tp2 : Nat → Int32} {wt2 : Nat → Int32} {bx2 : Nat → Int32} {c12 : Nat → Option Nat} {t12 : Nat → Option Nat} {nt2 : Nat} {nw2 : Nat} {nx2 : Nat} (K0 : h k = some (.inr (3, [.ref (k + 1), .ref (k + 7), .ref (k + 9), .ref (k + 11), .int z]))) (K1 : h (k + 1) = some (.inr (2, [.ref (k + 2), .ref (k + 3), .ref (k + 4), .ref (k + 5), .ref (k + 6), .int len, .int now, .int dd, .int dr, .int cc, .int on, .int cold, .int wind]))) (K2 : h (k + 2) = arI κ 40 f1) (K3 : h (k + 3) = arI κ 40 f2) (K4 : h (k + 4) = arI κ 6 f3) (K5 : h (k + 5) = arR κ 1 6 c1) (K6 : h (k + 6) = arR κ 2 2 t1) (K7 : h (k + 7) = some (.inr (6, [.ref (k + 7 + 1), .int (nI nt), .int 32]))) (K8 : h (k + 8) = arI κ 50 tp) (K9 : h (k + 9) = some (.inr (6, [.ref (k + 9 + 1), .int (nI nw), .int 32]))) (K10 : h (k + 10) = arI κ 20 wt) (K11 : h (k + 11) = some (.inr (6, [.ref (k + 11 + 1), .int (nI nx), .int 32]))) (K12 : h (k + 12) = arI κ 15 bx) (K13 : h j = some (.inr (3, [.ref (j + 1), .ref (j + 7), .ref (j + 9), .ref (j + 11), .int z2]))) (K14 : h (j + 1) = some (.inr (2, [.ref (j + 2), .ref (j + 3), .ref (j + 4), .ref (j + 5), .ref (j + 6), .int len2, .int now2, .int dd2, .int dr2, .int cc2, .int on2, .int cold2, .int wind2]))) (K15 : h (j + 2) = arI κ 40 f12) (K16 : h (j + 3) = arI κ 40 f22) (K17 : h (j + 4) = arI κ 6 f32) (K18 : h (j + 5) = arR κ 1 6 c12) (K19 : h (j + 6) = arR κ 2 2 t12) (K20 : h (j + 7) = some (.inr (6, [.ref (j + 7 + 1), .int (nI nt2), .int 32]))) (K21 : h (j + 8) = arI κ 50 tp2) (K22 : h (j + 9) = some (.inr (6, [.ref (j + 9 + 1), .int (nI nw2), .int 32]))) (K23 : h (j + 10) = arI κ 20 wt2) (K24 : h (j + 11) = some (.inr (6, [.ref (j + 11 + 1), .int (nI nx2), .int 32]))) (K25 : h (j + 12) = arI κ 15 bx2) (hz : k + 12 < zb) (hzj : j + 12 < zb) (hkj : k + 12 < j ∨ j + 12 < k) (hC : CsA zb h c12) (hTs : TsO κ zb h t12 T tx) (p1 : nt ≤ 50) (p2 : nw ≤ 20) (p3 : nx ≤ 15) (p4 : nt2 ≤ 50) (p5 : nw2 ≤ 20) (p6 : nx2 ≤ 15) : Con κ l yX3_become cX3_become 2 none 4 0 0 [.ref k, .ref j] h n (fun q h' n' => q = none ∧ n' = n ∧ (∀ zq : Nat, zq < zb → zq ≠ k → zq ≠ (k + 1) → zq ≠ (k + 2) → zq ≠ (k + 3) → zq ≠ (k + 4) → zq ≠ (k + 5) → zq ≠ (k + 6) → zq ≠ (k + 7) → zq ≠ (k + 8) → zq ≠ (k + 9) → zq ≠ (k + 10) → zq ≠ (k + 11) → zq ≠ (k + 12) → h' zq = h zq) ∧ Zr κ zb h h' ∧ h' k = some (.inr (3, [.ref (k + 1), .ref (k + 7), .ref (k + 9), .ref (k + 11), .int z2])) ∧ h' (k + 1) = some (.inr (2, [.ref (k + 2), .ref (k + 3), .ref (k + 4), .ref (k + 5), .ref (k + 6), .int len2, .int now2, .int dd2, .int dr2, .int cc2, .int on2, .int cold, .int wind])) ∧ h' (k + 2) = arI κ 40 f12 ∧ h' (k + 3) = arI κ 40 f22 ∧ h' (k + 4) = arI κ 6 f32 ∧ h' (k + 5) = arR κ 1 6 c12 ∧ h' (k + 6) = arR κ 2 2 t12 ∧ h' (k + 7) = some (.inr (6, [.ref (k + 7 + 1), .int (nI nt2), .int 32])) ∧ h' (k + 8) = arI κ 50 (va_cpy tp2 tp 0 0 nt2) ∧ h' (k + 9) = some (.inr (6, [.ref (k + 9 + 1), .int (nI nw2), .int 32])) ∧ h' (k + 10) = arI κ 20 (va_cpy wt2 wt 0 0 nw2) ∧ h' (k + 11) = some (.inr (6, [.ref (k + 11 + 1), .int (nI nx2), .int 32])) ∧ h' (k + 12) = arI κ 15 (va_cpy bx2 bx 0 0 nx2)) := by
  refine Con.of mk_X3_become (Nat.le_of_ble_eq_true rfl) (fun G hG X E => ?_)
  subst hG
  refine z_ls (ls' := [(0, .ref k), (1, .ref j)]) rfl ?_
  refine z_aload_n X 0 dX3_become_0 rfl ?_
  refine z_get X fl_X3_12_3 dX3_become_1 K0 rfl ?_
  refine z_aload_n X 1 dX3_become_4 rfl ?_
  refine z_get X fl_X3_12_3 dX3_become_5 K13 rfl ?_
  refine z_callV X (c_become (κ := κ) (n := n) (i := (k + 1)) (j := (j + 1)) (f1 := (f1)) (f2 := (f2)) (f3 := (f3)) (c1 := (c1)) (t1 := (t1)) (g1 := (f12)) (g2 := (f22)) (g3 := (f32)) (c2 := (c12)) (t2 := (t12)) (T := (T)) (tx := (tx)) (len := (len)) (now := (now)) (dd := (dd)) (dr := (dr)) (cc := (cc)) (on := (on)) (cold := (cold)) (wind := (wind)) (len2 := (len2)) (now2 := (now2)) (dd2 := (dd2)) (dr2 := (dr2)) (cc2 := (cc2)) (on2 := (on2)) (cold2 := (cold2)) (wind2 := (wind2)) K1 K2 K3 K4 K5 K6 K14 K15 K16 K17 K18 K19 (by first | assumption | omega) (by first | assumption | omega) (by first | assumption | omega) (hC) (hTs)) mk_X2_become dX3_become_8 wd_903 wd_666 wd_667 rfl K1 rfl rfl rfl (Nat.le_of_ble_eq_true rfl) (Nat.le_of_ble_eq_true rfl) (Nat.le_of_ble_eq_true rfl) (by omega) (by omega) (fun q zh1 zm3 zp4 => ?_)
  obtain ⟨rfl, zn5, zf6, zr7, zK8, zK9, zK10, zK11, zK12, zK13⟩ := zp4
  subst zm3
  refine z_st (st' := []) rfl ?_
  have zK14 : zh1 k = some (.inr (3, [.ref (k + 1), .ref (k + 7), .ref (k + 9), .ref (k + 11), .int z])) := (zf6 k (by omega) (by omega) (by omega) (by omega) (by omega) (by omega) (by omega)).trans K0
  have zK15 : zh1 (k + 7) = some (.inr (6, [.ref (k + 7 + 1), .int (nI nt), .int 32])) := (zf6 (k + 7) (by omega) (by omega) (by omega) (by omega) (by omega) (by omega) (by omega)).trans K7
  have zK16 : zh1 (k + 8) = arI κ 50 tp := (zf6 (k + 8) (by omega) (by omega) (by omega) (by omega) (by omega) (by omega) (by omega)).trans K8
  have zK17 : zh1 (k + 9) = some (.inr (6, [.ref (k + 9 + 1), .int (nI nw), .int 32])) := (zf6 (k + 9) (by omega) (by omega) (by omega) (by omega) (by omega) (by omega) (by omega)).trans K9
  have zK18 : zh1 (k + 10) = arI κ 20 wt := (zf6 (k + 10) (by omega) (by omega) (by omega) (by omega) (by omega) (by omega) (by omega)).trans K10
  have zK19 : zh1 (k + 11) = some (.inr (6, [.ref (k + 11 + 1), .int (nI nx), .int 32])) := (zf6 (k + 11) (by omega) (by omega) (by omega) (by omega) (by omega) (by omega) (by omega)).trans K11
  have zK20 : zh1 (k + 12) = arI κ 15 bx := (zf6 (k + 12) (by omega) (by omega) (by omega) (by omega) (by omega) (by omega) (by omega)).trans K12
  have zK21 : zh1 j = some (.inr (3, [.ref (j + 1), .ref (j + 7), .ref (j + 9), .ref (j + 11), .int z2])) := (zf6 j (by omega) (by omega) (by omega) (by omega) (by omega) (by omega) (by omega)).trans K13
  have zK22 : zh1 (j + 1) = some (.inr (2, [.ref (j + 2), .ref (j + 3), .ref (j + 4), .ref (j + 5), .ref (j + 6), .int len2, .int now2, .int dd2, .int dr2, .int cc2, .int on2, .int cold2, .int wind2])) := (zf6 (j + 1) (by omega) (by omega) (by omega) (by omega) (by omega) (by omega) (by omega)).trans K14
  have zK23 : zh1 (j + 2) = arI κ 40 f12 := (zf6 (j + 2) (by omega) (by omega) (by omega) (by omega) (by omega) (by omega) (by omega)).trans K15
  have zK24 : zh1 (j + 3) = arI κ 40 f22 := (zf6 (j + 3) (by omega) (by omega) (by omega) (by omega) (by omega) (by omega) (by omega)).trans K16
  have zK25 : zh1 (j + 4) = arI κ 6 f32 := (zf6 (j + 4) (by omega) (by omega) (by omega) (by omega) (by omega) (by omega) (by omega)).trans K17
  have zK26 : zh1 (j + 5) = arR κ 1 6 c12 := (zf6 (j + 5) (by omega) (by omega) (by omega) (by omega) (by omega) (by omega) (by omega)).trans K18
  have zK27 : zh1 (j + 6) = arR κ 2 2 t12 := (zf6 (j + 6) (by omega) (by omega) (by omega) (by omega) (by omega) (by omega) (by omega)).trans K19
  have zK28 : zh1 (j + 7) = some (.inr (6, [.ref (j + 7 + 1), .int (nI nt2), .int 32])) := (zf6 (j + 7) (by omega) (by omega) (by omega) (by omega) (by omega) (by omega) (by omega)).trans K20
  have zK29 : zh1 (j + 8) = arI κ 50 tp2 := (zf6 (j + 8) (by omega) (by omega) (by omega) (by omega) (by omega) (by omega) (by omega)).trans K21
  have zK30 : zh1 (j + 9) = some (.inr (6, [.ref (j + 9 + 1), .int (nI nw2), .int 32])) := (zf6 (j + 9) (by omega) (by omega) (by omega) (by omega) (by omega) (by omega) (by omega)).trans K22
  have zK31 : zh1 (j + 10) = arI κ 20 wt2 := (zf6 (j + 10) (by omega) (by omega) (by omega) (by omega) (by omega) (by omega) (by omega)).trans K23
  have zK32 : zh1 (j + 11) = some (.inr (6, [.ref (j + 11 + 1), .int (nI nx2), .int 32])) := (zf6 (j + 11) (by omega) (by omega) (by omega) (by omega) (by omega) (by omega) (by omega)).trans K24
  have zK33 : zh1 (j + 12) = arI κ 15 bx2 := (zf6 (j + 12) (by omega) (by omega) (by omega) (by omega) (by omega) (by omega) (by omega)).trans K25
  have zl34 : ∀ zq : Nat, zq < zb → zq ≠ (k + 1) → zq ≠ (k + 2) → zq ≠ (k + 3) → zq ≠ (k + 4) → zq ≠ (k + 5) → zq ≠ (k + 6) → zh1 zq = h zq := by intro zq hzq zn0 zn1 zn2 zn3 zn4 zn5; rw [zf6 zq (by omega) (by omega) (by omega) (by omega) (by omega) (by omega) (by omega)]; try rfl
  have zr35 : Zr κ zb h zh1 := (Zr.refl).trans zr7
  refine z_aload_n X 0 dX3_become_11 rfl ?_
  refine z_get X fl_X3_23_3 dX3_become_12 zK14 rfl ?_
  refine z_aload_n X 1 dX3_become_15 rfl ?_
  refine z_get X fl_X3_23_3 dX3_become_16 zK21 rfl ?_
  refine z_callV X (c_Row_become (κ := κ) (n := n) (r := (k + 7)) (r2 := (j + 7)) (k := (nt)) (k2 := (nt2)) (bt := (32)) (bt2 := (32)) (N := (50)) (f := (tp)) (f2 := (tp2)) zK15 zK16 zK28 zK29 (by first | assumption | omega) (by first | assumption | omega) (by first | assumption | omega) (by first | assumption | omega)) mk_X6_become dX3_become_19 wd_904 wd_905 wd_906 rfl zK15 rfl rfl rfl (Nat.le_of_ble_eq_true rfl) (Nat.le_of_ble_eq_true rfl) (Nat.le_of_ble_eq_true rfl) (by omega) (by omega) (fun q zh36 zm38 zp39 => ?_)
  obtain ⟨rfl, ze37, zn40⟩ := zp39
  subst zm38
  refine z_st (st' := []) rfl ?_
  have zK41 : zh36 k = some (.inr (3, [.ref (k + 1), .ref (k + 7), .ref (k + 9), .ref (k + 11), .int z])) := by rw [ze37]; rw [va_up_ne _ _ (show k ≠ k + 8 by omega)]; rw [va_up_ne _ _ (show k ≠ k + 7 by omega)]; exact zK14
  have zK42 : zh36 (k + 7) = some (.inr (6, [.ref ((k + 7) + 1), .int (nI nt2), .int 32])) := by rw [ze37]; rw [va_up_ne _ _ (show k + 7 ≠ k + 8 by omega)]; exact va_up_self _ _ _
  have zK43 : zh36 (k + 8) = arI κ 50 (va_cpy tp2 tp 0 0 nt2) := by rw [ze37]; exact va_up_self _ _ _
  have zK44 : zh36 (k + 9) = some (.inr (6, [.ref (k + 9 + 1), .int (nI nw), .int 32])) := by rw [ze37]; rw [va_up_ne _ _ (show k + 9 ≠ k + 8 by omega)]; rw [va_up_ne _ _ (show k + 9 ≠ k + 7 by omega)]; exact zK17
  have zK45 : zh36 (k + 10) = arI κ 20 wt := by rw [ze37]; rw [va_up_ne _ _ (show k + 10 ≠ k + 8 by omega)]; rw [va_up_ne _ _ (show k + 10 ≠ k + 7 by omega)]; exact zK18
  have zK46 : zh36 (k + 11) = some (.inr (6, [.ref (k + 11 + 1), .int (nI nx), .int 32])) := by rw [ze37]; rw [va_up_ne _ _ (show k + 11 ≠ k + 8 by omega)]; rw [va_up_ne _ _ (show k + 11 ≠ k + 7 by omega)]; exact zK19
  have zK47 : zh36 (k + 12) = arI κ 15 bx := by rw [ze37]; rw [va_up_ne _ _ (show k + 12 ≠ k + 8 by omega)]; rw [va_up_ne _ _ (show k + 12 ≠ k + 7 by omega)]; exact zK20
  have zK48 : zh36 j = some (.inr (3, [.ref (j + 1), .ref (j + 7), .ref (j + 9), .ref (j + 11), .int z2])) := by rw [ze37]; rw [va_up_ne _ _ (show j ≠ k + 8 by omega)]; rw [va_up_ne _ _ (show j ≠ k + 7 by omega)]; exact zK21
  have zK49 : zh36 (j + 1) = some (.inr (2, [.ref (j + 2), .ref (j + 3), .ref (j + 4), .ref (j + 5), .ref (j + 6), .int len2, .int now2, .int dd2, .int dr2, .int cc2, .int on2, .int cold2, .int wind2])) := by rw [ze37]; rw [va_up_ne _ _ (show j + 1 ≠ k + 8 by omega)]; rw [va_up_ne _ _ (show j + 1 ≠ k + 7 by omega)]; exact zK22
  have zK50 : zh36 (j + 2) = arI κ 40 f12 := by rw [ze37]; rw [va_up_ne _ _ (show j + 2 ≠ k + 8 by omega)]; rw [va_up_ne _ _ (show j + 2 ≠ k + 7 by omega)]; exact zK23
  have zK51 : zh36 (j + 3) = arI κ 40 f22 := by rw [ze37]; rw [va_up_ne _ _ (show j + 3 ≠ k + 8 by omega)]; rw [va_up_ne _ _ (show j + 3 ≠ k + 7 by omega)]; exact zK24
  have zK52 : zh36 (j + 4) = arI κ 6 f32 := by rw [ze37]; rw [va_up_ne _ _ (show j + 4 ≠ k + 8 by omega)]; rw [va_up_ne _ _ (show j + 4 ≠ k + 7 by omega)]; exact zK25
  have zK53 : zh36 (j + 5) = arR κ 1 6 c12 := by rw [ze37]; rw [va_up_ne _ _ (show j + 5 ≠ k + 8 by omega)]; rw [va_up_ne _ _ (show j + 5 ≠ k + 7 by omega)]; exact zK26
  have zK54 : zh36 (j + 6) = arR κ 2 2 t12 := by rw [ze37]; rw [va_up_ne _ _ (show j + 6 ≠ k + 8 by omega)]; rw [va_up_ne _ _ (show j + 6 ≠ k + 7 by omega)]; exact zK27
  have zK55 : zh36 (j + 7) = some (.inr (6, [.ref (j + 7 + 1), .int (nI nt2), .int 32])) := by rw [ze37]; rw [va_up_ne _ _ (show j + 7 ≠ k + 8 by omega)]; rw [va_up_ne _ _ (show j + 7 ≠ k + 7 by omega)]; exact zK28
  have zK56 : zh36 (j + 8) = arI κ 50 tp2 := by rw [ze37]; rw [va_up_ne _ _ (show j + 8 ≠ k + 8 by omega)]; rw [va_up_ne _ _ (show j + 8 ≠ k + 7 by omega)]; exact zK29
  have zK57 : zh36 (j + 9) = some (.inr (6, [.ref (j + 9 + 1), .int (nI nw2), .int 32])) := by rw [ze37]; rw [va_up_ne _ _ (show j + 9 ≠ k + 8 by omega)]; rw [va_up_ne _ _ (show j + 9 ≠ k + 7 by omega)]; exact zK30
  have zK58 : zh36 (j + 10) = arI κ 20 wt2 := by rw [ze37]; rw [va_up_ne _ _ (show j + 10 ≠ k + 8 by omega)]; rw [va_up_ne _ _ (show j + 10 ≠ k + 7 by omega)]; exact zK31
  have zK59 : zh36 (j + 11) = some (.inr (6, [.ref (j + 11 + 1), .int (nI nx2), .int 32])) := by rw [ze37]; rw [va_up_ne _ _ (show j + 11 ≠ k + 8 by omega)]; rw [va_up_ne _ _ (show j + 11 ≠ k + 7 by omega)]; exact zK32
  have zK60 : zh36 (j + 12) = arI κ 15 bx2 := by rw [ze37]; rw [va_up_ne _ _ (show j + 12 ≠ k + 8 by omega)]; rw [va_up_ne _ _ (show j + 12 ≠ k + 7 by omega)]; exact zK33
  have zK61 : zh36 (k + 1) = some (.inr (2, [.ref ((k + 1) + 1), .ref ((k + 1) + 2), .ref ((k + 1) + 3), .ref ((k + 1) + 4), .ref ((k + 1) + 5), .int len2, .int now2, .int dd2, .int dr2, .int cc2, .int on2, .int cold, .int wind])) := by rw [ze37]; rw [va_up_ne _ _ (show k + 1 ≠ k + 8 by omega)]; rw [va_up_ne _ _ (show k + 1 ≠ k + 7 by omega)]; exact zK8
  have zK62 : zh36 (k + 2) = arI κ 40 f12 := by rw [ze37]; rw [va_up_ne _ _ (show k + 2 ≠ k + 8 by omega)]; rw [va_up_ne _ _ (show k + 2 ≠ k + 7 by omega)]; exact zK9
  have zK63 : zh36 (k + 3) = arI κ 40 f22 := by rw [ze37]; rw [va_up_ne _ _ (show k + 3 ≠ k + 8 by omega)]; rw [va_up_ne _ _ (show k + 3 ≠ k + 7 by omega)]; exact zK10
  have zK64 : zh36 (k + 4) = arI κ 6 f32 := by rw [ze37]; rw [va_up_ne _ _ (show k + 4 ≠ k + 8 by omega)]; rw [va_up_ne _ _ (show k + 4 ≠ k + 7 by omega)]; exact zK11
  have zK65 : zh36 (k + 5) = arR κ 1 6 c12 := by rw [ze37]; rw [va_up_ne _ _ (show k + 5 ≠ k + 8 by omega)]; rw [va_up_ne _ _ (show k + 5 ≠ k + 7 by omega)]; exact zK12
  have zK66 : zh36 (k + 6) = arR κ 2 2 t12 := by rw [ze37]; rw [va_up_ne _ _ (show k + 6 ≠ k + 8 by omega)]; rw [va_up_ne _ _ (show k + 6 ≠ k + 7 by omega)]; exact zK13
  have zl67 : ∀ zq : Nat, zq < zb → zq ≠ (k + 1) → zq ≠ (k + 2) → zq ≠ (k + 3) → zq ≠ (k + 4) → zq ≠ (k + 5) → zq ≠ (k + 6) → zq ≠ (k + 7) → zq ≠ (k + 8) → zh36 zq = h zq := by intro zq hzq zn0 zn1 zn2 zn3 zn4 zn5 zn6 zn7; rw [ze37, va_up_ne _ _ (show zq ≠ k + 8 by omega), va_up_ne _ _ (show zq ≠ k + 7 by omega)]; exact zl34 zq hzq zn0 zn1 zn2 zn3 zn4 zn5
  have zr68 : Zr κ zb h zh36 := (zr35).trans (Zr.same (fun zq h1 => by rw [ze37, va_up_ne _ _ (show zq ≠ k + 8 by omega), va_up_ne _ _ (show zq ≠ k + 7 by omega)]))
  refine z_aload_n X 0 dX3_become_22 rfl ?_
  refine z_get X fl_X3_27_3 dX3_become_23 zK41 rfl ?_
  refine z_aload_n X 1 dX3_become_26 rfl ?_
  refine z_get X fl_X3_27_3 dX3_become_27 zK48 rfl ?_
  refine z_callV X (c_Row_become (κ := κ) (n := n) (r := (k + 9)) (r2 := (j + 9)) (k := (nw)) (k2 := (nw2)) (bt := (32)) (bt2 := (32)) (N := (20)) (f := (wt)) (f2 := (wt2)) zK44 zK45 zK57 zK58 (by first | assumption | omega) (by first | assumption | omega) (by first | assumption | omega) (by first | assumption | omega)) mk_X6_become dX3_become_30 wd_904 wd_905 wd_906 rfl zK44 rfl rfl rfl (Nat.le_of_ble_eq_true rfl) (Nat.le_of_ble_eq_true rfl) (Nat.le_of_ble_eq_true rfl) (by omega) (by omega) (fun q zh69 zm71 zp72 => ?_)
  obtain ⟨rfl, ze70, zn73⟩ := zp72
  subst zm71
  refine z_st (st' := []) rfl ?_
  have zK74 : zh69 k = some (.inr (3, [.ref (k + 1), .ref (k + 7), .ref (k + 9), .ref (k + 11), .int z])) := by rw [ze70]; rw [va_up_ne _ _ (show k ≠ k + 10 by omega)]; rw [va_up_ne _ _ (show k ≠ k + 9 by omega)]; exact zK41
  have zK75 : zh69 (k + 7) = some (.inr (6, [.ref ((k + 7) + 1), .int (nI nt2), .int 32])) := by rw [ze70]; rw [va_up_ne _ _ (show k + 7 ≠ k + 10 by omega)]; rw [va_up_ne _ _ (show k + 7 ≠ k + 9 by omega)]; exact zK42
  have zK76 : zh69 (k + 8) = arI κ 50 (va_cpy tp2 tp 0 0 nt2) := by rw [ze70]; rw [va_up_ne _ _ (show k + 8 ≠ k + 10 by omega)]; rw [va_up_ne _ _ (show k + 8 ≠ k + 9 by omega)]; exact zK43
  have zK77 : zh69 (k + 9) = some (.inr (6, [.ref ((k + 9) + 1), .int (nI nw2), .int 32])) := by rw [ze70]; rw [va_up_ne _ _ (show k + 9 ≠ k + 10 by omega)]; exact va_up_self _ _ _
  have zK78 : zh69 (k + 10) = arI κ 20 (va_cpy wt2 wt 0 0 nw2) := by rw [ze70]; exact va_up_self _ _ _
  have zK79 : zh69 (k + 11) = some (.inr (6, [.ref (k + 11 + 1), .int (nI nx), .int 32])) := by rw [ze70]; rw [va_up_ne _ _ (show k + 11 ≠ k + 10 by omega)]; rw [va_up_ne _ _ (show k + 11 ≠ k + 9 by omega)]; exact zK46
  have zK80 : zh69 (k + 12) = arI κ 15 bx := by rw [ze70]; rw [va_up_ne _ _ (show k + 12 ≠ k + 10 by omega)]; rw [va_up_ne _ _ (show k + 12 ≠ k + 9 by omega)]; exact zK47
  have zK81 : zh69 j = some (.inr (3, [.ref (j + 1), .ref (j + 7), .ref (j + 9), .ref (j + 11), .int z2])) := by rw [ze70]; rw [va_up_ne _ _ (show j ≠ k + 10 by omega)]; rw [va_up_ne _ _ (show j ≠ k + 9 by omega)]; exact zK48
  have zK82 : zh69 (j + 1) = some (.inr (2, [.ref (j + 2), .ref (j + 3), .ref (j + 4), .ref (j + 5), .ref (j + 6), .int len2, .int now2, .int dd2, .int dr2, .int cc2, .int on2, .int cold2, .int wind2])) := by rw [ze70]; rw [va_up_ne _ _ (show j + 1 ≠ k + 10 by omega)]; rw [va_up_ne _ _ (show j + 1 ≠ k + 9 by omega)]; exact zK49
  have zK83 : zh69 (j + 2) = arI κ 40 f12 := by rw [ze70]; rw [va_up_ne _ _ (show j + 2 ≠ k + 10 by omega)]; rw [va_up_ne _ _ (show j + 2 ≠ k + 9 by omega)]; exact zK50
  have zK84 : zh69 (j + 3) = arI κ 40 f22 := by rw [ze70]; rw [va_up_ne _ _ (show j + 3 ≠ k + 10 by omega)]; rw [va_up_ne _ _ (show j + 3 ≠ k + 9 by omega)]; exact zK51
  have zK85 : zh69 (j + 4) = arI κ 6 f32 := by rw [ze70]; rw [va_up_ne _ _ (show j + 4 ≠ k + 10 by omega)]; rw [va_up_ne _ _ (show j + 4 ≠ k + 9 by omega)]; exact zK52
  have zK86 : zh69 (j + 5) = arR κ 1 6 c12 := by rw [ze70]; rw [va_up_ne _ _ (show j + 5 ≠ k + 10 by omega)]; rw [va_up_ne _ _ (show j + 5 ≠ k + 9 by omega)]; exact zK53
  have zK87 : zh69 (j + 6) = arR κ 2 2 t12 := by rw [ze70]; rw [va_up_ne _ _ (show j + 6 ≠ k + 10 by omega)]; rw [va_up_ne _ _ (show j + 6 ≠ k + 9 by omega)]; exact zK54
  have zK88 : zh69 (j + 7) = some (.inr (6, [.ref (j + 7 + 1), .int (nI nt2), .int 32])) := by rw [ze70]; rw [va_up_ne _ _ (show j + 7 ≠ k + 10 by omega)]; rw [va_up_ne _ _ (show j + 7 ≠ k + 9 by omega)]; exact zK55
  have zK89 : zh69 (j + 8) = arI κ 50 tp2 := by rw [ze70]; rw [va_up_ne _ _ (show j + 8 ≠ k + 10 by omega)]; rw [va_up_ne _ _ (show j + 8 ≠ k + 9 by omega)]; exact zK56
  have zK90 : zh69 (j + 9) = some (.inr (6, [.ref (j + 9 + 1), .int (nI nw2), .int 32])) := by rw [ze70]; rw [va_up_ne _ _ (show j + 9 ≠ k + 10 by omega)]; rw [va_up_ne _ _ (show j + 9 ≠ k + 9 by omega)]; exact zK57
  have zK91 : zh69 (j + 10) = arI κ 20 wt2 := by rw [ze70]; rw [va_up_ne _ _ (show j + 10 ≠ k + 10 by omega)]; rw [va_up_ne _ _ (show j + 10 ≠ k + 9 by omega)]; exact zK58
  have zK92 : zh69 (j + 11) = some (.inr (6, [.ref (j + 11 + 1), .int (nI nx2), .int 32])) := by rw [ze70]; rw [va_up_ne _ _ (show j + 11 ≠ k + 10 by omega)]; rw [va_up_ne _ _ (show j + 11 ≠ k + 9 by omega)]; exact zK59
  have zK93 : zh69 (j + 12) = arI κ 15 bx2 := by rw [ze70]; rw [va_up_ne _ _ (show j + 12 ≠ k + 10 by omega)]; rw [va_up_ne _ _ (show j + 12 ≠ k + 9 by omega)]; exact zK60
  have zK94 : zh69 (k + 1) = some (.inr (2, [.ref ((k + 1) + 1), .ref ((k + 1) + 2), .ref ((k + 1) + 3), .ref ((k + 1) + 4), .ref ((k + 1) + 5), .int len2, .int now2, .int dd2, .int dr2, .int cc2, .int on2, .int cold, .int wind])) := by rw [ze70]; rw [va_up_ne _ _ (show k + 1 ≠ k + 10 by omega)]; rw [va_up_ne _ _ (show k + 1 ≠ k + 9 by omega)]; exact zK61
  have zK95 : zh69 (k + 2) = arI κ 40 f12 := by rw [ze70]; rw [va_up_ne _ _ (show k + 2 ≠ k + 10 by omega)]; rw [va_up_ne _ _ (show k + 2 ≠ k + 9 by omega)]; exact zK62
  have zK96 : zh69 (k + 3) = arI κ 40 f22 := by rw [ze70]; rw [va_up_ne _ _ (show k + 3 ≠ k + 10 by omega)]; rw [va_up_ne _ _ (show k + 3 ≠ k + 9 by omega)]; exact zK63
  have zK97 : zh69 (k + 4) = arI κ 6 f32 := by rw [ze70]; rw [va_up_ne _ _ (show k + 4 ≠ k + 10 by omega)]; rw [va_up_ne _ _ (show k + 4 ≠ k + 9 by omega)]; exact zK64
  have zK98 : zh69 (k + 5) = arR κ 1 6 c12 := by rw [ze70]; rw [va_up_ne _ _ (show k + 5 ≠ k + 10 by omega)]; rw [va_up_ne _ _ (show k + 5 ≠ k + 9 by omega)]; exact zK65
  have zK99 : zh69 (k + 6) = arR κ 2 2 t12 := by rw [ze70]; rw [va_up_ne _ _ (show k + 6 ≠ k + 10 by omega)]; rw [va_up_ne _ _ (show k + 6 ≠ k + 9 by omega)]; exact zK66
  have zl100 : ∀ zq : Nat, zq < zb → zq ≠ (k + 1) → zq ≠ (k + 2) → zq ≠ (k + 3) → zq ≠ (k + 4) → zq ≠ (k + 5) → zq ≠ (k + 6) → zq ≠ (k + 7) → zq ≠ (k + 8) → zq ≠ (k + 9) → zq ≠ (k + 10) → zh69 zq = h zq := by intro zq hzq zn0 zn1 zn2 zn3 zn4 zn5 zn6 zn7 zn8 zn9; rw [ze70, va_up_ne _ _ (show zq ≠ k + 10 by omega), va_up_ne _ _ (show zq ≠ k + 9 by omega)]; exact zl67 zq hzq zn0 zn1 zn2 zn3 zn4 zn5 zn6 zn7
  have zr101 : Zr κ zb h zh69 := (zr68).trans (Zr.same (fun zq h1 => by rw [ze70, va_up_ne _ _ (show zq ≠ k + 10 by omega), va_up_ne _ _ (show zq ≠ k + 9 by omega)]))
  refine z_aload_n X 0 dX3_become_33 rfl ?_
  refine z_get X fl_X3_30_3 dX3_become_34 zK74 rfl ?_
  refine z_aload_n X 1 dX3_become_37 rfl ?_
  refine z_get X fl_X3_30_3 dX3_become_38 zK81 rfl ?_
  refine z_callV X (c_Row_become (κ := κ) (n := n) (r := (k + 11)) (r2 := (j + 11)) (k := (nx)) (k2 := (nx2)) (bt := (32)) (bt2 := (32)) (N := (15)) (f := (bx)) (f2 := (bx2)) zK79 zK80 zK92 zK93 (by first | assumption | omega) (by first | assumption | omega) (by first | assumption | omega) (by first | assumption | omega)) mk_X6_become dX3_become_41 wd_904 wd_905 wd_906 rfl zK79 rfl rfl rfl (Nat.le_of_ble_eq_true rfl) (Nat.le_of_ble_eq_true rfl) (Nat.le_of_ble_eq_true rfl) (by omega) (by omega) (fun q zh102 zm104 zp105 => ?_)
  obtain ⟨rfl, ze103, zn106⟩ := zp105
  subst zm104
  refine z_st (st' := []) rfl ?_
  have zK107 : zh102 k = some (.inr (3, [.ref (k + 1), .ref (k + 7), .ref (k + 9), .ref (k + 11), .int z])) := by rw [ze103]; rw [va_up_ne _ _ (show k ≠ k + 12 by omega)]; rw [va_up_ne _ _ (show k ≠ k + 11 by omega)]; exact zK74
  have zK108 : zh102 (k + 7) = some (.inr (6, [.ref ((k + 7) + 1), .int (nI nt2), .int 32])) := by rw [ze103]; rw [va_up_ne _ _ (show k + 7 ≠ k + 12 by omega)]; rw [va_up_ne _ _ (show k + 7 ≠ k + 11 by omega)]; exact zK75
  have zK109 : zh102 (k + 8) = arI κ 50 (va_cpy tp2 tp 0 0 nt2) := by rw [ze103]; rw [va_up_ne _ _ (show k + 8 ≠ k + 12 by omega)]; rw [va_up_ne _ _ (show k + 8 ≠ k + 11 by omega)]; exact zK76
  have zK110 : zh102 (k + 9) = some (.inr (6, [.ref ((k + 9) + 1), .int (nI nw2), .int 32])) := by rw [ze103]; rw [va_up_ne _ _ (show k + 9 ≠ k + 12 by omega)]; rw [va_up_ne _ _ (show k + 9 ≠ k + 11 by omega)]; exact zK77
  have zK111 : zh102 (k + 10) = arI κ 20 (va_cpy wt2 wt 0 0 nw2) := by rw [ze103]; rw [va_up_ne _ _ (show k + 10 ≠ k + 12 by omega)]; rw [va_up_ne _ _ (show k + 10 ≠ k + 11 by omega)]; exact zK78
  have zK112 : zh102 (k + 11) = some (.inr (6, [.ref ((k + 11) + 1), .int (nI nx2), .int 32])) := by rw [ze103]; rw [va_up_ne _ _ (show k + 11 ≠ k + 12 by omega)]; exact va_up_self _ _ _
  have zK113 : zh102 (k + 12) = arI κ 15 (va_cpy bx2 bx 0 0 nx2) := by rw [ze103]; exact va_up_self _ _ _
  have zK114 : zh102 j = some (.inr (3, [.ref (j + 1), .ref (j + 7), .ref (j + 9), .ref (j + 11), .int z2])) := by rw [ze103]; rw [va_up_ne _ _ (show j ≠ k + 12 by omega)]; rw [va_up_ne _ _ (show j ≠ k + 11 by omega)]; exact zK81
  have zK115 : zh102 (j + 1) = some (.inr (2, [.ref (j + 2), .ref (j + 3), .ref (j + 4), .ref (j + 5), .ref (j + 6), .int len2, .int now2, .int dd2, .int dr2, .int cc2, .int on2, .int cold2, .int wind2])) := by rw [ze103]; rw [va_up_ne _ _ (show j + 1 ≠ k + 12 by omega)]; rw [va_up_ne _ _ (show j + 1 ≠ k + 11 by omega)]; exact zK82
  have zK116 : zh102 (j + 2) = arI κ 40 f12 := by rw [ze103]; rw [va_up_ne _ _ (show j + 2 ≠ k + 12 by omega)]; rw [va_up_ne _ _ (show j + 2 ≠ k + 11 by omega)]; exact zK83
  have zK117 : zh102 (j + 3) = arI κ 40 f22 := by rw [ze103]; rw [va_up_ne _ _ (show j + 3 ≠ k + 12 by omega)]; rw [va_up_ne _ _ (show j + 3 ≠ k + 11 by omega)]; exact zK84
  have zK118 : zh102 (j + 4) = arI κ 6 f32 := by rw [ze103]; rw [va_up_ne _ _ (show j + 4 ≠ k + 12 by omega)]; rw [va_up_ne _ _ (show j + 4 ≠ k + 11 by omega)]; exact zK85
  have zK119 : zh102 (j + 5) = arR κ 1 6 c12 := by rw [ze103]; rw [va_up_ne _ _ (show j + 5 ≠ k + 12 by omega)]; rw [va_up_ne _ _ (show j + 5 ≠ k + 11 by omega)]; exact zK86
  have zK120 : zh102 (j + 6) = arR κ 2 2 t12 := by rw [ze103]; rw [va_up_ne _ _ (show j + 6 ≠ k + 12 by omega)]; rw [va_up_ne _ _ (show j + 6 ≠ k + 11 by omega)]; exact zK87
  have zK121 : zh102 (j + 7) = some (.inr (6, [.ref (j + 7 + 1), .int (nI nt2), .int 32])) := by rw [ze103]; rw [va_up_ne _ _ (show j + 7 ≠ k + 12 by omega)]; rw [va_up_ne _ _ (show j + 7 ≠ k + 11 by omega)]; exact zK88
  have zK122 : zh102 (j + 8) = arI κ 50 tp2 := by rw [ze103]; rw [va_up_ne _ _ (show j + 8 ≠ k + 12 by omega)]; rw [va_up_ne _ _ (show j + 8 ≠ k + 11 by omega)]; exact zK89
  have zK123 : zh102 (j + 9) = some (.inr (6, [.ref (j + 9 + 1), .int (nI nw2), .int 32])) := by rw [ze103]; rw [va_up_ne _ _ (show j + 9 ≠ k + 12 by omega)]; rw [va_up_ne _ _ (show j + 9 ≠ k + 11 by omega)]; exact zK90
  have zK124 : zh102 (j + 10) = arI κ 20 wt2 := by rw [ze103]; rw [va_up_ne _ _ (show j + 10 ≠ k + 12 by omega)]; rw [va_up_ne _ _ (show j + 10 ≠ k + 11 by omega)]; exact zK91
  have zK125 : zh102 (j + 11) = some (.inr (6, [.ref (j + 11 + 1), .int (nI nx2), .int 32])) := by rw [ze103]; rw [va_up_ne _ _ (show j + 11 ≠ k + 12 by omega)]; rw [va_up_ne _ _ (show j + 11 ≠ k + 11 by omega)]; exact zK92
  have zK126 : zh102 (j + 12) = arI κ 15 bx2 := by rw [ze103]; rw [va_up_ne _ _ (show j + 12 ≠ k + 12 by omega)]; rw [va_up_ne _ _ (show j + 12 ≠ k + 11 by omega)]; exact zK93
  have zK127 : zh102 (k + 1) = some (.inr (2, [.ref ((k + 1) + 1), .ref ((k + 1) + 2), .ref ((k + 1) + 3), .ref ((k + 1) + 4), .ref ((k + 1) + 5), .int len2, .int now2, .int dd2, .int dr2, .int cc2, .int on2, .int cold, .int wind])) := by rw [ze103]; rw [va_up_ne _ _ (show k + 1 ≠ k + 12 by omega)]; rw [va_up_ne _ _ (show k + 1 ≠ k + 11 by omega)]; exact zK94
  have zK128 : zh102 (k + 2) = arI κ 40 f12 := by rw [ze103]; rw [va_up_ne _ _ (show k + 2 ≠ k + 12 by omega)]; rw [va_up_ne _ _ (show k + 2 ≠ k + 11 by omega)]; exact zK95
  have zK129 : zh102 (k + 3) = arI κ 40 f22 := by rw [ze103]; rw [va_up_ne _ _ (show k + 3 ≠ k + 12 by omega)]; rw [va_up_ne _ _ (show k + 3 ≠ k + 11 by omega)]; exact zK96
  have zK130 : zh102 (k + 4) = arI κ 6 f32 := by rw [ze103]; rw [va_up_ne _ _ (show k + 4 ≠ k + 12 by omega)]; rw [va_up_ne _ _ (show k + 4 ≠ k + 11 by omega)]; exact zK97
  have zK131 : zh102 (k + 5) = arR κ 1 6 c12 := by rw [ze103]; rw [va_up_ne _ _ (show k + 5 ≠ k + 12 by omega)]; rw [va_up_ne _ _ (show k + 5 ≠ k + 11 by omega)]; exact zK98
  have zK132 : zh102 (k + 6) = arR κ 2 2 t12 := by rw [ze103]; rw [va_up_ne _ _ (show k + 6 ≠ k + 12 by omega)]; rw [va_up_ne _ _ (show k + 6 ≠ k + 11 by omega)]; exact zK99
  have zl133 : ∀ zq : Nat, zq < zb → zq ≠ (k + 1) → zq ≠ (k + 2) → zq ≠ (k + 3) → zq ≠ (k + 4) → zq ≠ (k + 5) → zq ≠ (k + 6) → zq ≠ (k + 7) → zq ≠ (k + 8) → zq ≠ (k + 9) → zq ≠ (k + 10) → zq ≠ (k + 11) → zq ≠ (k + 12) → zh102 zq = h zq := by intro zq hzq zn0 zn1 zn2 zn3 zn4 zn5 zn6 zn7 zn8 zn9 zn10 zn11; rw [ze103, va_up_ne _ _ (show zq ≠ k + 12 by omega), va_up_ne _ _ (show zq ≠ k + 11 by omega)]; exact zl100 zq hzq zn0 zn1 zn2 zn3 zn4 zn5 zn6 zn7 zn8 zn9
  have zr134 : Zr κ zb h zh102 := (zr101).trans (Zr.same (fun zq h1 => by rw [ze103, va_up_ne _ _ (show zq ≠ k + 12 by omega), va_up_ne _ _ (show zq ≠ k + 11 by omega)]))
  refine z_aload_n X 0 dX3_become_44 rfl ?_
  refine z_aload_n X 1 dX3_become_45 rfl ?_
  refine z_get X fl_X3_33_3 dX3_become_46 zK114 rfl ?_
  refine z_put X fp_X3_33_3 dX3_become_49 zK107 (by first | rfl | decide) (by first | rfl | decide) (Nat.le_of_ble_eq_true rfl) rfl ?_
  obtain ⟨zh135, ze136⟩ : ∃ z : Mm, z = va_up zh102 k (some (.inr (3, [.ref (k + 1), .ref (k + 7), .ref (k + 9), .ref (k + 11), .int z2]))) := ⟨_, rfl⟩
  refine z_heap (h' := zh135) ze136.symm ?_
  have zK137 := up_at ze136
  have zK138 := up_off ze136 (show k + 7 ≠ k by omega) zK108
  have zK139 := up_off ze136 (show k + 8 ≠ k by omega) zK109
  have zK140 := up_off ze136 (show k + 9 ≠ k by omega) zK110
  have zK141 := up_off ze136 (show k + 10 ≠ k by omega) zK111
  have zK142 := up_off ze136 (show k + 11 ≠ k by omega) zK112
  have zK143 := up_off ze136 (show k + 12 ≠ k by omega) zK113
  have zK144 := up_off ze136 (show j ≠ k by omega) zK114
  have zK145 := up_off ze136 (show j + 1 ≠ k by omega) zK115
  have zK146 := up_off ze136 (show j + 2 ≠ k by omega) zK116
  have zK147 := up_off ze136 (show j + 3 ≠ k by omega) zK117
  have zK148 := up_off ze136 (show j + 4 ≠ k by omega) zK118
  have zK149 := up_off ze136 (show j + 5 ≠ k by omega) zK119
  have zK150 := up_off ze136 (show j + 6 ≠ k by omega) zK120
  have zK151 := up_off ze136 (show j + 7 ≠ k by omega) zK121
  have zK152 := up_off ze136 (show j + 8 ≠ k by omega) zK122
  have zK153 := up_off ze136 (show j + 9 ≠ k by omega) zK123
  have zK154 := up_off ze136 (show j + 10 ≠ k by omega) zK124
  have zK155 := up_off ze136 (show j + 11 ≠ k by omega) zK125
  have zK156 := up_off ze136 (show j + 12 ≠ k by omega) zK126
  have zK157 := up_off ze136 (show k + 1 ≠ k by omega) zK127
  have zK158 := up_off ze136 (show k + 2 ≠ k by omega) zK128
  have zK159 := up_off ze136 (show k + 3 ≠ k by omega) zK129
  have zK160 := up_off ze136 (show k + 4 ≠ k by omega) zK130
  have zK161 := up_off ze136 (show k + 5 ≠ k by omega) zK131
  have zK162 := up_off ze136 (show k + 6 ≠ k by omega) zK132
  have zl163 : ∀ zq : Nat, zq < zb → zq ≠ (k + 1) → zq ≠ (k + 2) → zq ≠ (k + 3) → zq ≠ (k + 4) → zq ≠ (k + 5) → zq ≠ (k + 6) → zq ≠ (k + 7) → zq ≠ (k + 8) → zq ≠ (k + 9) → zq ≠ (k + 10) → zq ≠ (k + 11) → zq ≠ (k + 12) → zq ≠ k → zh135 zq = h zq := by intro zq hzq zn0 zn1 zn2 zn3 zn4 zn5 zn6 zn7 zn8 zn9 zn10 zn11 zn12; rw [ze136, va_up_ne _ _ (show zq ≠ k by omega)]; exact zl133 zq hzq zn0 zn1 zn2 zn3 zn4 zn5 zn6 zn7 zn8 zn9 zn10 zn11
  have zr164 : Zr κ zb h zh135 := (zr134).trans (Zr.same (fun zq h1 => by rw [ze136, va_up_ne _ _ (show zq ≠ k by omega)]))
  refine z_vret X E dX3_become_52 (by omega) (by omega) ⟨?_, ?_, ?_, ?_, ?_, ?_, ?_, ?_, ?_, ?_, ?_, ?_, ?_, ?_, ?_, ?_, ?_⟩
  · rfl
  · rfl
  · exact fun zq hzq zn0 zn1 zn2 zn3 zn4 zn5 zn6 zn7 zn8 zn9 zn10 zn11 zn12 => zl163 zq hzq zn1 zn2 zn3 zn4 zn5 zn6 zn7 zn8 zn9 zn10 zn11 zn12 zn0
  · exact zr164
  · exact zK137
  · exact zK157
  · exact zK158
  · exact zK159
  · exact zK160
  · exact zK161
  · exact zK162
  · exact zK138
  · exact zK139
  · exact zK140
  · exact zK141
  · exact zK142
  · exact zK143
set_option maxHeartbeats 4000000 in
set_option maxRecDepth 100000 in
theorem c_fail {κ : Wc} {l : Launch} {h : Mm} {n : Nat} {o : Nat} {im : Int32} {fo : Nat → Int32} {k : Nat} (K0 : h o = some (.inr (11, [.ref (o + 1), .ref (o + 14), .ref (o + 27), .ref (o + 33), .ref (o + 42), .ref (o + 55), .ref (o + 57), .ref (o + 59), .ref (o + 61), .int im]))) (K1 : h (o + 61) = arI κ 6 fo) (p1 : 1 ≤ k) (p2 : k ≤ 5) : Con κ l yX11_fail cX11_fail 2 (some .int) 2 0 0 [.ref o, .int (nI k)] h n (fun q h' n' => q = some (.int (lowE k)) ∧ h' = va_up h (o + 61) (arI κ 6 (bmp fo k)) ∧ n' = n) := by
  refine Con.of mk_X11_fail (Nat.le_of_ble_eq_true rfl) (fun G hG X E => ?_)
  subst hG
  refine z_ls (ls' := [(0, .ref o), (1, .int (nI k))]) rfl ?_
  refine z_iload_n X 1 dX11_fail_0 rfl ?_
  refine z_iconst (v := 1) X dX11_fail_1 (by decide) ?_
  refine z_iconst (v := 5) X dX11_fail_2 (by decide) ?_
  refine z_callS X (c_within (κ := κ) (n := n) (v := (nI k)) (lo := (1)) (hi := (5))  ) mk_X11_within dX11_fail_3 wd_259 wd_257 rfl rfl (Nat.le_of_ble_eq_true rfl) (Nat.le_of_ble_eq_true rfl) (Nat.le_of_ble_eq_true rfl) (by omega) (by omega) (fun q zh1 zm3 zp4 => ?_)
  obtain ⟨rfl, ze2, zn5⟩ := zp4
  subst zm3
  subst zh1
  refine z_st (st' := [.int (b2i ((1 : Int32).toInt ≤ (nI k : Int32).toInt ∧ (nI k : Int32).toInt ≤ (5 : Int32).toInt))]) rfl ?_
  refine z_toe (y := b2i (1 ≤ ((k : Nat) : Int) ∧ ((k : Nat) : Int) ≤ 5)) (by simp only [i_nI (n := k) (by omega), show (1 : Int32).toInt = 1 by decide, show (5 : Int32).toInt = 5 by decide]) ?_
  refine z_if_eq X 19 dX11_fail_6 (by decide) (fun zc6 => ?_) (fun zc6 => ?_)
  · replace zc6 := b2i_f zc6
    (exfalso; omega)
  · replace zc6 := b2i_t zc6
    refine z_aload_n X 0 dX11_fail_9 rfl ?_
    refine z_get X fl_X11_48_11 dX11_fail_10 K0 rfl ?_
    refine z_iload_n X 1 dX11_fail_13 rfl ?_
    refine z_dup2 X dX11_fail_14 rfl rfl ?_
    refine z_iald2 (v := fo k) X dX11_fail_15 K1 (vp_in_nI (n := k) (by omega) (by omega)) (congrArg fo (nI_clamp (n := k) (by omega))) ?_
    refine z_iconst (v := 1) X dX11_fail_16 (by decide) ?_
    refine z_iadd X dX11_fail_17 ?_
    refine z_iast X dX11_fail_18 K1 (vp_in_nI (n := k) (by omega) (by omega)) (congrArg (fun z => va_up h (o + 61) (arI κ 6 (upd fo z ((fo k) + 1)))) (nI_clamp (n := k) (by omega))) ?_
    obtain ⟨zh7, ze8⟩ : ∃ z : Mm, z = va_up h (o + 61) (arI κ 6 (upd fo k ((fo k) + 1))) := ⟨_, rfl⟩
    refine z_heap (h' := zh7) ze8.symm ?_
    have zK9 := up_off ze8 (show o ≠ o + 61 by omega) K0
    have zK10 := up_at ze8
    refine z_ldcw X dX11_fail_19 wd_264 ?_
    refine z_iload_n X 1 dX11_fail_22 rfl ?_
    refine z_isub X dX11_fail_23 ?_
    refine z_iret X E dX11_fail_24 (by omega) (by omega) ⟨?_, ?_, ?_⟩
    · rfl
    · funext zz; by_cases zq0 : zz = o + 61; (rw [zq0, va_up_self]; exact zK10); rw [va_up_ne _ _ zq0]; rw [ze8]; simp only [va_up, if_neg zq0]
    · rfl
set_option maxHeartbeats 4000000 in
set_option maxRecDepth 100000 in
theorem c_isAhead {κ : Wc} {l : Launch} {h : Mm} {n : Nat} {v : Int32}   : Con κ l yX11_isAhead cX11_isAhead 1 (some .boolean) 2 0 0 [.int v] h n (fun q h' n' => (q = some (.int (b2i (0 ≤ v.toInt ∧ v.toInt ≤ 60)))) ∧ h' = h ∧ n' = n) := by
  refine Con.of mk_X11_isAhead (Nat.le_of_ble_eq_true rfl) (fun G hG X E => ?_)
  subst hG
  refine z_ls (ls' := [(0, .int v)]) rfl ?_
  refine z_iload_n X 0 dX11_isAhead_0 rfl ?_
  refine z_iconst (v := 0) X dX11_isAhead_1 (by decide) ?_
  refine z_bipush (v := 60) X dX11_isAhead_2 (by decide) ?_
  refine z_callS X (c_within (κ := κ) (n := n) (v := (v)) (lo := (0)) (hi := (60))  ) mk_X11_within dX11_isAhead_4 wd_259 wd_257 rfl rfl (Nat.le_of_ble_eq_true rfl) (Nat.le_of_ble_eq_true rfl) (Nat.le_of_ble_eq_true rfl) (by omega) (by omega) (fun q zh1 zm3 zp4 => ?_)
  obtain ⟨rfl, ze2, zn5⟩ := zp4
  subst zm3
  subst zh1
  refine z_st (st' := [.int (b2i ((0 : Int32).toInt ≤ (v : Int32).toInt ∧ (v : Int32).toInt ≤ (60 : Int32).toInt))]) rfl ?_
  refine z_toe (y := b2i (0 ≤ v.toInt ∧ v.toInt ≤ 60)) (by simp only [show (0 : Int32).toInt = 0 by decide, show (60 : Int32).toInt = 60 by decide]) ?_
  refine z_zret X E dX11_isAhead_7 (by first | rfl | exact b2i_nar _) (by omega) (by omega) ⟨?_, ?_, ?_⟩
  · rfl
  · first | rfl | (funext zz; simp only [va_up]; (repeat' split) <;> first | rfl | (exfalso; omega) | simp_all)
  · rfl
set_option maxHeartbeats 4000000 in
set_option maxRecDepth 100000 in
theorem c_isSheet {κ : Wc} {l : Launch} {h : Mm} {n : Nat} {v : Int32}   : Con κ l yX11_isSheet cX11_isSheet 1 (some .boolean) 2 0 0 [.int v] h n (fun q h' n' => (q = some (.int (b2i (0 ≤ v.toInt ∧ v.toInt ≤ 3)))) ∧ h' = h ∧ n' = n) := by
  refine Con.of mk_X11_isSheet (Nat.le_of_ble_eq_true rfl) (fun G hG X E => ?_)
  subst hG
  refine z_ls (ls' := [(0, .int v)]) rfl ?_
  refine z_iload_n X 0 dX11_isSheet_0 rfl ?_
  refine z_iconst (v := 0) X dX11_isSheet_1 (by decide) ?_
  refine z_iconst (v := 3) X dX11_isSheet_2 (by decide) ?_
  refine z_callS X (c_within (κ := κ) (n := n) (v := (v)) (lo := (0)) (hi := (3))  ) mk_X11_within dX11_isSheet_3 wd_259 wd_257 rfl rfl (Nat.le_of_ble_eq_true rfl) (Nat.le_of_ble_eq_true rfl) (Nat.le_of_ble_eq_true rfl) (by omega) (by omega) (fun q zh1 zm3 zp4 => ?_)
  obtain ⟨rfl, ze2, zn5⟩ := zp4
  subst zm3
  subst zh1
  refine z_st (st' := [.int (b2i ((0 : Int32).toInt ≤ (v : Int32).toInt ∧ (v : Int32).toInt ≤ (3 : Int32).toInt))]) rfl ?_
  refine z_toe (y := b2i (0 ≤ v.toInt ∧ v.toInt ≤ 3)) (by simp only [show (0 : Int32).toInt = 0 by decide, show (3 : Int32).toInt = 3 by decide]) ?_
  refine z_zret X E dX11_isSheet_6 (by first | rfl | exact b2i_nar _) (by omega) (by omega) ⟨?_, ?_, ?_⟩
  · rfl
  · first | rfl | (funext zz; simp only [va_up]; (repeat' split) <;> first | rfl | (exfalso; omega) | simp_all)
  · rfl
set_option maxHeartbeats 4000000 in
set_option maxRecDepth 100000 in
theorem c_isWidth {κ : Wc} {l : Launch} {h : Mm} {n : Nat} {v : Int32}   : Con κ l yX11_isWidthOfSheet cX11_isWidthOfSheet 1 (some .boolean) 1 0 0 [.int v] h n (fun q h' n' => q = some (.int (b2i (v.toInt = 0 ∨ v.toInt = 8 ∨ v.toInt = 16 ∨ v.toInt = 32))) ∧ h' = h ∧ n' = n) := by
  refine Con.of mk_X11_isWidthOfSheet (Nat.le_of_ble_eq_true rfl) (fun G hG X E => ?_)
  subst hG
  refine z_ls (ls' := [(0, .int v)]) rfl ?_
  refine z_iload_n X 0 dX11_isWidthOfSheet_0 rfl ?_
  refine z_if_eq X 22 dX11_isWidthOfSheet_1 (by decide) (fun zc1 => ?_) (fun zc1 => ?_)
  · refine z_iconst (v := 1) X dX11_isWidthOfSheet_22 (by decide) ?_
    refine z_goto X 27 dX11_isWidthOfSheet_23 (by decide) ?_
    refine z_zret X E dX11_isWidthOfSheet_27 (by first | rfl | exact b2i_nar _) (by omega) (by omega) ⟨?_, ?_, ?_⟩
    · (try simp only [ i_eq, i_lt, i_le, show (-1 : Int32).toInt = -1 by decide, show (0 : Int32).toInt = 0 by decide, show (1 : Int32).toInt = 1 by decide, show (2 : Int32).toInt = 2 by decide, show (3 : Int32).toInt = 3 by decide, show (4 : Int32).toInt = 4 by decide, show (5 : Int32).toInt = 5 by decide, show (6 : Int32).toInt = 6 by decide, show (7 : Int32).toInt = 7 by decide, show (8 : Int32).toInt = 8 by decide, show (9 : Int32).toInt = 9 by decide, show (10 : Int32).toInt = 10 by decide, show (11 : Int32).toInt = 11 by decide, show (12 : Int32).toInt = 12 by decide, show (13 : Int32).toInt = 13 by decide, show (14 : Int32).toInt = 14 by decide, show (15 : Int32).toInt = 15 by decide, show (16 : Int32).toInt = 16 by decide, show (20 : Int32).toInt = 20 by decide, show (39 : Int32).toInt = 39 by decide, show (40 : Int32).toInt = 40 by decide, show (50 : Int32).toInt = 50 by decide, show (60 : Int32).toInt = 60 by decide, show (99 : Int32).toInt = 99 by decide, show (100 : Int32).toInt = 100 by decide, show (999 : Int32).toInt = 999 by decide, show (9999 : Int32).toInt = 9999 by decide, show (99999 : Int32).toInt = 99999 by decide, show (999999 : Int32).toInt = 999999 by decide, show (9999999 : Int32).toInt = 9999999 by decide, show (-50 : Int32).toInt = -50 by decide, show (32 : Int32).toInt = 32 by decide] at *); first | (refine congrArg (fun z => some (Value.int z)) (b2i_1 ?_).symm; omega) | (refine congrArg (fun z => some (Value.int z)) (b2i_0 ?_).symm; omega)
    · first | rfl | (funext zz; simp only [va_up]; (repeat' split) <;> first | rfl | (exfalso; omega) | simp_all)
    · rfl
  · refine z_iload_n X 0 dX11_isWidthOfSheet_4 rfl ?_
    refine z_bipush (v := 8) X dX11_isWidthOfSheet_5 (by decide) ?_
    refine z_icmp_eq X 22 dX11_isWidthOfSheet_7 (by decide) (fun zc2 => ?_) (fun zc2 => ?_)
    · refine z_iconst (v := 1) X dX11_isWidthOfSheet_22 (by decide) ?_
      refine z_goto X 27 dX11_isWidthOfSheet_23 (by decide) ?_
      refine z_zret X E dX11_isWidthOfSheet_27 (by first | rfl | exact b2i_nar _) (by omega) (by omega) ⟨?_, ?_, ?_⟩
      · (try simp only [ i_eq, i_lt, i_le, show (-1 : Int32).toInt = -1 by decide, show (0 : Int32).toInt = 0 by decide, show (1 : Int32).toInt = 1 by decide, show (2 : Int32).toInt = 2 by decide, show (3 : Int32).toInt = 3 by decide, show (4 : Int32).toInt = 4 by decide, show (5 : Int32).toInt = 5 by decide, show (6 : Int32).toInt = 6 by decide, show (7 : Int32).toInt = 7 by decide, show (8 : Int32).toInt = 8 by decide, show (9 : Int32).toInt = 9 by decide, show (10 : Int32).toInt = 10 by decide, show (11 : Int32).toInt = 11 by decide, show (12 : Int32).toInt = 12 by decide, show (13 : Int32).toInt = 13 by decide, show (14 : Int32).toInt = 14 by decide, show (15 : Int32).toInt = 15 by decide, show (16 : Int32).toInt = 16 by decide, show (20 : Int32).toInt = 20 by decide, show (39 : Int32).toInt = 39 by decide, show (40 : Int32).toInt = 40 by decide, show (50 : Int32).toInt = 50 by decide, show (60 : Int32).toInt = 60 by decide, show (99 : Int32).toInt = 99 by decide, show (100 : Int32).toInt = 100 by decide, show (999 : Int32).toInt = 999 by decide, show (9999 : Int32).toInt = 9999 by decide, show (99999 : Int32).toInt = 99999 by decide, show (999999 : Int32).toInt = 999999 by decide, show (9999999 : Int32).toInt = 9999999 by decide, show (-50 : Int32).toInt = -50 by decide, show (32 : Int32).toInt = 32 by decide] at *); first | (refine congrArg (fun z => some (Value.int z)) (b2i_1 ?_).symm; omega) | (refine congrArg (fun z => some (Value.int z)) (b2i_0 ?_).symm; omega)
      · first | rfl | (funext zz; simp only [va_up]; (repeat' split) <;> first | rfl | (exfalso; omega) | simp_all)
      · rfl
    · refine z_iload_n X 0 dX11_isWidthOfSheet_10 rfl ?_
      refine z_bipush (v := 16) X dX11_isWidthOfSheet_11 (by decide) ?_
      refine z_icmp_eq X 22 dX11_isWidthOfSheet_13 (by decide) (fun zc3 => ?_) (fun zc3 => ?_)
      · refine z_iconst (v := 1) X dX11_isWidthOfSheet_22 (by decide) ?_
        refine z_goto X 27 dX11_isWidthOfSheet_23 (by decide) ?_
        refine z_zret X E dX11_isWidthOfSheet_27 (by first | rfl | exact b2i_nar _) (by omega) (by omega) ⟨?_, ?_, ?_⟩
        · (try simp only [ i_eq, i_lt, i_le, show (-1 : Int32).toInt = -1 by decide, show (0 : Int32).toInt = 0 by decide, show (1 : Int32).toInt = 1 by decide, show (2 : Int32).toInt = 2 by decide, show (3 : Int32).toInt = 3 by decide, show (4 : Int32).toInt = 4 by decide, show (5 : Int32).toInt = 5 by decide, show (6 : Int32).toInt = 6 by decide, show (7 : Int32).toInt = 7 by decide, show (8 : Int32).toInt = 8 by decide, show (9 : Int32).toInt = 9 by decide, show (10 : Int32).toInt = 10 by decide, show (11 : Int32).toInt = 11 by decide, show (12 : Int32).toInt = 12 by decide, show (13 : Int32).toInt = 13 by decide, show (14 : Int32).toInt = 14 by decide, show (15 : Int32).toInt = 15 by decide, show (16 : Int32).toInt = 16 by decide, show (20 : Int32).toInt = 20 by decide, show (39 : Int32).toInt = 39 by decide, show (40 : Int32).toInt = 40 by decide, show (50 : Int32).toInt = 50 by decide, show (60 : Int32).toInt = 60 by decide, show (99 : Int32).toInt = 99 by decide, show (100 : Int32).toInt = 100 by decide, show (999 : Int32).toInt = 999 by decide, show (9999 : Int32).toInt = 9999 by decide, show (99999 : Int32).toInt = 99999 by decide, show (999999 : Int32).toInt = 999999 by decide, show (9999999 : Int32).toInt = 9999999 by decide, show (-50 : Int32).toInt = -50 by decide, show (32 : Int32).toInt = 32 by decide] at *); first | (refine congrArg (fun z => some (Value.int z)) (b2i_1 ?_).symm; omega) | (refine congrArg (fun z => some (Value.int z)) (b2i_0 ?_).symm; omega)
        · first | rfl | (funext zz; simp only [va_up]; (repeat' split) <;> first | rfl | (exfalso; omega) | simp_all)
        · rfl
      · refine z_iload_n X 0 dX11_isWidthOfSheet_16 rfl ?_
        refine z_bipush (v := 32) X dX11_isWidthOfSheet_17 (by decide) ?_
        refine z_icmp_ne X 26 dX11_isWidthOfSheet_19 (by decide) (fun zc4 => ?_) (fun zc4 => ?_)
        · refine z_iconst (v := 0) X dX11_isWidthOfSheet_26 (by decide) ?_
          refine z_zret X E dX11_isWidthOfSheet_27 (by first | rfl | exact b2i_nar _) (by omega) (by omega) ⟨?_, ?_, ?_⟩
          · (try simp only [ i_eq, i_lt, i_le, show (-1 : Int32).toInt = -1 by decide, show (0 : Int32).toInt = 0 by decide, show (1 : Int32).toInt = 1 by decide, show (2 : Int32).toInt = 2 by decide, show (3 : Int32).toInt = 3 by decide, show (4 : Int32).toInt = 4 by decide, show (5 : Int32).toInt = 5 by decide, show (6 : Int32).toInt = 6 by decide, show (7 : Int32).toInt = 7 by decide, show (8 : Int32).toInt = 8 by decide, show (9 : Int32).toInt = 9 by decide, show (10 : Int32).toInt = 10 by decide, show (11 : Int32).toInt = 11 by decide, show (12 : Int32).toInt = 12 by decide, show (13 : Int32).toInt = 13 by decide, show (14 : Int32).toInt = 14 by decide, show (15 : Int32).toInt = 15 by decide, show (16 : Int32).toInt = 16 by decide, show (20 : Int32).toInt = 20 by decide, show (39 : Int32).toInt = 39 by decide, show (40 : Int32).toInt = 40 by decide, show (50 : Int32).toInt = 50 by decide, show (60 : Int32).toInt = 60 by decide, show (99 : Int32).toInt = 99 by decide, show (100 : Int32).toInt = 100 by decide, show (999 : Int32).toInt = 999 by decide, show (9999 : Int32).toInt = 9999 by decide, show (99999 : Int32).toInt = 99999 by decide, show (999999 : Int32).toInt = 999999 by decide, show (9999999 : Int32).toInt = 9999999 by decide, show (-50 : Int32).toInt = -50 by decide, show (32 : Int32).toInt = 32 by decide] at *); first | (refine congrArg (fun z => some (Value.int z)) (b2i_1 ?_).symm; omega) | (refine congrArg (fun z => some (Value.int z)) (b2i_0 ?_).symm; omega)
          · first | rfl | (funext zz; simp only [va_up]; (repeat' split) <;> first | rfl | (exfalso; omega) | simp_all)
          · rfl
        · refine z_iconst (v := 1) X dX11_isWidthOfSheet_22 (by decide) ?_
          refine z_goto X 27 dX11_isWidthOfSheet_23 (by decide) ?_
          refine z_zret X E dX11_isWidthOfSheet_27 (by first | rfl | exact b2i_nar _) (by omega) (by omega) ⟨?_, ?_, ?_⟩
          · (try simp only [ i_eq, i_lt, i_le, show (-1 : Int32).toInt = -1 by decide, show (0 : Int32).toInt = 0 by decide, show (1 : Int32).toInt = 1 by decide, show (2 : Int32).toInt = 2 by decide, show (3 : Int32).toInt = 3 by decide, show (4 : Int32).toInt = 4 by decide, show (5 : Int32).toInt = 5 by decide, show (6 : Int32).toInt = 6 by decide, show (7 : Int32).toInt = 7 by decide, show (8 : Int32).toInt = 8 by decide, show (9 : Int32).toInt = 9 by decide, show (10 : Int32).toInt = 10 by decide, show (11 : Int32).toInt = 11 by decide, show (12 : Int32).toInt = 12 by decide, show (13 : Int32).toInt = 13 by decide, show (14 : Int32).toInt = 14 by decide, show (15 : Int32).toInt = 15 by decide, show (16 : Int32).toInt = 16 by decide, show (20 : Int32).toInt = 20 by decide, show (39 : Int32).toInt = 39 by decide, show (40 : Int32).toInt = 40 by decide, show (50 : Int32).toInt = 50 by decide, show (60 : Int32).toInt = 60 by decide, show (99 : Int32).toInt = 99 by decide, show (100 : Int32).toInt = 100 by decide, show (999 : Int32).toInt = 999 by decide, show (9999 : Int32).toInt = 9999 by decide, show (99999 : Int32).toInt = 99999 by decide, show (999999 : Int32).toInt = 999999 by decide, show (9999999 : Int32).toInt = 9999999 by decide, show (-50 : Int32).toInt = -50 by decide, show (32 : Int32).toInt = 32 by decide] at *); first | (refine congrArg (fun z => some (Value.int z)) (b2i_1 ?_).symm; omega) | (refine congrArg (fun z => some (Value.int z)) (b2i_0 ?_).symm; omega)
          · first | rfl | (funext zz; simp only [va_up]; (repeat' split) <;> first | rfl | (exfalso; omega) | simp_all)
          · rfl
abbrev sLo (w : Nat) : Int32 := [0, 0, -50, 0, 1, 0].getD w 0
abbrev sHi (w : Nat) : Int32 := [9999, 99, 99, 99, 999, 9999999].getD w 0
theorem mayB_iff {w : Nat} {v : Int32} (h : w < 6) : ((sLo w).toInt ≤ v.toInt ∧ v.toInt ≤ (sHi w).toInt) ↔ mayB (nI w) v := by
  have h6 : w = 0 ∨ w = 1 ∨ w = 2 ∨ w = 3 ∨ w = 4 ∨ w = 5 := by omega
  unfold mayB
  rw [i_nI (by omega)]
  rcases h6 with rfl | rfl | rfl | rfl | rfl | rfl <;> simp only [sLo, sHi, List.getD_cons_zero, List.getD_cons_succ, show (0 : Int32).toInt = 0 by decide, show (1 : Int32).toInt = 1 by decide, show (-50 : Int32).toInt = -50 by decide, show (99 : Int32).toInt = 99 by decide, show (999 : Int32).toInt = 999 by decide, show (9999 : Int32).toInt = 9999 by decide, show (9999999 : Int32).toInt = 9999999 by decide] <;> omega
theorem mayB_no {w v : Int32} (h : ¬ (0 ≤ w.toInt ∧ w.toInt ≤ 5)) : ¬ mayB w v := by
  unfold mayB
  omega
set_option maxHeartbeats 4000000 in
set_option maxRecDepth 100000 in
theorem c_isSetting {κ : Wc} {l : Launch} {h : Mm} {n : Nat} {w : Int32} {v : Int32}   : Con κ l yX11_isSetting cX11_isSetting 2 (some .boolean) 2 0 0 [.int w, .int v] h n (fun q h' n' => q = some (.int (b2i (mayB w v))) ∧ h' = h ∧ n' = n) := by
  refine Con.of mk_X11_isSetting (Nat.le_of_ble_eq_true rfl) (fun G hG X E => ?_)
  subst hG
  refine z_ls (ls' := [(0, .int w), (1, .int v)]) rfl ?_
  refine z_iload_n X 0 dX11_isSetting_0 rfl ?_
  refine z_iconst (v := 0) X dX11_isSetting_1 (by decide) ?_
  refine z_iconst (v := 5) X dX11_isSetting_2 (by decide) ?_
  refine z_callS X (c_within (κ := κ) (n := n) (v := (w)) (lo := (0)) (hi := (5))  ) mk_X11_within dX11_isSetting_3 wd_259 wd_257 rfl rfl (Nat.le_of_ble_eq_true rfl) (Nat.le_of_ble_eq_true rfl) (Nat.le_of_ble_eq_true rfl) (by omega) (by omega) (fun q zh1 zm3 zp4 => ?_)
  obtain ⟨rfl, ze2, zn5⟩ := zp4
  subst zm3
  subst zh1
  refine z_st (st' := [.int (b2i ((0 : Int32).toInt ≤ (w : Int32).toInt ∧ (w : Int32).toInt ≤ (5 : Int32).toInt))]) rfl ?_
  refine z_toe (y := b2i (0 ≤ w.toInt ∧ w.toInt ≤ 5)) (by simp only [show (0 : Int32).toInt = 0 by decide, show (5 : Int32).toInt = 5 by decide]) ?_
  refine z_if_eq X 30 dX11_isSetting_6 (by decide) (fun zc6 => ?_) (fun zc6 => ?_)
  · replace zc6 := b2i_f zc6
    refine z_iconst (v := 0) X dX11_isSetting_30 (by decide) ?_
    refine z_zret X E dX11_isSetting_31 (by first | rfl | exact b2i_nar _) (by omega) (by omega) ⟨?_, ?_, ?_⟩
    · rw [b2i_0 (mayB_no (by assumption))]
    · first | rfl | (funext zz; simp only [va_up]; (repeat' split) <;> first | rfl | (exfalso; omega) | simp_all)
    · rfl
  · replace zc6 := b2i_t zc6
    obtain ⟨wk, hwk, rfl⟩ := ix_of (c := w) (len := 6) (by omega) (by omega)
    refine z_iload_n X 1 dX11_isSetting_9 rfl ?_
    refine z_gets X 0 rfl dX11_isSetting_10 wd_310 ?_
    refine z_iload_n X 0 dX11_isSetting_13 rfl ?_
    refine z_ti (v := .int (sLo wk)) X 0 rfl dX11_isSetting_14 (vp_in_nI (n := wk) (by omega) (by omega)) (by rw [nI_clamp (by omega)]; rfl) ?_
    refine z_gets X 1 rfl dX11_isSetting_15 wd_312 ?_
    refine z_iload_n X 0 dX11_isSetting_18 rfl ?_
    refine z_ti (v := .int (sHi wk)) X 1 rfl dX11_isSetting_19 (vp_in_nI (n := wk) (by omega) (by omega)) (by rw [nI_clamp (by omega)]; rfl) ?_
    refine z_callS X (c_within (κ := κ) (n := n) (v := (v)) (lo := (sLo wk)) (hi := (sHi wk))  ) mk_X11_within dX11_isSetting_20 wd_259 wd_257 rfl rfl (Nat.le_of_ble_eq_true rfl) (Nat.le_of_ble_eq_true rfl) (Nat.le_of_ble_eq_true rfl) (by omega) (by omega) (fun q zh7 zm9 zp10 => ?_)
    obtain ⟨rfl, ze8, zn11⟩ := zp10
    subst zm9
    subst zh7
    refine z_st (st' := [.int (b2i ((sLo wk : Int32).toInt ≤ (v : Int32).toInt ∧ (v : Int32).toInt ≤ (sHi wk : Int32).toInt))]) rfl ?_
    refine z_toe (y := b2i ((sLo wk).toInt ≤ v.toInt ∧ v.toInt ≤ (sHi wk).toInt)) (rfl) ?_
    refine z_if_eq X 30 dX11_isSetting_23 (by decide) (fun zc12 => ?_) (fun zc12 => ?_)
    · replace zc12 := b2i_f zc12
      refine z_iconst (v := 0) X dX11_isSetting_30 (by decide) ?_
      refine z_zret X E dX11_isSetting_31 (by first | rfl | exact b2i_nar _) (by omega) (by omega) ⟨?_, ?_, ?_⟩
      · first | rw [b2i_1 ((mayB_iff (by omega)).mp (by assumption))] | rw [b2i_0 (mt (mayB_iff (by omega)).mpr (by assumption))]
      · first | rfl | (funext zz; simp only [va_up]; (repeat' split) <;> first | rfl | (exfalso; omega) | simp_all)
      · rfl
    · replace zc12 := b2i_t zc12
      refine z_iconst (v := 1) X dX11_isSetting_26 (by decide) ?_
      refine z_goto X 31 dX11_isSetting_27 (by decide) ?_
      refine z_zret X E dX11_isSetting_31 (by first | rfl | exact b2i_nar _) (by omega) (by omega) ⟨?_, ?_, ?_⟩
      · first | rw [b2i_1 ((mayB_iff (by omega)).mp (by assumption))] | rw [b2i_0 (mt (mayB_iff (by omega)).mpr (by assumption))]
      · first | rfl | (funext zz; simp only [va_up]; (repeat' split) <;> first | rfl | (exfalso; omega) | simp_all)
      · rfl
set_option maxHeartbeats 4000000 in
set_option maxRecDepth 100000 in
theorem c_onOf {κ : Wc} {l : Launch} {h : Mm} {n : Nat} {o : Nat} {im : Int32} {d : Nat → Int32} {len : Nat} {nc : Nat} {cold : Int32} {wind : Int32} {c : Int32} (K0 : h o = some (.inr (11, [.ref (o + 1), .ref (o + 14), .ref (o + 27), .ref (o + 33), .ref (o + 42), .ref (o + 55), .ref (o + 57), .ref (o + 59), .ref (o + 61), .int im]))) (K1 : h (o + 1) = some (.inr (3, [.ref (o + 1 + 1), .ref (o + 1 + 7), .ref (o + 1 + 9), .ref (o + 1 + 11), .int (d 13)]))) (K2 : h (o + 2) = some (.inr (2, [.ref (o + 3), .ref (o + 4), .ref (o + 5), .ref (o + 6), .ref (o + 7), .int (nI len), .int (d 0), .int (d 2), .int (d 3), .int (nI nc), .int (d 10), .int cold, .int wind])))  : Con κ l yX11_onOf cX11_onOf 2 (some .int) 1 0 0 [.ref o, .int c] h n (fun q h' n' => q = some (.int (d 10 >>> (c &&& 31) &&& 1)) ∧ h' = h ∧ n' = n) := by
  refine Con.of mk_X11_onOf (Nat.le_of_ble_eq_true rfl) (fun G hG X E => ?_)
  subst hG
  refine z_ls (ls' := [(0, .ref o), (1, .int c)]) rfl ?_
  refine z_aload_n X 0 dX11_onOf_0 rfl ?_
  refine z_get X fl_X11_10_11 dX11_onOf_1 K0 rfl ?_
  refine z_get X fl_X11_56_3 dX11_onOf_4 K1 rfl ?_
  refine z_get X fl_X11_128_2 dX11_onOf_7 K2 rfl ?_
  refine z_iload_n X 1 dX11_onOf_10 rfl ?_
  refine z_ishr X dX11_onOf_11 ?_
  refine z_iconst (v := 1) X dX11_onOf_12 (by decide) ?_
  refine z_iand X dX11_onOf_13 ?_
  refine z_iret X E dX11_onOf_14 (by omega) (by omega) ⟨?_, ?_, ?_⟩
  · rfl
  · first | rfl | (funext zz; simp only [va_up]; (repeat' split) <;> first | rfl | (exfalso; omega) | simp_all)
  · rfl
set_option maxHeartbeats 4000000 in
set_option maxRecDepth 100000 in
theorem c_causeAt_s {κ : Wc} {l : Launch} {h : Mm} {n : Nat} {o : Nat} {im : Int32} {d : Nat → Int32} {len : Nat} {nc : Nat} {cold : Int32} {wind : Int32} {cs : Nat → Option Nat} {ck : Nat} {a : Nat} (K0 : h o = some (.inr (11, [.ref (o + 1), .ref (o + 14), .ref (o + 27), .ref (o + 33), .ref (o + 42), .ref (o + 55), .ref (o + 57), .ref (o + 59), .ref (o + 61), .int im]))) (K1 : h (o + 1) = some (.inr (3, [.ref (o + 1 + 1), .ref (o + 1 + 7), .ref (o + 1 + 9), .ref (o + 1 + 11), .int (d 13)]))) (K2 : h (o + 2) = some (.inr (2, [.ref (o + 3), .ref (o + 4), .ref (o + 5), .ref (o + 6), .ref (o + 7), .int (nI len), .int (d 0), .int (d 2), .int (d 3), .int (nI nc), .int (d 10), .int cold, .int wind]))) (K3 : h (o + 6) = arR κ 1 6 cs) (q5 : nc ≤ 6) (p1 : ck < nc) (p2 : cs ck = some a) : Con κ l yX11_causeAt cX11_causeAt 3 (some (.object "IcicleRings$Cause")) 2 0 0 [.ref o, .int (nI ck)] h n (fun q h' n' => q = some (.ref a) ∧ h' = h ∧ n' = n) := by
  refine Con.of mk_X11_causeAt (Nat.le_of_ble_eq_true rfl) (fun G hG X E => ?_)
  subst hG
  refine z_ls (ls' := [(0, .ref o), (1, .int (nI ck))]) rfl ?_
  refine z_aload_n X 0 dX11_causeAt_0 rfl ?_
  refine z_get X fl_X11_10_11 dX11_causeAt_1 K0 rfl ?_
  refine z_get X fl_X11_56_3 dX11_causeAt_4 K1 rfl ?_
  refine z_astore_n (ls' := [(2, .ref (o + 1 + 1)), (0, .ref o), (1, .int (nI ck))]) X dX11_causeAt_7 (by decide) rfl ?_
  refine z_iload_n X 2 dX11_causeAt_8 rfl ?_
  refine z_iconst (v := 0) X dX11_causeAt_9 (by decide) ?_
  refine z_aload_n X 0 dX11_causeAt_10 rfl ?_
  refine z_get X fl_X11_117_2 dX11_causeAt_11 K2 rfl ?_
  refine z_iconst (v := 1) X dX11_causeAt_14 (by decide) ?_
  refine z_isub X dX11_causeAt_15 ?_
  refine z_callS X (c_within (κ := κ) (n := n) (v := (nI ck)) (lo := (0)) (hi := ((nI nc) - 1))  ) mk_X11_within dX11_causeAt_16 wd_259 wd_257 rfl rfl (Nat.le_of_ble_eq_true rfl) (Nat.le_of_ble_eq_true rfl) (Nat.le_of_ble_eq_true rfl) (by omega) (by omega) (fun q zh1 zm3 zp4 => ?_)
  obtain ⟨rfl, ze2, zn5⟩ := zp4
  subst zm3
  subst zh1
  refine z_st (st' := [.int (b2i ((0 : Int32).toInt ≤ (nI ck : Int32).toInt ∧ (nI ck : Int32).toInt ≤ ((nI nc) - 1 : Int32).toInt))]) rfl ?_
  refine z_toe (y := b2i (0 ≤ ((ck : Nat) : Int) ∧ ((ck : Nat) : Int) ≤ ((nc : Nat) : Int) - 1)) (by simp only [i_m1 (n := nc) (by omega), i_nI (n := ck) (by omega), show (0 : Int32).toInt = 0 by decide]) ?_
  refine z_if_eq X 31 dX11_causeAt_19 (by decide) (fun zc6 => ?_) (fun zc6 => ?_)
  · replace zc6 := b2i_f zc6
    (exfalso; omega)
  · replace zc6 := b2i_t zc6
    refine z_aload_n X 0 dX11_causeAt_22 rfl ?_
    refine z_get X fl_X11_120_2 dX11_causeAt_23 K2 rfl ?_
    refine z_iload_n X 2 dX11_causeAt_26 rfl ?_
    refine z_aald (t := 1) (v := .ref a) X dX11_causeAt_27 K3 rfl (vp_in_nI (n := ck) (by omega) (by omega)) (by rw [nI_clamp (by omega), p2]; rfl) ?_
    refine z_goto X 32 dX11_causeAt_28 (by decide) ?_
    refine z_aret X E (Or.inr ⟨_, rfl⟩) dX11_causeAt_32 (by omega) (by omega) ⟨?_, ?_, ?_⟩
    · rfl
    · first | rfl | (funext zz; simp only [va_up]; (repeat' split) <;> first | rfl | (exfalso; omega) | simp_all)
    · rfl
set_option maxHeartbeats 4000000 in
set_option maxRecDepth 100000 in
theorem c_causeAt_n {κ : Wc} {l : Launch} {h : Mm} {n : Nat} {o : Nat} {im : Int32} {d : Nat → Int32} {len : Nat} {nc : Nat} {cold : Int32} {wind : Int32} {cs : Nat → Option Nat} {c : Int32} (K0 : h o = some (.inr (11, [.ref (o + 1), .ref (o + 14), .ref (o + 27), .ref (o + 33), .ref (o + 42), .ref (o + 55), .ref (o + 57), .ref (o + 59), .ref (o + 61), .int im]))) (K1 : h (o + 1) = some (.inr (3, [.ref (o + 1 + 1), .ref (o + 1 + 7), .ref (o + 1 + 9), .ref (o + 1 + 11), .int (d 13)]))) (K2 : h (o + 2) = some (.inr (2, [.ref (o + 3), .ref (o + 4), .ref (o + 5), .ref (o + 6), .ref (o + 7), .int (nI len), .int (d 0), .int (d 2), .int (d 3), .int (nI nc), .int (d 10), .int cold, .int wind]))) (K3 : h (o + 6) = arR κ 1 6 cs) (q5 : nc ≤ 6) (p1 : ¬ (0 ≤ c.toInt ∧ c.toInt ≤ ((nc : Nat) : Int) - 1)) : Con κ l yX11_causeAt cX11_causeAt 3 (some (.object "IcicleRings$Cause")) 2 0 0 [.ref o, .int c] h n (fun q h' n' => q = some (.null) ∧ h' = h ∧ n' = n) := by
  refine Con.of mk_X11_causeAt (Nat.le_of_ble_eq_true rfl) (fun G hG X E => ?_)
  subst hG
  refine z_ls (ls' := [(0, .ref o), (1, .int c)]) rfl ?_
  refine z_aload_n X 0 dX11_causeAt_0 rfl ?_
  refine z_get X fl_X11_10_11 dX11_causeAt_1 K0 rfl ?_
  refine z_get X fl_X11_56_3 dX11_causeAt_4 K1 rfl ?_
  refine z_astore_n (ls' := [(2, .ref (o + 1 + 1)), (0, .ref o), (1, .int c)]) X dX11_causeAt_7 (by decide) rfl ?_
  refine z_iload_n X 2 dX11_causeAt_8 rfl ?_
  refine z_iconst (v := 0) X dX11_causeAt_9 (by decide) ?_
  refine z_aload_n X 0 dX11_causeAt_10 rfl ?_
  refine z_get X fl_X11_117_2 dX11_causeAt_11 K2 rfl ?_
  refine z_iconst (v := 1) X dX11_causeAt_14 (by decide) ?_
  refine z_isub X dX11_causeAt_15 ?_
  refine z_callS X (c_within (κ := κ) (n := n) (v := (c)) (lo := (0)) (hi := ((nI nc) - 1))  ) mk_X11_within dX11_causeAt_16 wd_259 wd_257 rfl rfl (Nat.le_of_ble_eq_true rfl) (Nat.le_of_ble_eq_true rfl) (Nat.le_of_ble_eq_true rfl) (by omega) (by omega) (fun q zh1 zm3 zp4 => ?_)
  obtain ⟨rfl, ze2, zn5⟩ := zp4
  subst zm3
  subst zh1
  refine z_st (st' := [.int (b2i ((0 : Int32).toInt ≤ (c : Int32).toInt ∧ (c : Int32).toInt ≤ ((nI nc) - 1 : Int32).toInt))]) rfl ?_
  refine z_toe (y := b2i (0 ≤ c.toInt ∧ c.toInt ≤ ((nc : Nat) : Int) - 1)) (by simp only [i_m1 (n := nc) (by omega), show (0 : Int32).toInt = 0 by decide]) ?_
  refine z_if_eq X 31 dX11_causeAt_19 (by decide) (fun zc6 => ?_) (fun zc6 => ?_)
  · replace zc6 := b2i_f zc6
    refine z_null X dX11_causeAt_31 ?_
    refine z_aret X E (Or.inl rfl) dX11_causeAt_32 (by omega) (by omega) ⟨?_, ?_, ?_⟩
    · rfl
    · first | rfl | (funext zz; simp only [va_up]; (repeat' split) <;> first | rfl | (exfalso; omega) | simp_all)
    · rfl
  · replace zc6 := b2i_t zc6
    exact absurd (by assumption) p1
set_option maxHeartbeats 4000000 in
set_option maxRecDepth 100000 in
theorem c_newCause_0 {κ : Wc} {l : Launch} {h : Mm} {n : Nat} {nb : Int32} {em : Int32}   : Con κ l yX11_newCause cX11_newCause 3 (some (.object "IcicleRings$Cause")) 7 1 3 [.int 0, .int nb, .int em] h n (fun q h' n' => q = some (.ref n) ∧ h' = va_up h n (some (.inr (0, [.int 0, .int nb, .int em]))) ∧ n' = n + 1) := by
  refine Con.of mk_X11_newCause (Nat.le_of_ble_eq_true rfl) (fun G hG X E => ?_)
  subst hG
  refine z_ls (ls' := [(0, .int 0), (1, .int nb), (2, .int em)]) rfl ?_
  refine z_iload_n X 0 dX11_newCause_0 rfl ?_
  refine z_tableOut X 106 dX11_newCause_1 (by decide) (by decide) ?_
  refine z_new X fn_X0 dX11_newCause_106 wd_402 (by omega) (by omega) ?_
  obtain ⟨zh1, ze2⟩ : ∃ z : Mm, z = va_up h n (some (.inr (0, [.int 0, .int 0, .int 0]))) := ⟨_, rfl⟩
  refine z_heap (h' := zh1) ze2.symm ?_
  have zK3 := up_at ze2
  refine z_dup X dX11_newCause_109 rfl ?_
  refine z_iload_n X 0 dX11_newCause_110 rfl ?_
  refine z_iload_n X 1 dX11_newCause_111 rfl ?_
  refine z_iload_n X 2 dX11_newCause_112 rfl ?_
  refine z_callI X (k_init_0_0 (κ := κ) (n := n + 1) (a := (n)) (kd := (0)) (nb := (nb)) (em := (em)) zK3 ) mk_X0_init dX11_newCause_113 wd_404 wd_327 rfl rfl rfl (Nat.le_of_ble_eq_true rfl) (Nat.le_of_ble_eq_true rfl) (Nat.le_of_ble_eq_true rfl) (by omega) (by omega) (fun q zh4 zm6 zp7 => ?_)
  obtain ⟨rfl, ze5, zn8⟩ := zp7
  subst zm6
  refine z_st (st' := [.ref n]) rfl ?_
  have zK9 : zh4 n = some (.inr (0, [.int 0, .int nb, .int em])) := by rw [ze5]; exact va_up_self _ _ _
  refine z_aret X E (Or.inr ⟨_, rfl⟩) dX11_newCause_116 (by omega) (by omega) ⟨?_, ?_, ?_⟩
  · rfl
  · funext zz; by_cases zq0 : zz = n; (rw [zq0, va_up_self]; exact zK9); rw [va_up_ne _ _ zq0]; rw [ze5, ze2]; simp only [va_up, if_neg zq0]
  · rfl
set_option maxHeartbeats 4000000 in
set_option maxRecDepth 100000 in
theorem c_newCause_1 {κ : Wc} {l : Launch} {h : Mm} {n : Nat} {nb : Int32} {em : Int32}   : Con κ l yX11_newCause cX11_newCause 3 (some (.object "IcicleRings$Cause")) 7 1 3 [.int 1, .int nb, .int em] h n (fun q h' n' => q = some (.ref n) ∧ h' = va_up h n (some (.inr (10, [.int 1, .int nb, .int em]))) ∧ n' = n + 1) := by
  refine Con.of mk_X11_newCause (Nat.le_of_ble_eq_true rfl) (fun G hG X E => ?_)
  subst hG
  refine z_ls (ls' := [(0, .int 1), (1, .int nb), (2, .int em)]) rfl ?_
  refine z_iload_n X 0 dX11_newCause_0 rfl ?_
  refine z_tableIn (off := 39) X 40 dX11_newCause_1 (by decide) (by decide) (by decide) (by decide) ?_
  refine z_new X fn_X10 dX11_newCause_40 wd_321 (by omega) (by omega) ?_
  obtain ⟨zh1, ze2⟩ : ∃ z : Mm, z = va_up h n (some (.inr (10, [.int 0, .int 0, .int 0]))) := ⟨_, rfl⟩
  refine z_heap (h' := zh1) ze2.symm ?_
  have zK3 := up_at ze2
  refine z_dup X dX11_newCause_43 rfl ?_
  refine z_iload_n X 0 dX11_newCause_44 rfl ?_
  refine z_iload_n X 1 dX11_newCause_45 rfl ?_
  refine z_iload_n X 2 dX11_newCause_46 rfl ?_
  refine z_callI X (k_init_1_1 (κ := κ) (n := n + 1) (a := (n)) (kd := (1)) (nb := (nb)) (em := (em)) zK3 ) mk_X10_init dX11_newCause_47 wd_323 wd_324 rfl rfl rfl (Nat.le_of_ble_eq_true rfl) (Nat.le_of_ble_eq_true rfl) (Nat.le_of_ble_eq_true rfl) (by omega) (by omega) (fun q zh4 zm6 zp7 => ?_)
  obtain ⟨rfl, ze5, zn8⟩ := zp7
  subst zm6
  refine z_st (st' := [.ref n]) rfl ?_
  have zK9 : zh4 n = some (.inr (10, [.int 1, .int nb, .int em])) := by rw [ze5]; exact va_up_self _ _ _
  refine z_aret X E (Or.inr ⟨_, rfl⟩) dX11_newCause_50 (by omega) (by omega) ⟨?_, ?_, ?_⟩
  · rfl
  · funext zz; by_cases zq0 : zz = n; (rw [zq0, va_up_self]; exact zK9); rw [va_up_ne _ _ zq0]; rw [ze5, ze2]; simp only [va_up, if_neg zq0]
  · rfl
set_option maxHeartbeats 4000000 in
set_option maxRecDepth 100000 in
theorem c_newCause_2 {κ : Wc} {l : Launch} {h : Mm} {n : Nat} {nb : Int32} {em : Int32}   : Con κ l yX11_newCause cX11_newCause 3 (some (.object "IcicleRings$Cause")) 7 1 3 [.int 2, .int nb, .int em] h n (fun q h' n' => q = some (.ref n) ∧ h' = va_up h n (some (.inr (8, [.int 2, .int nb, .int em]))) ∧ n' = n + 1) := by
  refine Con.of mk_X11_newCause (Nat.le_of_ble_eq_true rfl) (fun G hG X E => ?_)
  subst hG
  refine z_ls (ls' := [(0, .int 2), (1, .int nb), (2, .int em)]) rfl ?_
  refine z_iload_n X 0 dX11_newCause_0 rfl ?_
  refine z_tableIn (off := 50) X 51 dX11_newCause_1 (by decide) (by decide) (by decide) (by decide) ?_
  refine z_new X fn_X8 dX11_newCause_51 wd_352 (by omega) (by omega) ?_
  obtain ⟨zh1, ze2⟩ : ∃ z : Mm, z = va_up h n (some (.inr (8, [.int 0, .int 0, .int 0]))) := ⟨_, rfl⟩
  refine z_heap (h' := zh1) ze2.symm ?_
  have zK3 := up_at ze2
  refine z_dup X dX11_newCause_54 rfl ?_
  refine z_iload_n X 0 dX11_newCause_55 rfl ?_
  refine z_iload_n X 1 dX11_newCause_56 rfl ?_
  refine z_iload_n X 2 dX11_newCause_57 rfl ?_
  refine z_callI X (k_init_2_2 (κ := κ) (n := n + 1) (a := (n)) (kd := (2)) (nb := (nb)) (em := (em)) zK3 ) mk_X8_init dX11_newCause_58 wd_354 wd_355 rfl rfl rfl (Nat.le_of_ble_eq_true rfl) (Nat.le_of_ble_eq_true rfl) (Nat.le_of_ble_eq_true rfl) (by omega) (by omega) (fun q zh4 zm6 zp7 => ?_)
  obtain ⟨rfl, ze5, zn8⟩ := zp7
  subst zm6
  refine z_st (st' := [.ref n]) rfl ?_
  have zK9 : zh4 n = some (.inr (8, [.int 2, .int nb, .int em])) := by rw [ze5]; exact va_up_self _ _ _
  refine z_aret X E (Or.inr ⟨_, rfl⟩) dX11_newCause_61 (by omega) (by omega) ⟨?_, ?_, ?_⟩
  · rfl
  · funext zz; by_cases zq0 : zz = n; (rw [zq0, va_up_self]; exact zK9); rw [va_up_ne _ _ zq0]; rw [ze5, ze2]; simp only [va_up, if_neg zq0]
  · rfl
set_option maxHeartbeats 4000000 in
set_option maxRecDepth 100000 in
theorem c_newCause_3 {κ : Wc} {l : Launch} {h : Mm} {n : Nat} {nb : Int32} {em : Int32}   : Con κ l yX11_newCause cX11_newCause 3 (some (.object "IcicleRings$Cause")) 7 1 3 [.int 3, .int nb, .int em] h n (fun q h' n' => q = some (.ref n) ∧ h' = va_up h n (some (.inr (5, [.int 3, .int nb, .int em]))) ∧ n' = n + 1) := by
  refine Con.of mk_X11_newCause (Nat.le_of_ble_eq_true rfl) (fun G hG X E => ?_)
  subst hG
  refine z_ls (ls' := [(0, .int 3), (1, .int nb), (2, .int em)]) rfl ?_
  refine z_iload_n X 0 dX11_newCause_0 rfl ?_
  refine z_tableIn (off := 61) X 62 dX11_newCause_1 (by decide) (by decide) (by decide) (by decide) ?_
  refine z_new X fn_X5 dX11_newCause_62 wd_362 (by omega) (by omega) ?_
  obtain ⟨zh1, ze2⟩ : ∃ z : Mm, z = va_up h n (some (.inr (5, [.int 0, .int 0, .int 0]))) := ⟨_, rfl⟩
  refine z_heap (h' := zh1) ze2.symm ?_
  have zK3 := up_at ze2
  refine z_dup X dX11_newCause_65 rfl ?_
  refine z_iload_n X 0 dX11_newCause_66 rfl ?_
  refine z_iload_n X 1 dX11_newCause_67 rfl ?_
  refine z_iload_n X 2 dX11_newCause_68 rfl ?_
  refine z_callI X (k_init_3_3 (κ := κ) (n := n + 1) (a := (n)) (kd := (3)) (nb := (nb)) (em := (em)) zK3 ) mk_X5_init dX11_newCause_69 wd_364 wd_365 rfl rfl rfl (Nat.le_of_ble_eq_true rfl) (Nat.le_of_ble_eq_true rfl) (Nat.le_of_ble_eq_true rfl) (by omega) (by omega) (fun q zh4 zm6 zp7 => ?_)
  obtain ⟨rfl, ze5, zn8⟩ := zp7
  subst zm6
  refine z_st (st' := [.ref n]) rfl ?_
  have zK9 : zh4 n = some (.inr (5, [.int 3, .int nb, .int em])) := by rw [ze5]; exact va_up_self _ _ _
  refine z_aret X E (Or.inr ⟨_, rfl⟩) dX11_newCause_72 (by omega) (by omega) ⟨?_, ?_, ?_⟩
  · rfl
  · funext zz; by_cases zq0 : zz = n; (rw [zq0, va_up_self]; exact zK9); rw [va_up_ne _ _ zq0]; rw [ze5, ze2]; simp only [va_up, if_neg zq0]
  · rfl
set_option maxHeartbeats 4000000 in
set_option maxRecDepth 100000 in
theorem c_newCause_4 {κ : Wc} {l : Launch} {h : Mm} {n : Nat} {nb : Int32} {em : Int32}   : Con κ l yX11_newCause cX11_newCause 3 (some (.object "IcicleRings$Cause")) 7 1 3 [.int 4, .int nb, .int em] h n (fun q h' n' => q = some (.ref n) ∧ h' = va_up h n (some (.inr (7, [.int 4, .int nb, .int em]))) ∧ n' = n + 1) := by
  refine Con.of mk_X11_newCause (Nat.le_of_ble_eq_true rfl) (fun G hG X E => ?_)
  subst hG
  refine z_ls (ls' := [(0, .int 4), (1, .int nb), (2, .int em)]) rfl ?_
  refine z_iload_n X 0 dX11_newCause_0 rfl ?_
  refine z_tableIn (off := 72) X 73 dX11_newCause_1 (by decide) (by decide) (by decide) (by decide) ?_
  refine z_new X fn_X7 dX11_newCause_73 wd_372 (by omega) (by omega) ?_
  obtain ⟨zh1, ze2⟩ : ∃ z : Mm, z = va_up h n (some (.inr (7, [.int 0, .int 0, .int 0]))) := ⟨_, rfl⟩
  refine z_heap (h' := zh1) ze2.symm ?_
  have zK3 := up_at ze2
  refine z_dup X dX11_newCause_76 rfl ?_
  refine z_iload_n X 0 dX11_newCause_77 rfl ?_
  refine z_iload_n X 1 dX11_newCause_78 rfl ?_
  refine z_iload_n X 2 dX11_newCause_79 rfl ?_
  refine z_callI X (k_init_4_4 (κ := κ) (n := n + 1) (a := (n)) (kd := (4)) (nb := (nb)) (em := (em)) zK3 ) mk_X7_init dX11_newCause_80 wd_374 wd_375 rfl rfl rfl (Nat.le_of_ble_eq_true rfl) (Nat.le_of_ble_eq_true rfl) (Nat.le_of_ble_eq_true rfl) (by omega) (by omega) (fun q zh4 zm6 zp7 => ?_)
  obtain ⟨rfl, ze5, zn8⟩ := zp7
  subst zm6
  refine z_st (st' := [.ref n]) rfl ?_
  have zK9 : zh4 n = some (.inr (7, [.int 4, .int nb, .int em])) := by rw [ze5]; exact va_up_self _ _ _
  refine z_aret X E (Or.inr ⟨_, rfl⟩) dX11_newCause_83 (by omega) (by omega) ⟨?_, ?_, ?_⟩
  · rfl
  · funext zz; by_cases zq0 : zz = n; (rw [zq0, va_up_self]; exact zK9); rw [va_up_ne _ _ zq0]; rw [ze5, ze2]; simp only [va_up, if_neg zq0]
  · rfl
set_option maxHeartbeats 4000000 in
set_option maxRecDepth 100000 in
theorem c_newCause_5 {κ : Wc} {l : Launch} {h : Mm} {n : Nat} {nb : Int32} {em : Int32}   : Con κ l yX11_newCause cX11_newCause 3 (some (.object "IcicleRings$Cause")) 7 1 3 [.int 5, .int nb, .int em] h n (fun q h' n' => q = some (.ref n) ∧ h' = va_up h n (some (.inr (4, [.int 5, .int nb, .int em]))) ∧ n' = n + 1) := by
  refine Con.of mk_X11_newCause (Nat.le_of_ble_eq_true rfl) (fun G hG X E => ?_)
  subst hG
  refine z_ls (ls' := [(0, .int 5), (1, .int nb), (2, .int em)]) rfl ?_
  refine z_iload_n X 0 dX11_newCause_0 rfl ?_
  refine z_tableIn (off := 83) X 84 dX11_newCause_1 (by decide) (by decide) (by decide) (by decide) ?_
  refine z_new X fn_X4 dX11_newCause_84 wd_382 (by omega) (by omega) ?_
  obtain ⟨zh1, ze2⟩ : ∃ z : Mm, z = va_up h n (some (.inr (4, [.int 0, .int 0, .int 0]))) := ⟨_, rfl⟩
  refine z_heap (h' := zh1) ze2.symm ?_
  have zK3 := up_at ze2
  refine z_dup X dX11_newCause_87 rfl ?_
  refine z_iload_n X 0 dX11_newCause_88 rfl ?_
  refine z_iload_n X 1 dX11_newCause_89 rfl ?_
  refine z_iload_n X 2 dX11_newCause_90 rfl ?_
  refine z_callI X (k_init_5_5 (κ := κ) (n := n + 1) (a := (n)) (kd := (5)) (nb := (nb)) (em := (em)) zK3 ) mk_X4_init dX11_newCause_91 wd_384 wd_385 rfl rfl rfl (Nat.le_of_ble_eq_true rfl) (Nat.le_of_ble_eq_true rfl) (Nat.le_of_ble_eq_true rfl) (by omega) (by omega) (fun q zh4 zm6 zp7 => ?_)
  obtain ⟨rfl, ze5, zn8⟩ := zp7
  subst zm6
  refine z_st (st' := [.ref n]) rfl ?_
  have zK9 : zh4 n = some (.inr (4, [.int 5, .int nb, .int em])) := by rw [ze5]; exact va_up_self _ _ _
  refine z_aret X E (Or.inr ⟨_, rfl⟩) dX11_newCause_94 (by omega) (by omega) ⟨?_, ?_, ?_⟩
  · rfl
  · funext zz; by_cases zq0 : zz = n; (rw [zq0, va_up_self]; exact zK9); rw [va_up_ne _ _ zq0]; rw [ze5, ze2]; simp only [va_up, if_neg zq0]
  · rfl
set_option maxHeartbeats 4000000 in
set_option maxRecDepth 100000 in
theorem c_newCause_6 {κ : Wc} {l : Launch} {h : Mm} {n : Nat} {nb : Int32} {em : Int32}   : Con κ l yX11_newCause cX11_newCause 3 (some (.object "IcicleRings$Cause")) 7 1 3 [.int 6, .int nb, .int em] h n (fun q h' n' => q = some (.ref n) ∧ h' = va_up h n (some (.inr (1, [.int 6, .int nb, .int em]))) ∧ n' = n + 1) := by
  refine Con.of mk_X11_newCause (Nat.le_of_ble_eq_true rfl) (fun G hG X E => ?_)
  subst hG
  refine z_ls (ls' := [(0, .int 6), (1, .int nb), (2, .int em)]) rfl ?_
  refine z_iload_n X 0 dX11_newCause_0 rfl ?_
  refine z_tableIn (off := 94) X 95 dX11_newCause_1 (by decide) (by decide) (by decide) (by decide) ?_
  refine z_new X fn_X1 dX11_newCause_95 wd_392 (by omega) (by omega) ?_
  obtain ⟨zh1, ze2⟩ : ∃ z : Mm, z = va_up h n (some (.inr (1, [.int 0, .int 0, .int 0]))) := ⟨_, rfl⟩
  refine z_heap (h' := zh1) ze2.symm ?_
  have zK3 := up_at ze2
  refine z_dup X dX11_newCause_98 rfl ?_
  refine z_iload_n X 0 dX11_newCause_99 rfl ?_
  refine z_iload_n X 1 dX11_newCause_100 rfl ?_
  refine z_iload_n X 2 dX11_newCause_101 rfl ?_
  refine z_callI X (k_init_6_6 (κ := κ) (n := n + 1) (a := (n)) (kd := (6)) (nb := (nb)) (em := (em)) zK3 ) mk_X1_init dX11_newCause_102 wd_394 wd_395 rfl rfl rfl (Nat.le_of_ble_eq_true rfl) (Nat.le_of_ble_eq_true rfl) (Nat.le_of_ble_eq_true rfl) (by omega) (by omega) (fun q zh4 zm6 zp7 => ?_)
  obtain ⟨rfl, ze5, zn8⟩ := zp7
  subst zm6
  refine z_st (st' := [.ref n]) rfl ?_
  have zK9 : zh4 n = some (.inr (1, [.int 6, .int nb, .int em])) := by rw [ze5]; exact va_up_self _ _ _
  refine z_aret X E (Or.inr ⟨_, rfl⟩) dX11_newCause_105 (by omega) (by omega) ⟨?_, ?_, ?_⟩
  · rfl
  · funext zz; by_cases zq0 : zz = n; (rw [zq0, va_up_self]; exact zK9); rw [va_up_ne _ _ zq0]; rw [ze5, ze2]; simp only [va_up, if_neg zq0]
  · rfl
theorem isOf_lit {a b : Nat} (ha : a < 7) (hb : b < 7) : b2i (isOfP (nI a) (nI b)) = if b = 0 ∨ b = a ∨ (b = 1 ∧ a = 6) ∨ (b = 2 ∧ (a = 3 ∨ a = 4)) ∨ (b = 3 ∧ a = 4) then 1 else 0 := by
  unfold b2i isOfP
  rw [i_nI (by omega), i_nI (by omega)]
  by_cases h : b = 0 ∨ b = a ∨ (b = 1 ∧ a = 6) ∨ (b = 2 ∧ (a = 3 ∨ a = 4)) ∨ (b = 3 ∧ a = 4)
  · rw [if_pos h, if_pos (by omega)]
  · rw [if_neg h, if_neg (by omega)]
set_option maxHeartbeats 4000000 in
set_option maxRecDepth 100000 in
theorem c_isOfKind_0_0 {κ : Wc} {l : Launch} {h : Mm} {n : Nat} {a : Nat} {v1 : Int32} {v2 : Int32} {v3 : Int32} (K0 : h a = some (.inr (0, [.int v1, .int v2, .int v3])))  : Con κ l yX11_isOfKind cX11_isOfKind 2 (some .boolean) 1 0 0 [.ref a, .int 0] h n (fun q h' n' => q = some (.int (b2i (isOfP (nI 0) (nI 0)))) ∧ h' = h ∧ n' = n) := by
  refine Con.of mk_X11_isOfKind (Nat.le_of_ble_eq_true rfl) (fun G hG X E => ?_)
  subst hG
  refine z_ls (ls' := [(0, .ref a), (1, .int 0)]) rfl ?_
  refine z_iload_n X 1 dX11_isOfKind_0 rfl ?_
  refine z_tableIn (off := 43) X 44 dX11_isOfKind_1 (by decide) (by decide) (by decide) (by decide) ?_
  refine z_iconst (v := 1) X dX11_isOfKind_44 (by decide) ?_
  refine z_zret X E dX11_isOfKind_45 (rfl) (by omega) (by omega) ⟨?_, ?_, ?_⟩
  · rw [isOf_lit (by decide) (by decide)]; rfl
  · first | rfl | (funext zz; simp only [va_up]; (repeat' split) <;> first | rfl | (exfalso; omega) | simp_all)
  · rfl
set_option maxHeartbeats 4000000 in
set_option maxRecDepth 100000 in
theorem c_isOfKind_0_1 {κ : Wc} {l : Launch} {h : Mm} {n : Nat} {a : Nat} {v1 : Int32} {v2 : Int32} {v3 : Int32} (K0 : h a = some (.inr (0, [.int v1, .int v2, .int v3])))  : Con κ l yX11_isOfKind cX11_isOfKind 2 (some .boolean) 1 0 0 [.ref a, .int 1] h n (fun q h' n' => q = some (.int (b2i (isOfP (nI 0) (nI 1)))) ∧ h' = h ∧ n' = n) := by
  refine Con.of mk_X11_isOfKind (Nat.le_of_ble_eq_true rfl) (fun G hG X E => ?_)
  subst hG
  refine z_ls (ls' := [(0, .ref a), (1, .int 1)]) rfl ?_
  refine z_iload_n X 1 dX11_isOfKind_0 rfl ?_
  refine z_tableIn (off := 45) X 46 dX11_isOfKind_1 (by decide) (by decide) (by decide) (by decide) ?_
  refine z_aload_n X 0 dX11_isOfKind_46 rfl ?_
  refine z_instNo (nm := "IcicleRings$Tips") X dX11_isOfKind_47 wd_321 K0 rfl (by decide +kernel) ?_
  refine z_zret X E dX11_isOfKind_50 (rfl) (by omega) (by omega) ⟨?_, ?_, ?_⟩
  · rw [isOf_lit (by decide) (by decide)]; rfl
  · first | rfl | (funext zz; simp only [va_up]; (repeat' split) <;> first | rfl | (exfalso; omega) | simp_all)
  · rfl
set_option maxHeartbeats 4000000 in
set_option maxRecDepth 100000 in
theorem c_isOfKind_0_2 {κ : Wc} {l : Launch} {h : Mm} {n : Nat} {a : Nat} {v1 : Int32} {v2 : Int32} {v3 : Int32} (K0 : h a = some (.inr (0, [.int v1, .int v2, .int v3])))  : Con κ l yX11_isOfKind cX11_isOfKind 2 (some .boolean) 1 0 0 [.ref a, .int 2] h n (fun q h' n' => q = some (.int (b2i (isOfP (nI 0) (nI 2)))) ∧ h' = h ∧ n' = n) := by
  refine Con.of mk_X11_isOfKind (Nat.le_of_ble_eq_true rfl) (fun G hG X E => ?_)
  subst hG
  refine z_ls (ls' := [(0, .ref a), (1, .int 2)]) rfl ?_
  refine z_iload_n X 1 dX11_isOfKind_0 rfl ?_
  refine z_tableIn (off := 50) X 51 dX11_isOfKind_1 (by decide) (by decide) (by decide) (by decide) ?_
  refine z_aload_n X 0 dX11_isOfKind_51 rfl ?_
  refine z_instNo (nm := "IcicleRings$Side") X dX11_isOfKind_52 wd_352 K0 rfl (by decide +kernel) ?_
  refine z_zret X E dX11_isOfKind_55 (rfl) (by omega) (by omega) ⟨?_, ?_, ?_⟩
  · rw [isOf_lit (by decide) (by decide)]; rfl
  · first | rfl | (funext zz; simp only [va_up]; (repeat' split) <;> first | rfl | (exfalso; omega) | simp_all)
  · rfl
set_option maxHeartbeats 4000000 in
set_option maxRecDepth 100000 in
theorem c_isOfKind_0_3 {κ : Wc} {l : Launch} {h : Mm} {n : Nat} {a : Nat} {v1 : Int32} {v2 : Int32} {v3 : Int32} (K0 : h a = some (.inr (0, [.int v1, .int v2, .int v3])))  : Con κ l yX11_isOfKind cX11_isOfKind 2 (some .boolean) 1 0 0 [.ref a, .int 3] h n (fun q h' n' => q = some (.int (b2i (isOfP (nI 0) (nI 3)))) ∧ h' = h ∧ n' = n) := by
  refine Con.of mk_X11_isOfKind (Nat.le_of_ble_eq_true rfl) (fun G hG X E => ?_)
  subst hG
  refine z_ls (ls' := [(0, .ref a), (1, .int 3)]) rfl ?_
  refine z_iload_n X 1 dX11_isOfKind_0 rfl ?_
  refine z_tableIn (off := 55) X 56 dX11_isOfKind_1 (by decide) (by decide) (by decide) (by decide) ?_
  refine z_aload_n X 0 dX11_isOfKind_56 rfl ?_
  refine z_instNo (nm := "IcicleRings$Ringed") X dX11_isOfKind_57 wd_362 K0 rfl (by decide +kernel) ?_
  refine z_zret X E dX11_isOfKind_60 (rfl) (by omega) (by omega) ⟨?_, ?_, ?_⟩
  · rw [isOf_lit (by decide) (by decide)]; rfl
  · first | rfl | (funext zz; simp only [va_up]; (repeat' split) <;> first | rfl | (exfalso; omega) | simp_all)
  · rfl
set_option maxHeartbeats 4000000 in
set_option maxRecDepth 100000 in
theorem c_isOfKind_0_4 {κ : Wc} {l : Launch} {h : Mm} {n : Nat} {a : Nat} {v1 : Int32} {v2 : Int32} {v3 : Int32} (K0 : h a = some (.inr (0, [.int v1, .int v2, .int v3])))  : Con κ l yX11_isOfKind cX11_isOfKind 2 (some .boolean) 1 0 0 [.ref a, .int 4] h n (fun q h' n' => q = some (.int (b2i (isOfP (nI 0) (nI 4)))) ∧ h' = h ∧ n' = n) := by
  refine Con.of mk_X11_isOfKind (Nat.le_of_ble_eq_true rfl) (fun G hG X E => ?_)
  subst hG
  refine z_ls (ls' := [(0, .ref a), (1, .int 4)]) rfl ?_
  refine z_iload_n X 1 dX11_isOfKind_0 rfl ?_
  refine z_tableIn (off := 60) X 61 dX11_isOfKind_1 (by decide) (by decide) (by decide) (by decide) ?_
  refine z_aload_n X 0 dX11_isOfKind_61 rfl ?_
  refine z_instNo (nm := "IcicleRings$Salted") X dX11_isOfKind_62 wd_372 K0 rfl (by decide +kernel) ?_
  refine z_zret X E dX11_isOfKind_65 (rfl) (by omega) (by omega) ⟨?_, ?_, ?_⟩
  · rw [isOf_lit (by decide) (by decide)]; rfl
  · first | rfl | (funext zz; simp only [va_up]; (repeat' split) <;> first | rfl | (exfalso; omega) | simp_all)
  · rfl
set_option maxHeartbeats 4000000 in
set_option maxRecDepth 100000 in
theorem c_isOfKind_0_5 {κ : Wc} {l : Launch} {h : Mm} {n : Nat} {a : Nat} {v1 : Int32} {v2 : Int32} {v3 : Int32} (K0 : h a = some (.inr (0, [.int v1, .int v2, .int v3])))  : Con κ l yX11_isOfKind cX11_isOfKind 2 (some .boolean) 1 0 0 [.ref a, .int 5] h n (fun q h' n' => q = some (.int (b2i (isOfP (nI 0) (nI 5)))) ∧ h' = h ∧ n' = n) := by
  refine Con.of mk_X11_isOfKind (Nat.le_of_ble_eq_true rfl) (fun G hG X E => ?_)
  subst hG
  refine z_ls (ls' := [(0, .ref a), (1, .int 5)]) rfl ?_
  refine z_iload_n X 1 dX11_isOfKind_0 rfl ?_
  refine z_tableIn (off := 65) X 66 dX11_isOfKind_1 (by decide) (by decide) (by decide) (by decide) ?_
  refine z_aload_n X 0 dX11_isOfKind_66 rfl ?_
  refine z_instNo (nm := "IcicleRings$Leaning") X dX11_isOfKind_67 wd_382 K0 rfl (by decide +kernel) ?_
  refine z_zret X E dX11_isOfKind_70 (rfl) (by omega) (by omega) ⟨?_, ?_, ?_⟩
  · rw [isOf_lit (by decide) (by decide)]; rfl
  · first | rfl | (funext zz; simp only [va_up]; (repeat' split) <;> first | rfl | (exfalso; omega) | simp_all)
  · rfl
set_option maxHeartbeats 4000000 in
set_option maxRecDepth 100000 in
theorem c_isOfKind_0_6 {κ : Wc} {l : Launch} {h : Mm} {n : Nat} {a : Nat} {v1 : Int32} {v2 : Int32} {v3 : Int32} (K0 : h a = some (.inr (0, [.int v1, .int v2, .int v3])))  : Con κ l yX11_isOfKind cX11_isOfKind 2 (some .boolean) 1 0 0 [.ref a, .int 6] h n (fun q h' n' => q = some (.int (b2i (isOfP (nI 0) (nI 6)))) ∧ h' = h ∧ n' = n) := by
  refine Con.of mk_X11_isOfKind (Nat.le_of_ble_eq_true rfl) (fun G hG X E => ?_)
  subst hG
  refine z_ls (ls' := [(0, .ref a), (1, .int 6)]) rfl ?_
  refine z_iload_n X 1 dX11_isOfKind_0 rfl ?_
  refine z_tableIn (off := 70) X 71 dX11_isOfKind_1 (by decide) (by decide) (by decide) (by decide) ?_
  refine z_aload_n X 0 dX11_isOfKind_71 rfl ?_
  refine z_instNo (nm := "IcicleRings$Forked") X dX11_isOfKind_72 wd_392 K0 rfl (by decide +kernel) ?_
  refine z_zret X E dX11_isOfKind_75 (rfl) (by omega) (by omega) ⟨?_, ?_, ?_⟩
  · rw [isOf_lit (by decide) (by decide)]; rfl
  · first | rfl | (funext zz; simp only [va_up]; (repeat' split) <;> first | rfl | (exfalso; omega) | simp_all)
  · rfl
set_option maxHeartbeats 4000000 in
set_option maxRecDepth 100000 in
theorem c_isOfKind_1_0 {κ : Wc} {l : Launch} {h : Mm} {n : Nat} {a : Nat} {v1 : Int32} {v2 : Int32} {v3 : Int32} (K0 : h a = some (.inr (10, [.int v1, .int v2, .int v3])))  : Con κ l yX11_isOfKind cX11_isOfKind 2 (some .boolean) 1 0 0 [.ref a, .int 0] h n (fun q h' n' => q = some (.int (b2i (isOfP (nI 1) (nI 0)))) ∧ h' = h ∧ n' = n) := by
  refine Con.of mk_X11_isOfKind (Nat.le_of_ble_eq_true rfl) (fun G hG X E => ?_)
  subst hG
  refine z_ls (ls' := [(0, .ref a), (1, .int 0)]) rfl ?_
  refine z_iload_n X 1 dX11_isOfKind_0 rfl ?_
  refine z_tableIn (off := 43) X 44 dX11_isOfKind_1 (by decide) (by decide) (by decide) (by decide) ?_
  refine z_iconst (v := 1) X dX11_isOfKind_44 (by decide) ?_
  refine z_zret X E dX11_isOfKind_45 (rfl) (by omega) (by omega) ⟨?_, ?_, ?_⟩
  · rw [isOf_lit (by decide) (by decide)]; rfl
  · first | rfl | (funext zz; simp only [va_up]; (repeat' split) <;> first | rfl | (exfalso; omega) | simp_all)
  · rfl
set_option maxHeartbeats 4000000 in
set_option maxRecDepth 100000 in
theorem c_isOfKind_1_1 {κ : Wc} {l : Launch} {h : Mm} {n : Nat} {a : Nat} {v1 : Int32} {v2 : Int32} {v3 : Int32} (K0 : h a = some (.inr (10, [.int v1, .int v2, .int v3])))  : Con κ l yX11_isOfKind cX11_isOfKind 2 (some .boolean) 1 0 0 [.ref a, .int 1] h n (fun q h' n' => q = some (.int (b2i (isOfP (nI 1) (nI 1)))) ∧ h' = h ∧ n' = n) := by
  refine Con.of mk_X11_isOfKind (Nat.le_of_ble_eq_true rfl) (fun G hG X E => ?_)
  subst hG
  refine z_ls (ls' := [(0, .ref a), (1, .int 1)]) rfl ?_
  refine z_iload_n X 1 dX11_isOfKind_0 rfl ?_
  refine z_tableIn (off := 45) X 46 dX11_isOfKind_1 (by decide) (by decide) (by decide) (by decide) ?_
  refine z_aload_n X 0 dX11_isOfKind_46 rfl ?_
  refine z_instY (nm := "IcicleRings$Tips") X dX11_isOfKind_47 wd_321 K0 rfl (Or.inl rfl) ?_
  refine z_zret X E dX11_isOfKind_50 (rfl) (by omega) (by omega) ⟨?_, ?_, ?_⟩
  · rw [isOf_lit (by decide) (by decide)]; rfl
  · first | rfl | (funext zz; simp only [va_up]; (repeat' split) <;> first | rfl | (exfalso; omega) | simp_all)
  · rfl
set_option maxHeartbeats 4000000 in
set_option maxRecDepth 100000 in
theorem c_isOfKind_1_2 {κ : Wc} {l : Launch} {h : Mm} {n : Nat} {a : Nat} {v1 : Int32} {v2 : Int32} {v3 : Int32} (K0 : h a = some (.inr (10, [.int v1, .int v2, .int v3])))  : Con κ l yX11_isOfKind cX11_isOfKind 2 (some .boolean) 1 0 0 [.ref a, .int 2] h n (fun q h' n' => q = some (.int (b2i (isOfP (nI 1) (nI 2)))) ∧ h' = h ∧ n' = n) := by
  refine Con.of mk_X11_isOfKind (Nat.le_of_ble_eq_true rfl) (fun G hG X E => ?_)
  subst hG
  refine z_ls (ls' := [(0, .ref a), (1, .int 2)]) rfl ?_
  refine z_iload_n X 1 dX11_isOfKind_0 rfl ?_
  refine z_tableIn (off := 50) X 51 dX11_isOfKind_1 (by decide) (by decide) (by decide) (by decide) ?_
  refine z_aload_n X 0 dX11_isOfKind_51 rfl ?_
  refine z_instNo (nm := "IcicleRings$Side") X dX11_isOfKind_52 wd_352 K0 rfl (by decide +kernel) ?_
  refine z_zret X E dX11_isOfKind_55 (rfl) (by omega) (by omega) ⟨?_, ?_, ?_⟩
  · rw [isOf_lit (by decide) (by decide)]; rfl
  · first | rfl | (funext zz; simp only [va_up]; (repeat' split) <;> first | rfl | (exfalso; omega) | simp_all)
  · rfl
set_option maxHeartbeats 4000000 in
set_option maxRecDepth 100000 in
theorem c_isOfKind_1_3 {κ : Wc} {l : Launch} {h : Mm} {n : Nat} {a : Nat} {v1 : Int32} {v2 : Int32} {v3 : Int32} (K0 : h a = some (.inr (10, [.int v1, .int v2, .int v3])))  : Con κ l yX11_isOfKind cX11_isOfKind 2 (some .boolean) 1 0 0 [.ref a, .int 3] h n (fun q h' n' => q = some (.int (b2i (isOfP (nI 1) (nI 3)))) ∧ h' = h ∧ n' = n) := by
  refine Con.of mk_X11_isOfKind (Nat.le_of_ble_eq_true rfl) (fun G hG X E => ?_)
  subst hG
  refine z_ls (ls' := [(0, .ref a), (1, .int 3)]) rfl ?_
  refine z_iload_n X 1 dX11_isOfKind_0 rfl ?_
  refine z_tableIn (off := 55) X 56 dX11_isOfKind_1 (by decide) (by decide) (by decide) (by decide) ?_
  refine z_aload_n X 0 dX11_isOfKind_56 rfl ?_
  refine z_instNo (nm := "IcicleRings$Ringed") X dX11_isOfKind_57 wd_362 K0 rfl (by decide +kernel) ?_
  refine z_zret X E dX11_isOfKind_60 (rfl) (by omega) (by omega) ⟨?_, ?_, ?_⟩
  · rw [isOf_lit (by decide) (by decide)]; rfl
  · first | rfl | (funext zz; simp only [va_up]; (repeat' split) <;> first | rfl | (exfalso; omega) | simp_all)
  · rfl
set_option maxHeartbeats 4000000 in
set_option maxRecDepth 100000 in
theorem c_isOfKind_1_4 {κ : Wc} {l : Launch} {h : Mm} {n : Nat} {a : Nat} {v1 : Int32} {v2 : Int32} {v3 : Int32} (K0 : h a = some (.inr (10, [.int v1, .int v2, .int v3])))  : Con κ l yX11_isOfKind cX11_isOfKind 2 (some .boolean) 1 0 0 [.ref a, .int 4] h n (fun q h' n' => q = some (.int (b2i (isOfP (nI 1) (nI 4)))) ∧ h' = h ∧ n' = n) := by
  refine Con.of mk_X11_isOfKind (Nat.le_of_ble_eq_true rfl) (fun G hG X E => ?_)
  subst hG
  refine z_ls (ls' := [(0, .ref a), (1, .int 4)]) rfl ?_
  refine z_iload_n X 1 dX11_isOfKind_0 rfl ?_
  refine z_tableIn (off := 60) X 61 dX11_isOfKind_1 (by decide) (by decide) (by decide) (by decide) ?_
  refine z_aload_n X 0 dX11_isOfKind_61 rfl ?_
  refine z_instNo (nm := "IcicleRings$Salted") X dX11_isOfKind_62 wd_372 K0 rfl (by decide +kernel) ?_
  refine z_zret X E dX11_isOfKind_65 (rfl) (by omega) (by omega) ⟨?_, ?_, ?_⟩
  · rw [isOf_lit (by decide) (by decide)]; rfl
  · first | rfl | (funext zz; simp only [va_up]; (repeat' split) <;> first | rfl | (exfalso; omega) | simp_all)
  · rfl
set_option maxHeartbeats 4000000 in
set_option maxRecDepth 100000 in
theorem c_isOfKind_1_5 {κ : Wc} {l : Launch} {h : Mm} {n : Nat} {a : Nat} {v1 : Int32} {v2 : Int32} {v3 : Int32} (K0 : h a = some (.inr (10, [.int v1, .int v2, .int v3])))  : Con κ l yX11_isOfKind cX11_isOfKind 2 (some .boolean) 1 0 0 [.ref a, .int 5] h n (fun q h' n' => q = some (.int (b2i (isOfP (nI 1) (nI 5)))) ∧ h' = h ∧ n' = n) := by
  refine Con.of mk_X11_isOfKind (Nat.le_of_ble_eq_true rfl) (fun G hG X E => ?_)
  subst hG
  refine z_ls (ls' := [(0, .ref a), (1, .int 5)]) rfl ?_
  refine z_iload_n X 1 dX11_isOfKind_0 rfl ?_
  refine z_tableIn (off := 65) X 66 dX11_isOfKind_1 (by decide) (by decide) (by decide) (by decide) ?_
  refine z_aload_n X 0 dX11_isOfKind_66 rfl ?_
  refine z_instNo (nm := "IcicleRings$Leaning") X dX11_isOfKind_67 wd_382 K0 rfl (by decide +kernel) ?_
  refine z_zret X E dX11_isOfKind_70 (rfl) (by omega) (by omega) ⟨?_, ?_, ?_⟩
  · rw [isOf_lit (by decide) (by decide)]; rfl
  · first | rfl | (funext zz; simp only [va_up]; (repeat' split) <;> first | rfl | (exfalso; omega) | simp_all)
  · rfl
set_option maxHeartbeats 4000000 in
set_option maxRecDepth 100000 in
theorem c_isOfKind_1_6 {κ : Wc} {l : Launch} {h : Mm} {n : Nat} {a : Nat} {v1 : Int32} {v2 : Int32} {v3 : Int32} (K0 : h a = some (.inr (10, [.int v1, .int v2, .int v3])))  : Con κ l yX11_isOfKind cX11_isOfKind 2 (some .boolean) 1 0 0 [.ref a, .int 6] h n (fun q h' n' => q = some (.int (b2i (isOfP (nI 1) (nI 6)))) ∧ h' = h ∧ n' = n) := by
  refine Con.of mk_X11_isOfKind (Nat.le_of_ble_eq_true rfl) (fun G hG X E => ?_)
  subst hG
  refine z_ls (ls' := [(0, .ref a), (1, .int 6)]) rfl ?_
  refine z_iload_n X 1 dX11_isOfKind_0 rfl ?_
  refine z_tableIn (off := 70) X 71 dX11_isOfKind_1 (by decide) (by decide) (by decide) (by decide) ?_
  refine z_aload_n X 0 dX11_isOfKind_71 rfl ?_
  refine z_instNo (nm := "IcicleRings$Forked") X dX11_isOfKind_72 wd_392 K0 rfl (by decide +kernel) ?_
  refine z_zret X E dX11_isOfKind_75 (rfl) (by omega) (by omega) ⟨?_, ?_, ?_⟩
  · rw [isOf_lit (by decide) (by decide)]; rfl
  · first | rfl | (funext zz; simp only [va_up]; (repeat' split) <;> first | rfl | (exfalso; omega) | simp_all)
  · rfl
set_option maxHeartbeats 4000000 in
set_option maxRecDepth 100000 in
theorem c_isOfKind_2_0 {κ : Wc} {l : Launch} {h : Mm} {n : Nat} {a : Nat} {v1 : Int32} {v2 : Int32} {v3 : Int32} (K0 : h a = some (.inr (8, [.int v1, .int v2, .int v3])))  : Con κ l yX11_isOfKind cX11_isOfKind 2 (some .boolean) 1 0 0 [.ref a, .int 0] h n (fun q h' n' => q = some (.int (b2i (isOfP (nI 2) (nI 0)))) ∧ h' = h ∧ n' = n) := by
  refine Con.of mk_X11_isOfKind (Nat.le_of_ble_eq_true rfl) (fun G hG X E => ?_)
  subst hG
  refine z_ls (ls' := [(0, .ref a), (1, .int 0)]) rfl ?_
  refine z_iload_n X 1 dX11_isOfKind_0 rfl ?_
  refine z_tableIn (off := 43) X 44 dX11_isOfKind_1 (by decide) (by decide) (by decide) (by decide) ?_
  refine z_iconst (v := 1) X dX11_isOfKind_44 (by decide) ?_
  refine z_zret X E dX11_isOfKind_45 (rfl) (by omega) (by omega) ⟨?_, ?_, ?_⟩
  · rw [isOf_lit (by decide) (by decide)]; rfl
  · first | rfl | (funext zz; simp only [va_up]; (repeat' split) <;> first | rfl | (exfalso; omega) | simp_all)
  · rfl
set_option maxHeartbeats 4000000 in
set_option maxRecDepth 100000 in
theorem c_isOfKind_2_1 {κ : Wc} {l : Launch} {h : Mm} {n : Nat} {a : Nat} {v1 : Int32} {v2 : Int32} {v3 : Int32} (K0 : h a = some (.inr (8, [.int v1, .int v2, .int v3])))  : Con κ l yX11_isOfKind cX11_isOfKind 2 (some .boolean) 1 0 0 [.ref a, .int 1] h n (fun q h' n' => q = some (.int (b2i (isOfP (nI 2) (nI 1)))) ∧ h' = h ∧ n' = n) := by
  refine Con.of mk_X11_isOfKind (Nat.le_of_ble_eq_true rfl) (fun G hG X E => ?_)
  subst hG
  refine z_ls (ls' := [(0, .ref a), (1, .int 1)]) rfl ?_
  refine z_iload_n X 1 dX11_isOfKind_0 rfl ?_
  refine z_tableIn (off := 45) X 46 dX11_isOfKind_1 (by decide) (by decide) (by decide) (by decide) ?_
  refine z_aload_n X 0 dX11_isOfKind_46 rfl ?_
  refine z_instNo (nm := "IcicleRings$Tips") X dX11_isOfKind_47 wd_321 K0 rfl (by decide +kernel) ?_
  refine z_zret X E dX11_isOfKind_50 (rfl) (by omega) (by omega) ⟨?_, ?_, ?_⟩
  · rw [isOf_lit (by decide) (by decide)]; rfl
  · first | rfl | (funext zz; simp only [va_up]; (repeat' split) <;> first | rfl | (exfalso; omega) | simp_all)
  · rfl
set_option maxHeartbeats 4000000 in
set_option maxRecDepth 100000 in
theorem c_isOfKind_2_2 {κ : Wc} {l : Launch} {h : Mm} {n : Nat} {a : Nat} {v1 : Int32} {v2 : Int32} {v3 : Int32} (K0 : h a = some (.inr (8, [.int v1, .int v2, .int v3])))  : Con κ l yX11_isOfKind cX11_isOfKind 2 (some .boolean) 1 0 0 [.ref a, .int 2] h n (fun q h' n' => q = some (.int (b2i (isOfP (nI 2) (nI 2)))) ∧ h' = h ∧ n' = n) := by
  refine Con.of mk_X11_isOfKind (Nat.le_of_ble_eq_true rfl) (fun G hG X E => ?_)
  subst hG
  refine z_ls (ls' := [(0, .ref a), (1, .int 2)]) rfl ?_
  refine z_iload_n X 1 dX11_isOfKind_0 rfl ?_
  refine z_tableIn (off := 50) X 51 dX11_isOfKind_1 (by decide) (by decide) (by decide) (by decide) ?_
  refine z_aload_n X 0 dX11_isOfKind_51 rfl ?_
  refine z_instY (nm := "IcicleRings$Side") X dX11_isOfKind_52 wd_352 K0 rfl (Or.inl rfl) ?_
  refine z_zret X E dX11_isOfKind_55 (rfl) (by omega) (by omega) ⟨?_, ?_, ?_⟩
  · rw [isOf_lit (by decide) (by decide)]; rfl
  · first | rfl | (funext zz; simp only [va_up]; (repeat' split) <;> first | rfl | (exfalso; omega) | simp_all)
  · rfl
set_option maxHeartbeats 4000000 in
set_option maxRecDepth 100000 in
theorem c_isOfKind_2_3 {κ : Wc} {l : Launch} {h : Mm} {n : Nat} {a : Nat} {v1 : Int32} {v2 : Int32} {v3 : Int32} (K0 : h a = some (.inr (8, [.int v1, .int v2, .int v3])))  : Con κ l yX11_isOfKind cX11_isOfKind 2 (some .boolean) 1 0 0 [.ref a, .int 3] h n (fun q h' n' => q = some (.int (b2i (isOfP (nI 2) (nI 3)))) ∧ h' = h ∧ n' = n) := by
  refine Con.of mk_X11_isOfKind (Nat.le_of_ble_eq_true rfl) (fun G hG X E => ?_)
  subst hG
  refine z_ls (ls' := [(0, .ref a), (1, .int 3)]) rfl ?_
  refine z_iload_n X 1 dX11_isOfKind_0 rfl ?_
  refine z_tableIn (off := 55) X 56 dX11_isOfKind_1 (by decide) (by decide) (by decide) (by decide) ?_
  refine z_aload_n X 0 dX11_isOfKind_56 rfl ?_
  refine z_instNo (nm := "IcicleRings$Ringed") X dX11_isOfKind_57 wd_362 K0 rfl (by decide +kernel) ?_
  refine z_zret X E dX11_isOfKind_60 (rfl) (by omega) (by omega) ⟨?_, ?_, ?_⟩
  · rw [isOf_lit (by decide) (by decide)]; rfl
  · first | rfl | (funext zz; simp only [va_up]; (repeat' split) <;> first | rfl | (exfalso; omega) | simp_all)
  · rfl
set_option maxHeartbeats 4000000 in
set_option maxRecDepth 100000 in
theorem c_isOfKind_2_4 {κ : Wc} {l : Launch} {h : Mm} {n : Nat} {a : Nat} {v1 : Int32} {v2 : Int32} {v3 : Int32} (K0 : h a = some (.inr (8, [.int v1, .int v2, .int v3])))  : Con κ l yX11_isOfKind cX11_isOfKind 2 (some .boolean) 1 0 0 [.ref a, .int 4] h n (fun q h' n' => q = some (.int (b2i (isOfP (nI 2) (nI 4)))) ∧ h' = h ∧ n' = n) := by
  refine Con.of mk_X11_isOfKind (Nat.le_of_ble_eq_true rfl) (fun G hG X E => ?_)
  subst hG
  refine z_ls (ls' := [(0, .ref a), (1, .int 4)]) rfl ?_
  refine z_iload_n X 1 dX11_isOfKind_0 rfl ?_
  refine z_tableIn (off := 60) X 61 dX11_isOfKind_1 (by decide) (by decide) (by decide) (by decide) ?_
  refine z_aload_n X 0 dX11_isOfKind_61 rfl ?_
  refine z_instNo (nm := "IcicleRings$Salted") X dX11_isOfKind_62 wd_372 K0 rfl (by decide +kernel) ?_
  refine z_zret X E dX11_isOfKind_65 (rfl) (by omega) (by omega) ⟨?_, ?_, ?_⟩
  · rw [isOf_lit (by decide) (by decide)]; rfl
  · first | rfl | (funext zz; simp only [va_up]; (repeat' split) <;> first | rfl | (exfalso; omega) | simp_all)
  · rfl
set_option maxHeartbeats 4000000 in
set_option maxRecDepth 100000 in
theorem c_isOfKind_2_5 {κ : Wc} {l : Launch} {h : Mm} {n : Nat} {a : Nat} {v1 : Int32} {v2 : Int32} {v3 : Int32} (K0 : h a = some (.inr (8, [.int v1, .int v2, .int v3])))  : Con κ l yX11_isOfKind cX11_isOfKind 2 (some .boolean) 1 0 0 [.ref a, .int 5] h n (fun q h' n' => q = some (.int (b2i (isOfP (nI 2) (nI 5)))) ∧ h' = h ∧ n' = n) := by
  refine Con.of mk_X11_isOfKind (Nat.le_of_ble_eq_true rfl) (fun G hG X E => ?_)
  subst hG
  refine z_ls (ls' := [(0, .ref a), (1, .int 5)]) rfl ?_
  refine z_iload_n X 1 dX11_isOfKind_0 rfl ?_
  refine z_tableIn (off := 65) X 66 dX11_isOfKind_1 (by decide) (by decide) (by decide) (by decide) ?_
  refine z_aload_n X 0 dX11_isOfKind_66 rfl ?_
  refine z_instNo (nm := "IcicleRings$Leaning") X dX11_isOfKind_67 wd_382 K0 rfl (by decide +kernel) ?_
  refine z_zret X E dX11_isOfKind_70 (rfl) (by omega) (by omega) ⟨?_, ?_, ?_⟩
  · rw [isOf_lit (by decide) (by decide)]; rfl
  · first | rfl | (funext zz; simp only [va_up]; (repeat' split) <;> first | rfl | (exfalso; omega) | simp_all)
  · rfl
set_option maxHeartbeats 4000000 in
set_option maxRecDepth 100000 in
theorem c_isOfKind_2_6 {κ : Wc} {l : Launch} {h : Mm} {n : Nat} {a : Nat} {v1 : Int32} {v2 : Int32} {v3 : Int32} (K0 : h a = some (.inr (8, [.int v1, .int v2, .int v3])))  : Con κ l yX11_isOfKind cX11_isOfKind 2 (some .boolean) 1 0 0 [.ref a, .int 6] h n (fun q h' n' => q = some (.int (b2i (isOfP (nI 2) (nI 6)))) ∧ h' = h ∧ n' = n) := by
  refine Con.of mk_X11_isOfKind (Nat.le_of_ble_eq_true rfl) (fun G hG X E => ?_)
  subst hG
  refine z_ls (ls' := [(0, .ref a), (1, .int 6)]) rfl ?_
  refine z_iload_n X 1 dX11_isOfKind_0 rfl ?_
  refine z_tableIn (off := 70) X 71 dX11_isOfKind_1 (by decide) (by decide) (by decide) (by decide) ?_
  refine z_aload_n X 0 dX11_isOfKind_71 rfl ?_
  refine z_instNo (nm := "IcicleRings$Forked") X dX11_isOfKind_72 wd_392 K0 rfl (by decide +kernel) ?_
  refine z_zret X E dX11_isOfKind_75 (rfl) (by omega) (by omega) ⟨?_, ?_, ?_⟩
  · rw [isOf_lit (by decide) (by decide)]; rfl
  · first | rfl | (funext zz; simp only [va_up]; (repeat' split) <;> first | rfl | (exfalso; omega) | simp_all)
  · rfl
set_option maxHeartbeats 4000000 in
set_option maxRecDepth 100000 in
theorem c_isOfKind_3_0 {κ : Wc} {l : Launch} {h : Mm} {n : Nat} {a : Nat} {v1 : Int32} {v2 : Int32} {v3 : Int32} (K0 : h a = some (.inr (5, [.int v1, .int v2, .int v3])))  : Con κ l yX11_isOfKind cX11_isOfKind 2 (some .boolean) 1 0 0 [.ref a, .int 0] h n (fun q h' n' => q = some (.int (b2i (isOfP (nI 3) (nI 0)))) ∧ h' = h ∧ n' = n) := by
  refine Con.of mk_X11_isOfKind (Nat.le_of_ble_eq_true rfl) (fun G hG X E => ?_)
  subst hG
  refine z_ls (ls' := [(0, .ref a), (1, .int 0)]) rfl ?_
  refine z_iload_n X 1 dX11_isOfKind_0 rfl ?_
  refine z_tableIn (off := 43) X 44 dX11_isOfKind_1 (by decide) (by decide) (by decide) (by decide) ?_
  refine z_iconst (v := 1) X dX11_isOfKind_44 (by decide) ?_
  refine z_zret X E dX11_isOfKind_45 (rfl) (by omega) (by omega) ⟨?_, ?_, ?_⟩
  · rw [isOf_lit (by decide) (by decide)]; rfl
  · first | rfl | (funext zz; simp only [va_up]; (repeat' split) <;> first | rfl | (exfalso; omega) | simp_all)
  · rfl
set_option maxHeartbeats 4000000 in
set_option maxRecDepth 100000 in
theorem c_isOfKind_3_1 {κ : Wc} {l : Launch} {h : Mm} {n : Nat} {a : Nat} {v1 : Int32} {v2 : Int32} {v3 : Int32} (K0 : h a = some (.inr (5, [.int v1, .int v2, .int v3])))  : Con κ l yX11_isOfKind cX11_isOfKind 2 (some .boolean) 1 0 0 [.ref a, .int 1] h n (fun q h' n' => q = some (.int (b2i (isOfP (nI 3) (nI 1)))) ∧ h' = h ∧ n' = n) := by
  refine Con.of mk_X11_isOfKind (Nat.le_of_ble_eq_true rfl) (fun G hG X E => ?_)
  subst hG
  refine z_ls (ls' := [(0, .ref a), (1, .int 1)]) rfl ?_
  refine z_iload_n X 1 dX11_isOfKind_0 rfl ?_
  refine z_tableIn (off := 45) X 46 dX11_isOfKind_1 (by decide) (by decide) (by decide) (by decide) ?_
  refine z_aload_n X 0 dX11_isOfKind_46 rfl ?_
  refine z_instNo (nm := "IcicleRings$Tips") X dX11_isOfKind_47 wd_321 K0 rfl (by decide +kernel) ?_
  refine z_zret X E dX11_isOfKind_50 (rfl) (by omega) (by omega) ⟨?_, ?_, ?_⟩
  · rw [isOf_lit (by decide) (by decide)]; rfl
  · first | rfl | (funext zz; simp only [va_up]; (repeat' split) <;> first | rfl | (exfalso; omega) | simp_all)
  · rfl
set_option maxHeartbeats 4000000 in
set_option maxRecDepth 100000 in
theorem c_isOfKind_3_2 {κ : Wc} {l : Launch} {h : Mm} {n : Nat} {a : Nat} {v1 : Int32} {v2 : Int32} {v3 : Int32} (K0 : h a = some (.inr (5, [.int v1, .int v2, .int v3])))  : Con κ l yX11_isOfKind cX11_isOfKind 2 (some .boolean) 1 0 0 [.ref a, .int 2] h n (fun q h' n' => q = some (.int (b2i (isOfP (nI 3) (nI 2)))) ∧ h' = h ∧ n' = n) := by
  refine Con.of mk_X11_isOfKind (Nat.le_of_ble_eq_true rfl) (fun G hG X E => ?_)
  subst hG
  refine z_ls (ls' := [(0, .ref a), (1, .int 2)]) rfl ?_
  refine z_iload_n X 1 dX11_isOfKind_0 rfl ?_
  refine z_tableIn (off := 50) X 51 dX11_isOfKind_1 (by decide) (by decide) (by decide) (by decide) ?_
  refine z_aload_n X 0 dX11_isOfKind_51 rfl ?_
  refine z_instY (nm := "IcicleRings$Side") X dX11_isOfKind_52 wd_352 K0 rfl (Or.inr (by decide +kernel)) ?_
  refine z_zret X E dX11_isOfKind_55 (rfl) (by omega) (by omega) ⟨?_, ?_, ?_⟩
  · rw [isOf_lit (by decide) (by decide)]; rfl
  · first | rfl | (funext zz; simp only [va_up]; (repeat' split) <;> first | rfl | (exfalso; omega) | simp_all)
  · rfl
set_option maxHeartbeats 4000000 in
set_option maxRecDepth 100000 in
theorem c_isOfKind_3_3 {κ : Wc} {l : Launch} {h : Mm} {n : Nat} {a : Nat} {v1 : Int32} {v2 : Int32} {v3 : Int32} (K0 : h a = some (.inr (5, [.int v1, .int v2, .int v3])))  : Con κ l yX11_isOfKind cX11_isOfKind 2 (some .boolean) 1 0 0 [.ref a, .int 3] h n (fun q h' n' => q = some (.int (b2i (isOfP (nI 3) (nI 3)))) ∧ h' = h ∧ n' = n) := by
  refine Con.of mk_X11_isOfKind (Nat.le_of_ble_eq_true rfl) (fun G hG X E => ?_)
  subst hG
  refine z_ls (ls' := [(0, .ref a), (1, .int 3)]) rfl ?_
  refine z_iload_n X 1 dX11_isOfKind_0 rfl ?_
  refine z_tableIn (off := 55) X 56 dX11_isOfKind_1 (by decide) (by decide) (by decide) (by decide) ?_
  refine z_aload_n X 0 dX11_isOfKind_56 rfl ?_
  refine z_instY (nm := "IcicleRings$Ringed") X dX11_isOfKind_57 wd_362 K0 rfl (Or.inl rfl) ?_
  refine z_zret X E dX11_isOfKind_60 (rfl) (by omega) (by omega) ⟨?_, ?_, ?_⟩
  · rw [isOf_lit (by decide) (by decide)]; rfl
  · first | rfl | (funext zz; simp only [va_up]; (repeat' split) <;> first | rfl | (exfalso; omega) | simp_all)
  · rfl
set_option maxHeartbeats 4000000 in
set_option maxRecDepth 100000 in
theorem c_isOfKind_3_4 {κ : Wc} {l : Launch} {h : Mm} {n : Nat} {a : Nat} {v1 : Int32} {v2 : Int32} {v3 : Int32} (K0 : h a = some (.inr (5, [.int v1, .int v2, .int v3])))  : Con κ l yX11_isOfKind cX11_isOfKind 2 (some .boolean) 1 0 0 [.ref a, .int 4] h n (fun q h' n' => q = some (.int (b2i (isOfP (nI 3) (nI 4)))) ∧ h' = h ∧ n' = n) := by
  refine Con.of mk_X11_isOfKind (Nat.le_of_ble_eq_true rfl) (fun G hG X E => ?_)
  subst hG
  refine z_ls (ls' := [(0, .ref a), (1, .int 4)]) rfl ?_
  refine z_iload_n X 1 dX11_isOfKind_0 rfl ?_
  refine z_tableIn (off := 60) X 61 dX11_isOfKind_1 (by decide) (by decide) (by decide) (by decide) ?_
  refine z_aload_n X 0 dX11_isOfKind_61 rfl ?_
  refine z_instNo (nm := "IcicleRings$Salted") X dX11_isOfKind_62 wd_372 K0 rfl (by decide +kernel) ?_
  refine z_zret X E dX11_isOfKind_65 (rfl) (by omega) (by omega) ⟨?_, ?_, ?_⟩
  · rw [isOf_lit (by decide) (by decide)]; rfl
  · first | rfl | (funext zz; simp only [va_up]; (repeat' split) <;> first | rfl | (exfalso; omega) | simp_all)
  · rfl
set_option maxHeartbeats 4000000 in
set_option maxRecDepth 100000 in
theorem c_isOfKind_3_5 {κ : Wc} {l : Launch} {h : Mm} {n : Nat} {a : Nat} {v1 : Int32} {v2 : Int32} {v3 : Int32} (K0 : h a = some (.inr (5, [.int v1, .int v2, .int v3])))  : Con κ l yX11_isOfKind cX11_isOfKind 2 (some .boolean) 1 0 0 [.ref a, .int 5] h n (fun q h' n' => q = some (.int (b2i (isOfP (nI 3) (nI 5)))) ∧ h' = h ∧ n' = n) := by
  refine Con.of mk_X11_isOfKind (Nat.le_of_ble_eq_true rfl) (fun G hG X E => ?_)
  subst hG
  refine z_ls (ls' := [(0, .ref a), (1, .int 5)]) rfl ?_
  refine z_iload_n X 1 dX11_isOfKind_0 rfl ?_
  refine z_tableIn (off := 65) X 66 dX11_isOfKind_1 (by decide) (by decide) (by decide) (by decide) ?_
  refine z_aload_n X 0 dX11_isOfKind_66 rfl ?_
  refine z_instNo (nm := "IcicleRings$Leaning") X dX11_isOfKind_67 wd_382 K0 rfl (by decide +kernel) ?_
  refine z_zret X E dX11_isOfKind_70 (rfl) (by omega) (by omega) ⟨?_, ?_, ?_⟩
  · rw [isOf_lit (by decide) (by decide)]; rfl
  · first | rfl | (funext zz; simp only [va_up]; (repeat' split) <;> first | rfl | (exfalso; omega) | simp_all)
  · rfl
set_option maxHeartbeats 4000000 in
set_option maxRecDepth 100000 in
theorem c_isOfKind_3_6 {κ : Wc} {l : Launch} {h : Mm} {n : Nat} {a : Nat} {v1 : Int32} {v2 : Int32} {v3 : Int32} (K0 : h a = some (.inr (5, [.int v1, .int v2, .int v3])))  : Con κ l yX11_isOfKind cX11_isOfKind 2 (some .boolean) 1 0 0 [.ref a, .int 6] h n (fun q h' n' => q = some (.int (b2i (isOfP (nI 3) (nI 6)))) ∧ h' = h ∧ n' = n) := by
  refine Con.of mk_X11_isOfKind (Nat.le_of_ble_eq_true rfl) (fun G hG X E => ?_)
  subst hG
  refine z_ls (ls' := [(0, .ref a), (1, .int 6)]) rfl ?_
  refine z_iload_n X 1 dX11_isOfKind_0 rfl ?_
  refine z_tableIn (off := 70) X 71 dX11_isOfKind_1 (by decide) (by decide) (by decide) (by decide) ?_
  refine z_aload_n X 0 dX11_isOfKind_71 rfl ?_
  refine z_instNo (nm := "IcicleRings$Forked") X dX11_isOfKind_72 wd_392 K0 rfl (by decide +kernel) ?_
  refine z_zret X E dX11_isOfKind_75 (rfl) (by omega) (by omega) ⟨?_, ?_, ?_⟩
  · rw [isOf_lit (by decide) (by decide)]; rfl
  · first | rfl | (funext zz; simp only [va_up]; (repeat' split) <;> first | rfl | (exfalso; omega) | simp_all)
  · rfl
set_option maxHeartbeats 4000000 in
set_option maxRecDepth 100000 in
theorem c_isOfKind_4_0 {κ : Wc} {l : Launch} {h : Mm} {n : Nat} {a : Nat} {v1 : Int32} {v2 : Int32} {v3 : Int32} (K0 : h a = some (.inr (7, [.int v1, .int v2, .int v3])))  : Con κ l yX11_isOfKind cX11_isOfKind 2 (some .boolean) 1 0 0 [.ref a, .int 0] h n (fun q h' n' => q = some (.int (b2i (isOfP (nI 4) (nI 0)))) ∧ h' = h ∧ n' = n) := by
  refine Con.of mk_X11_isOfKind (Nat.le_of_ble_eq_true rfl) (fun G hG X E => ?_)
  subst hG
  refine z_ls (ls' := [(0, .ref a), (1, .int 0)]) rfl ?_
  refine z_iload_n X 1 dX11_isOfKind_0 rfl ?_
  refine z_tableIn (off := 43) X 44 dX11_isOfKind_1 (by decide) (by decide) (by decide) (by decide) ?_
  refine z_iconst (v := 1) X dX11_isOfKind_44 (by decide) ?_
  refine z_zret X E dX11_isOfKind_45 (rfl) (by omega) (by omega) ⟨?_, ?_, ?_⟩
  · rw [isOf_lit (by decide) (by decide)]; rfl
  · first | rfl | (funext zz; simp only [va_up]; (repeat' split) <;> first | rfl | (exfalso; omega) | simp_all)
  · rfl
set_option maxHeartbeats 4000000 in
set_option maxRecDepth 100000 in
theorem c_isOfKind_4_1 {κ : Wc} {l : Launch} {h : Mm} {n : Nat} {a : Nat} {v1 : Int32} {v2 : Int32} {v3 : Int32} (K0 : h a = some (.inr (7, [.int v1, .int v2, .int v3])))  : Con κ l yX11_isOfKind cX11_isOfKind 2 (some .boolean) 1 0 0 [.ref a, .int 1] h n (fun q h' n' => q = some (.int (b2i (isOfP (nI 4) (nI 1)))) ∧ h' = h ∧ n' = n) := by
  refine Con.of mk_X11_isOfKind (Nat.le_of_ble_eq_true rfl) (fun G hG X E => ?_)
  subst hG
  refine z_ls (ls' := [(0, .ref a), (1, .int 1)]) rfl ?_
  refine z_iload_n X 1 dX11_isOfKind_0 rfl ?_
  refine z_tableIn (off := 45) X 46 dX11_isOfKind_1 (by decide) (by decide) (by decide) (by decide) ?_
  refine z_aload_n X 0 dX11_isOfKind_46 rfl ?_
  refine z_instNo (nm := "IcicleRings$Tips") X dX11_isOfKind_47 wd_321 K0 rfl (by decide +kernel) ?_
  refine z_zret X E dX11_isOfKind_50 (rfl) (by omega) (by omega) ⟨?_, ?_, ?_⟩
  · rw [isOf_lit (by decide) (by decide)]; rfl
  · first | rfl | (funext zz; simp only [va_up]; (repeat' split) <;> first | rfl | (exfalso; omega) | simp_all)
  · rfl
set_option maxHeartbeats 4000000 in
set_option maxRecDepth 100000 in
theorem c_isOfKind_4_2 {κ : Wc} {l : Launch} {h : Mm} {n : Nat} {a : Nat} {v1 : Int32} {v2 : Int32} {v3 : Int32} (K0 : h a = some (.inr (7, [.int v1, .int v2, .int v3])))  : Con κ l yX11_isOfKind cX11_isOfKind 2 (some .boolean) 1 0 0 [.ref a, .int 2] h n (fun q h' n' => q = some (.int (b2i (isOfP (nI 4) (nI 2)))) ∧ h' = h ∧ n' = n) := by
  refine Con.of mk_X11_isOfKind (Nat.le_of_ble_eq_true rfl) (fun G hG X E => ?_)
  subst hG
  refine z_ls (ls' := [(0, .ref a), (1, .int 2)]) rfl ?_
  refine z_iload_n X 1 dX11_isOfKind_0 rfl ?_
  refine z_tableIn (off := 50) X 51 dX11_isOfKind_1 (by decide) (by decide) (by decide) (by decide) ?_
  refine z_aload_n X 0 dX11_isOfKind_51 rfl ?_
  refine z_instY (nm := "IcicleRings$Side") X dX11_isOfKind_52 wd_352 K0 rfl (Or.inr (by decide +kernel)) ?_
  refine z_zret X E dX11_isOfKind_55 (rfl) (by omega) (by omega) ⟨?_, ?_, ?_⟩
  · rw [isOf_lit (by decide) (by decide)]; rfl
  · first | rfl | (funext zz; simp only [va_up]; (repeat' split) <;> first | rfl | (exfalso; omega) | simp_all)
  · rfl
set_option maxHeartbeats 4000000 in
set_option maxRecDepth 100000 in
theorem c_isOfKind_4_3 {κ : Wc} {l : Launch} {h : Mm} {n : Nat} {a : Nat} {v1 : Int32} {v2 : Int32} {v3 : Int32} (K0 : h a = some (.inr (7, [.int v1, .int v2, .int v3])))  : Con κ l yX11_isOfKind cX11_isOfKind 2 (some .boolean) 1 0 0 [.ref a, .int 3] h n (fun q h' n' => q = some (.int (b2i (isOfP (nI 4) (nI 3)))) ∧ h' = h ∧ n' = n) := by
  refine Con.of mk_X11_isOfKind (Nat.le_of_ble_eq_true rfl) (fun G hG X E => ?_)
  subst hG
  refine z_ls (ls' := [(0, .ref a), (1, .int 3)]) rfl ?_
  refine z_iload_n X 1 dX11_isOfKind_0 rfl ?_
  refine z_tableIn (off := 55) X 56 dX11_isOfKind_1 (by decide) (by decide) (by decide) (by decide) ?_
  refine z_aload_n X 0 dX11_isOfKind_56 rfl ?_
  refine z_instY (nm := "IcicleRings$Ringed") X dX11_isOfKind_57 wd_362 K0 rfl (Or.inr (by decide +kernel)) ?_
  refine z_zret X E dX11_isOfKind_60 (rfl) (by omega) (by omega) ⟨?_, ?_, ?_⟩
  · rw [isOf_lit (by decide) (by decide)]; rfl
  · first | rfl | (funext zz; simp only [va_up]; (repeat' split) <;> first | rfl | (exfalso; omega) | simp_all)
  · rfl
set_option maxHeartbeats 4000000 in
set_option maxRecDepth 100000 in
theorem c_isOfKind_4_4 {κ : Wc} {l : Launch} {h : Mm} {n : Nat} {a : Nat} {v1 : Int32} {v2 : Int32} {v3 : Int32} (K0 : h a = some (.inr (7, [.int v1, .int v2, .int v3])))  : Con κ l yX11_isOfKind cX11_isOfKind 2 (some .boolean) 1 0 0 [.ref a, .int 4] h n (fun q h' n' => q = some (.int (b2i (isOfP (nI 4) (nI 4)))) ∧ h' = h ∧ n' = n) := by
  refine Con.of mk_X11_isOfKind (Nat.le_of_ble_eq_true rfl) (fun G hG X E => ?_)
  subst hG
  refine z_ls (ls' := [(0, .ref a), (1, .int 4)]) rfl ?_
  refine z_iload_n X 1 dX11_isOfKind_0 rfl ?_
  refine z_tableIn (off := 60) X 61 dX11_isOfKind_1 (by decide) (by decide) (by decide) (by decide) ?_
  refine z_aload_n X 0 dX11_isOfKind_61 rfl ?_
  refine z_instY (nm := "IcicleRings$Salted") X dX11_isOfKind_62 wd_372 K0 rfl (Or.inl rfl) ?_
  refine z_zret X E dX11_isOfKind_65 (rfl) (by omega) (by omega) ⟨?_, ?_, ?_⟩
  · rw [isOf_lit (by decide) (by decide)]; rfl
  · first | rfl | (funext zz; simp only [va_up]; (repeat' split) <;> first | rfl | (exfalso; omega) | simp_all)
  · rfl
set_option maxHeartbeats 4000000 in
set_option maxRecDepth 100000 in
theorem c_isOfKind_4_5 {κ : Wc} {l : Launch} {h : Mm} {n : Nat} {a : Nat} {v1 : Int32} {v2 : Int32} {v3 : Int32} (K0 : h a = some (.inr (7, [.int v1, .int v2, .int v3])))  : Con κ l yX11_isOfKind cX11_isOfKind 2 (some .boolean) 1 0 0 [.ref a, .int 5] h n (fun q h' n' => q = some (.int (b2i (isOfP (nI 4) (nI 5)))) ∧ h' = h ∧ n' = n) := by
  refine Con.of mk_X11_isOfKind (Nat.le_of_ble_eq_true rfl) (fun G hG X E => ?_)
  subst hG
  refine z_ls (ls' := [(0, .ref a), (1, .int 5)]) rfl ?_
  refine z_iload_n X 1 dX11_isOfKind_0 rfl ?_
  refine z_tableIn (off := 65) X 66 dX11_isOfKind_1 (by decide) (by decide) (by decide) (by decide) ?_
  refine z_aload_n X 0 dX11_isOfKind_66 rfl ?_
  refine z_instNo (nm := "IcicleRings$Leaning") X dX11_isOfKind_67 wd_382 K0 rfl (by decide +kernel) ?_
  refine z_zret X E dX11_isOfKind_70 (rfl) (by omega) (by omega) ⟨?_, ?_, ?_⟩
  · rw [isOf_lit (by decide) (by decide)]; rfl
  · first | rfl | (funext zz; simp only [va_up]; (repeat' split) <;> first | rfl | (exfalso; omega) | simp_all)
  · rfl
set_option maxHeartbeats 4000000 in
set_option maxRecDepth 100000 in
theorem c_isOfKind_4_6 {κ : Wc} {l : Launch} {h : Mm} {n : Nat} {a : Nat} {v1 : Int32} {v2 : Int32} {v3 : Int32} (K0 : h a = some (.inr (7, [.int v1, .int v2, .int v3])))  : Con κ l yX11_isOfKind cX11_isOfKind 2 (some .boolean) 1 0 0 [.ref a, .int 6] h n (fun q h' n' => q = some (.int (b2i (isOfP (nI 4) (nI 6)))) ∧ h' = h ∧ n' = n) := by
  refine Con.of mk_X11_isOfKind (Nat.le_of_ble_eq_true rfl) (fun G hG X E => ?_)
  subst hG
  refine z_ls (ls' := [(0, .ref a), (1, .int 6)]) rfl ?_
  refine z_iload_n X 1 dX11_isOfKind_0 rfl ?_
  refine z_tableIn (off := 70) X 71 dX11_isOfKind_1 (by decide) (by decide) (by decide) (by decide) ?_
  refine z_aload_n X 0 dX11_isOfKind_71 rfl ?_
  refine z_instNo (nm := "IcicleRings$Forked") X dX11_isOfKind_72 wd_392 K0 rfl (by decide +kernel) ?_
  refine z_zret X E dX11_isOfKind_75 (rfl) (by omega) (by omega) ⟨?_, ?_, ?_⟩
  · rw [isOf_lit (by decide) (by decide)]; rfl
  · first | rfl | (funext zz; simp only [va_up]; (repeat' split) <;> first | rfl | (exfalso; omega) | simp_all)
  · rfl
set_option maxHeartbeats 4000000 in
set_option maxRecDepth 100000 in
theorem c_isOfKind_5_0 {κ : Wc} {l : Launch} {h : Mm} {n : Nat} {a : Nat} {v1 : Int32} {v2 : Int32} {v3 : Int32} (K0 : h a = some (.inr (4, [.int v1, .int v2, .int v3])))  : Con κ l yX11_isOfKind cX11_isOfKind 2 (some .boolean) 1 0 0 [.ref a, .int 0] h n (fun q h' n' => q = some (.int (b2i (isOfP (nI 5) (nI 0)))) ∧ h' = h ∧ n' = n) := by
  refine Con.of mk_X11_isOfKind (Nat.le_of_ble_eq_true rfl) (fun G hG X E => ?_)
  subst hG
  refine z_ls (ls' := [(0, .ref a), (1, .int 0)]) rfl ?_
  refine z_iload_n X 1 dX11_isOfKind_0 rfl ?_
  refine z_tableIn (off := 43) X 44 dX11_isOfKind_1 (by decide) (by decide) (by decide) (by decide) ?_
  refine z_iconst (v := 1) X dX11_isOfKind_44 (by decide) ?_
  refine z_zret X E dX11_isOfKind_45 (rfl) (by omega) (by omega) ⟨?_, ?_, ?_⟩
  · rw [isOf_lit (by decide) (by decide)]; rfl
  · first | rfl | (funext zz; simp only [va_up]; (repeat' split) <;> first | rfl | (exfalso; omega) | simp_all)
  · rfl
set_option maxHeartbeats 4000000 in
set_option maxRecDepth 100000 in
theorem c_isOfKind_5_1 {κ : Wc} {l : Launch} {h : Mm} {n : Nat} {a : Nat} {v1 : Int32} {v2 : Int32} {v3 : Int32} (K0 : h a = some (.inr (4, [.int v1, .int v2, .int v3])))  : Con κ l yX11_isOfKind cX11_isOfKind 2 (some .boolean) 1 0 0 [.ref a, .int 1] h n (fun q h' n' => q = some (.int (b2i (isOfP (nI 5) (nI 1)))) ∧ h' = h ∧ n' = n) := by
  refine Con.of mk_X11_isOfKind (Nat.le_of_ble_eq_true rfl) (fun G hG X E => ?_)
  subst hG
  refine z_ls (ls' := [(0, .ref a), (1, .int 1)]) rfl ?_
  refine z_iload_n X 1 dX11_isOfKind_0 rfl ?_
  refine z_tableIn (off := 45) X 46 dX11_isOfKind_1 (by decide) (by decide) (by decide) (by decide) ?_
  refine z_aload_n X 0 dX11_isOfKind_46 rfl ?_
  refine z_instNo (nm := "IcicleRings$Tips") X dX11_isOfKind_47 wd_321 K0 rfl (by decide +kernel) ?_
  refine z_zret X E dX11_isOfKind_50 (rfl) (by omega) (by omega) ⟨?_, ?_, ?_⟩
  · rw [isOf_lit (by decide) (by decide)]; rfl
  · first | rfl | (funext zz; simp only [va_up]; (repeat' split) <;> first | rfl | (exfalso; omega) | simp_all)
  · rfl
set_option maxHeartbeats 4000000 in
set_option maxRecDepth 100000 in
theorem c_isOfKind_5_2 {κ : Wc} {l : Launch} {h : Mm} {n : Nat} {a : Nat} {v1 : Int32} {v2 : Int32} {v3 : Int32} (K0 : h a = some (.inr (4, [.int v1, .int v2, .int v3])))  : Con κ l yX11_isOfKind cX11_isOfKind 2 (some .boolean) 1 0 0 [.ref a, .int 2] h n (fun q h' n' => q = some (.int (b2i (isOfP (nI 5) (nI 2)))) ∧ h' = h ∧ n' = n) := by
  refine Con.of mk_X11_isOfKind (Nat.le_of_ble_eq_true rfl) (fun G hG X E => ?_)
  subst hG
  refine z_ls (ls' := [(0, .ref a), (1, .int 2)]) rfl ?_
  refine z_iload_n X 1 dX11_isOfKind_0 rfl ?_
  refine z_tableIn (off := 50) X 51 dX11_isOfKind_1 (by decide) (by decide) (by decide) (by decide) ?_
  refine z_aload_n X 0 dX11_isOfKind_51 rfl ?_
  refine z_instNo (nm := "IcicleRings$Side") X dX11_isOfKind_52 wd_352 K0 rfl (by decide +kernel) ?_
  refine z_zret X E dX11_isOfKind_55 (rfl) (by omega) (by omega) ⟨?_, ?_, ?_⟩
  · rw [isOf_lit (by decide) (by decide)]; rfl
  · first | rfl | (funext zz; simp only [va_up]; (repeat' split) <;> first | rfl | (exfalso; omega) | simp_all)
  · rfl
set_option maxHeartbeats 4000000 in
set_option maxRecDepth 100000 in
theorem c_isOfKind_5_3 {κ : Wc} {l : Launch} {h : Mm} {n : Nat} {a : Nat} {v1 : Int32} {v2 : Int32} {v3 : Int32} (K0 : h a = some (.inr (4, [.int v1, .int v2, .int v3])))  : Con κ l yX11_isOfKind cX11_isOfKind 2 (some .boolean) 1 0 0 [.ref a, .int 3] h n (fun q h' n' => q = some (.int (b2i (isOfP (nI 5) (nI 3)))) ∧ h' = h ∧ n' = n) := by
  refine Con.of mk_X11_isOfKind (Nat.le_of_ble_eq_true rfl) (fun G hG X E => ?_)
  subst hG
  refine z_ls (ls' := [(0, .ref a), (1, .int 3)]) rfl ?_
  refine z_iload_n X 1 dX11_isOfKind_0 rfl ?_
  refine z_tableIn (off := 55) X 56 dX11_isOfKind_1 (by decide) (by decide) (by decide) (by decide) ?_
  refine z_aload_n X 0 dX11_isOfKind_56 rfl ?_
  refine z_instNo (nm := "IcicleRings$Ringed") X dX11_isOfKind_57 wd_362 K0 rfl (by decide +kernel) ?_
  refine z_zret X E dX11_isOfKind_60 (rfl) (by omega) (by omega) ⟨?_, ?_, ?_⟩
  · rw [isOf_lit (by decide) (by decide)]; rfl
  · first | rfl | (funext zz; simp only [va_up]; (repeat' split) <;> first | rfl | (exfalso; omega) | simp_all)
  · rfl
set_option maxHeartbeats 4000000 in
set_option maxRecDepth 100000 in
theorem c_isOfKind_5_4 {κ : Wc} {l : Launch} {h : Mm} {n : Nat} {a : Nat} {v1 : Int32} {v2 : Int32} {v3 : Int32} (K0 : h a = some (.inr (4, [.int v1, .int v2, .int v3])))  : Con κ l yX11_isOfKind cX11_isOfKind 2 (some .boolean) 1 0 0 [.ref a, .int 4] h n (fun q h' n' => q = some (.int (b2i (isOfP (nI 5) (nI 4)))) ∧ h' = h ∧ n' = n) := by
  refine Con.of mk_X11_isOfKind (Nat.le_of_ble_eq_true rfl) (fun G hG X E => ?_)
  subst hG
  refine z_ls (ls' := [(0, .ref a), (1, .int 4)]) rfl ?_
  refine z_iload_n X 1 dX11_isOfKind_0 rfl ?_
  refine z_tableIn (off := 60) X 61 dX11_isOfKind_1 (by decide) (by decide) (by decide) (by decide) ?_
  refine z_aload_n X 0 dX11_isOfKind_61 rfl ?_
  refine z_instNo (nm := "IcicleRings$Salted") X dX11_isOfKind_62 wd_372 K0 rfl (by decide +kernel) ?_
  refine z_zret X E dX11_isOfKind_65 (rfl) (by omega) (by omega) ⟨?_, ?_, ?_⟩
  · rw [isOf_lit (by decide) (by decide)]; rfl
  · first | rfl | (funext zz; simp only [va_up]; (repeat' split) <;> first | rfl | (exfalso; omega) | simp_all)
  · rfl
set_option maxHeartbeats 4000000 in
set_option maxRecDepth 100000 in
theorem c_isOfKind_5_5 {κ : Wc} {l : Launch} {h : Mm} {n : Nat} {a : Nat} {v1 : Int32} {v2 : Int32} {v3 : Int32} (K0 : h a = some (.inr (4, [.int v1, .int v2, .int v3])))  : Con κ l yX11_isOfKind cX11_isOfKind 2 (some .boolean) 1 0 0 [.ref a, .int 5] h n (fun q h' n' => q = some (.int (b2i (isOfP (nI 5) (nI 5)))) ∧ h' = h ∧ n' = n) := by
  refine Con.of mk_X11_isOfKind (Nat.le_of_ble_eq_true rfl) (fun G hG X E => ?_)
  subst hG
  refine z_ls (ls' := [(0, .ref a), (1, .int 5)]) rfl ?_
  refine z_iload_n X 1 dX11_isOfKind_0 rfl ?_
  refine z_tableIn (off := 65) X 66 dX11_isOfKind_1 (by decide) (by decide) (by decide) (by decide) ?_
  refine z_aload_n X 0 dX11_isOfKind_66 rfl ?_
  refine z_instY (nm := "IcicleRings$Leaning") X dX11_isOfKind_67 wd_382 K0 rfl (Or.inl rfl) ?_
  refine z_zret X E dX11_isOfKind_70 (rfl) (by omega) (by omega) ⟨?_, ?_, ?_⟩
  · rw [isOf_lit (by decide) (by decide)]; rfl
  · first | rfl | (funext zz; simp only [va_up]; (repeat' split) <;> first | rfl | (exfalso; omega) | simp_all)
  · rfl
set_option maxHeartbeats 4000000 in
set_option maxRecDepth 100000 in
theorem c_isOfKind_5_6 {κ : Wc} {l : Launch} {h : Mm} {n : Nat} {a : Nat} {v1 : Int32} {v2 : Int32} {v3 : Int32} (K0 : h a = some (.inr (4, [.int v1, .int v2, .int v3])))  : Con κ l yX11_isOfKind cX11_isOfKind 2 (some .boolean) 1 0 0 [.ref a, .int 6] h n (fun q h' n' => q = some (.int (b2i (isOfP (nI 5) (nI 6)))) ∧ h' = h ∧ n' = n) := by
  refine Con.of mk_X11_isOfKind (Nat.le_of_ble_eq_true rfl) (fun G hG X E => ?_)
  subst hG
  refine z_ls (ls' := [(0, .ref a), (1, .int 6)]) rfl ?_
  refine z_iload_n X 1 dX11_isOfKind_0 rfl ?_
  refine z_tableIn (off := 70) X 71 dX11_isOfKind_1 (by decide) (by decide) (by decide) (by decide) ?_
  refine z_aload_n X 0 dX11_isOfKind_71 rfl ?_
  refine z_instNo (nm := "IcicleRings$Forked") X dX11_isOfKind_72 wd_392 K0 rfl (by decide +kernel) ?_
  refine z_zret X E dX11_isOfKind_75 (rfl) (by omega) (by omega) ⟨?_, ?_, ?_⟩
  · rw [isOf_lit (by decide) (by decide)]; rfl
  · first | rfl | (funext zz; simp only [va_up]; (repeat' split) <;> first | rfl | (exfalso; omega) | simp_all)
  · rfl
set_option maxHeartbeats 4000000 in
set_option maxRecDepth 100000 in
theorem c_isOfKind_6_0 {κ : Wc} {l : Launch} {h : Mm} {n : Nat} {a : Nat} {v1 : Int32} {v2 : Int32} {v3 : Int32} (K0 : h a = some (.inr (1, [.int v1, .int v2, .int v3])))  : Con κ l yX11_isOfKind cX11_isOfKind 2 (some .boolean) 1 0 0 [.ref a, .int 0] h n (fun q h' n' => q = some (.int (b2i (isOfP (nI 6) (nI 0)))) ∧ h' = h ∧ n' = n) := by
  refine Con.of mk_X11_isOfKind (Nat.le_of_ble_eq_true rfl) (fun G hG X E => ?_)
  subst hG
  refine z_ls (ls' := [(0, .ref a), (1, .int 0)]) rfl ?_
  refine z_iload_n X 1 dX11_isOfKind_0 rfl ?_
  refine z_tableIn (off := 43) X 44 dX11_isOfKind_1 (by decide) (by decide) (by decide) (by decide) ?_
  refine z_iconst (v := 1) X dX11_isOfKind_44 (by decide) ?_
  refine z_zret X E dX11_isOfKind_45 (rfl) (by omega) (by omega) ⟨?_, ?_, ?_⟩
  · rw [isOf_lit (by decide) (by decide)]; rfl
  · first | rfl | (funext zz; simp only [va_up]; (repeat' split) <;> first | rfl | (exfalso; omega) | simp_all)
  · rfl
set_option maxHeartbeats 4000000 in
set_option maxRecDepth 100000 in
theorem c_isOfKind_6_1 {κ : Wc} {l : Launch} {h : Mm} {n : Nat} {a : Nat} {v1 : Int32} {v2 : Int32} {v3 : Int32} (K0 : h a = some (.inr (1, [.int v1, .int v2, .int v3])))  : Con κ l yX11_isOfKind cX11_isOfKind 2 (some .boolean) 1 0 0 [.ref a, .int 1] h n (fun q h' n' => q = some (.int (b2i (isOfP (nI 6) (nI 1)))) ∧ h' = h ∧ n' = n) := by
  refine Con.of mk_X11_isOfKind (Nat.le_of_ble_eq_true rfl) (fun G hG X E => ?_)
  subst hG
  refine z_ls (ls' := [(0, .ref a), (1, .int 1)]) rfl ?_
  refine z_iload_n X 1 dX11_isOfKind_0 rfl ?_
  refine z_tableIn (off := 45) X 46 dX11_isOfKind_1 (by decide) (by decide) (by decide) (by decide) ?_
  refine z_aload_n X 0 dX11_isOfKind_46 rfl ?_
  refine z_instY (nm := "IcicleRings$Tips") X dX11_isOfKind_47 wd_321 K0 rfl (Or.inr (by decide +kernel)) ?_
  refine z_zret X E dX11_isOfKind_50 (rfl) (by omega) (by omega) ⟨?_, ?_, ?_⟩
  · rw [isOf_lit (by decide) (by decide)]; rfl
  · first | rfl | (funext zz; simp only [va_up]; (repeat' split) <;> first | rfl | (exfalso; omega) | simp_all)
  · rfl
set_option maxHeartbeats 4000000 in
set_option maxRecDepth 100000 in
theorem c_isOfKind_6_2 {κ : Wc} {l : Launch} {h : Mm} {n : Nat} {a : Nat} {v1 : Int32} {v2 : Int32} {v3 : Int32} (K0 : h a = some (.inr (1, [.int v1, .int v2, .int v3])))  : Con κ l yX11_isOfKind cX11_isOfKind 2 (some .boolean) 1 0 0 [.ref a, .int 2] h n (fun q h' n' => q = some (.int (b2i (isOfP (nI 6) (nI 2)))) ∧ h' = h ∧ n' = n) := by
  refine Con.of mk_X11_isOfKind (Nat.le_of_ble_eq_true rfl) (fun G hG X E => ?_)
  subst hG
  refine z_ls (ls' := [(0, .ref a), (1, .int 2)]) rfl ?_
  refine z_iload_n X 1 dX11_isOfKind_0 rfl ?_
  refine z_tableIn (off := 50) X 51 dX11_isOfKind_1 (by decide) (by decide) (by decide) (by decide) ?_
  refine z_aload_n X 0 dX11_isOfKind_51 rfl ?_
  refine z_instNo (nm := "IcicleRings$Side") X dX11_isOfKind_52 wd_352 K0 rfl (by decide +kernel) ?_
  refine z_zret X E dX11_isOfKind_55 (rfl) (by omega) (by omega) ⟨?_, ?_, ?_⟩
  · rw [isOf_lit (by decide) (by decide)]; rfl
  · first | rfl | (funext zz; simp only [va_up]; (repeat' split) <;> first | rfl | (exfalso; omega) | simp_all)
  · rfl
set_option maxHeartbeats 4000000 in
set_option maxRecDepth 100000 in
theorem c_isOfKind_6_3 {κ : Wc} {l : Launch} {h : Mm} {n : Nat} {a : Nat} {v1 : Int32} {v2 : Int32} {v3 : Int32} (K0 : h a = some (.inr (1, [.int v1, .int v2, .int v3])))  : Con κ l yX11_isOfKind cX11_isOfKind 2 (some .boolean) 1 0 0 [.ref a, .int 3] h n (fun q h' n' => q = some (.int (b2i (isOfP (nI 6) (nI 3)))) ∧ h' = h ∧ n' = n) := by
  refine Con.of mk_X11_isOfKind (Nat.le_of_ble_eq_true rfl) (fun G hG X E => ?_)
  subst hG
  refine z_ls (ls' := [(0, .ref a), (1, .int 3)]) rfl ?_
  refine z_iload_n X 1 dX11_isOfKind_0 rfl ?_
  refine z_tableIn (off := 55) X 56 dX11_isOfKind_1 (by decide) (by decide) (by decide) (by decide) ?_
  refine z_aload_n X 0 dX11_isOfKind_56 rfl ?_
  refine z_instNo (nm := "IcicleRings$Ringed") X dX11_isOfKind_57 wd_362 K0 rfl (by decide +kernel) ?_
  refine z_zret X E dX11_isOfKind_60 (rfl) (by omega) (by omega) ⟨?_, ?_, ?_⟩
  · rw [isOf_lit (by decide) (by decide)]; rfl
  · first | rfl | (funext zz; simp only [va_up]; (repeat' split) <;> first | rfl | (exfalso; omega) | simp_all)
  · rfl
set_option maxHeartbeats 4000000 in
set_option maxRecDepth 100000 in
theorem c_isOfKind_6_4 {κ : Wc} {l : Launch} {h : Mm} {n : Nat} {a : Nat} {v1 : Int32} {v2 : Int32} {v3 : Int32} (K0 : h a = some (.inr (1, [.int v1, .int v2, .int v3])))  : Con κ l yX11_isOfKind cX11_isOfKind 2 (some .boolean) 1 0 0 [.ref a, .int 4] h n (fun q h' n' => q = some (.int (b2i (isOfP (nI 6) (nI 4)))) ∧ h' = h ∧ n' = n) := by
  refine Con.of mk_X11_isOfKind (Nat.le_of_ble_eq_true rfl) (fun G hG X E => ?_)
  subst hG
  refine z_ls (ls' := [(0, .ref a), (1, .int 4)]) rfl ?_
  refine z_iload_n X 1 dX11_isOfKind_0 rfl ?_
  refine z_tableIn (off := 60) X 61 dX11_isOfKind_1 (by decide) (by decide) (by decide) (by decide) ?_
  refine z_aload_n X 0 dX11_isOfKind_61 rfl ?_
  refine z_instNo (nm := "IcicleRings$Salted") X dX11_isOfKind_62 wd_372 K0 rfl (by decide +kernel) ?_
  refine z_zret X E dX11_isOfKind_65 (rfl) (by omega) (by omega) ⟨?_, ?_, ?_⟩
  · rw [isOf_lit (by decide) (by decide)]; rfl
  · first | rfl | (funext zz; simp only [va_up]; (repeat' split) <;> first | rfl | (exfalso; omega) | simp_all)
  · rfl
set_option maxHeartbeats 4000000 in
set_option maxRecDepth 100000 in
theorem c_isOfKind_6_5 {κ : Wc} {l : Launch} {h : Mm} {n : Nat} {a : Nat} {v1 : Int32} {v2 : Int32} {v3 : Int32} (K0 : h a = some (.inr (1, [.int v1, .int v2, .int v3])))  : Con κ l yX11_isOfKind cX11_isOfKind 2 (some .boolean) 1 0 0 [.ref a, .int 5] h n (fun q h' n' => q = some (.int (b2i (isOfP (nI 6) (nI 5)))) ∧ h' = h ∧ n' = n) := by
  refine Con.of mk_X11_isOfKind (Nat.le_of_ble_eq_true rfl) (fun G hG X E => ?_)
  subst hG
  refine z_ls (ls' := [(0, .ref a), (1, .int 5)]) rfl ?_
  refine z_iload_n X 1 dX11_isOfKind_0 rfl ?_
  refine z_tableIn (off := 65) X 66 dX11_isOfKind_1 (by decide) (by decide) (by decide) (by decide) ?_
  refine z_aload_n X 0 dX11_isOfKind_66 rfl ?_
  refine z_instNo (nm := "IcicleRings$Leaning") X dX11_isOfKind_67 wd_382 K0 rfl (by decide +kernel) ?_
  refine z_zret X E dX11_isOfKind_70 (rfl) (by omega) (by omega) ⟨?_, ?_, ?_⟩
  · rw [isOf_lit (by decide) (by decide)]; rfl
  · first | rfl | (funext zz; simp only [va_up]; (repeat' split) <;> first | rfl | (exfalso; omega) | simp_all)
  · rfl
set_option maxHeartbeats 4000000 in
set_option maxRecDepth 100000 in
theorem c_isOfKind_6_6 {κ : Wc} {l : Launch} {h : Mm} {n : Nat} {a : Nat} {v1 : Int32} {v2 : Int32} {v3 : Int32} (K0 : h a = some (.inr (1, [.int v1, .int v2, .int v3])))  : Con κ l yX11_isOfKind cX11_isOfKind 2 (some .boolean) 1 0 0 [.ref a, .int 6] h n (fun q h' n' => q = some (.int (b2i (isOfP (nI 6) (nI 6)))) ∧ h' = h ∧ n' = n) := by
  refine Con.of mk_X11_isOfKind (Nat.le_of_ble_eq_true rfl) (fun G hG X E => ?_)
  subst hG
  refine z_ls (ls' := [(0, .ref a), (1, .int 6)]) rfl ?_
  refine z_iload_n X 1 dX11_isOfKind_0 rfl ?_
  refine z_tableIn (off := 70) X 71 dX11_isOfKind_1 (by decide) (by decide) (by decide) (by decide) ?_
  refine z_aload_n X 0 dX11_isOfKind_71 rfl ?_
  refine z_instY (nm := "IcicleRings$Forked") X dX11_isOfKind_72 wd_392 K0 rfl (Or.inl rfl) ?_
  refine z_zret X E dX11_isOfKind_75 (rfl) (by omega) (by omega) ⟨?_, ?_, ?_⟩
  · rw [isOf_lit (by decide) (by decide)]; rfl
  · first | rfl | (funext zz; simp only [va_up]; (repeat' split) <;> first | rfl | (exfalso; omega) | simp_all)
  · rfl
set_option maxHeartbeats 4000000 in
set_option maxRecDepth 100000 in
theorem c_goAhead {κ : Wc} {l : Launch} {h : Mm} {n : Nat} {o : Nat} {im : Int32} {d : Nat → Int32} {len : Nat} {nc : Nat} {cold : Int32} {wind : Int32} {cs : Nat → Option Nat} {ts : Nat → Option Nat} {alen : Int32} {anow : Int32} {add : Int32} {adr : Int32} {acc : Int32} {aon : Int32} {acold : Int32} {awind : Int32} {af1 : Nat → Int32} {af2 : Nat → Int32} {af3 : Nat → Int32} {ac1 : Nat → Option Nat} {at1 : Nat → Option Nat} {tx : Nat → Nat} {v : Nat} (K0 : h o = some (.inr (11, [.ref (o + 1), .ref (o + 14), .ref (o + 27), .ref (o + 33), .ref (o + 42), .ref (o + 55), .ref (o + 57), .ref (o + 59), .ref (o + 61), .int im]))) (K1 : h (o + 1) = some (.inr (3, [.ref (o + 1 + 1), .ref (o + 1 + 7), .ref (o + 1 + 9), .ref (o + 1 + 11), .int (d 13)]))) (K2 : h (o + 2) = some (.inr (2, [.ref (o + 3), .ref (o + 4), .ref (o + 5), .ref (o + 6), .ref (o + 7), .int (nI len), .int (d 0), .int (d 2), .int (d 3), .int (nI nc), .int (d 10), .int cold, .int wind]))) (K3 : h (o + 3) = arI κ 40 (win 100 40 d)) (K4 : h (o + 4) = arI κ 40 (win 140 40 d)) (K5 : h (o + 5) = arI κ 6 (win 4 6 d)) (K6 : h (o + 6) = arR κ 1 6 cs) (K7 : h (o + 7) = arR κ 2 2 ts) (K8 : h (o + 27) = some (.inr (2, [.ref (o + 28), .ref (o + 29), .ref (o + 30), .ref (o + 31), .ref (o + 32), .int alen, .int anow, .int add, .int adr, .int acc, .int aon, .int acold, .int awind]))) (K9 : h (o + 28) = arI κ 40 af1) (K10 : h (o + 29) = arI κ 40 af2) (K11 : h (o + 30) = arI κ 6 af3) (K12 : h (o + 31) = arR κ 1 6 ac1) (K13 : h (o + 32) = arR κ 2 2 at1) (q1 : d 1 = nI len) (q2 : 1 ≤ len) (q3 : len ≤ 40) (q4 : d 11 = nI nc) (q5 : nc ≤ 6) (hTs : TsO κ (o + 76) h ts (Tx d) tx) (hCs : CsO (o + 76) h cs d nc) (hCA : CsA (o + 76) h cs) (hS : wfS d) (hC : wfC d) (q6 : v ≤ 100) : Con κ l yX11_goAhead cX11_goAhead 2 none 12 0 0 [.ref o, .int (nI v)] h n (fun q h' n' => ∃ cold' : Int32, ∃ wind' : Int32, q = none ∧ n' = n ∧ (∀ zq : Nat, zq < (o + 76) → zq ≠ (o + 27) → zq ≠ (o + 28) → zq ≠ (o + 29) → zq ≠ (o + 30) → zq ≠ (o + 31) → zq ≠ (o + 32) → h' zq = h zq) ∧ Zr κ (o + 76) h h' ∧ h' (o + 27) = some (.inr (2, [.ref (o + 28), .ref (o + 29), .ref (o + 30), .ref (o + 31), .ref (o + 32), .int (nI (lnO (gbyN (Tx d) tx v d))), .int ((gbyN (Tx d) tx v d) 0), .int ((gbyN (Tx d) tx v d) 2), .int ((gbyN (Tx d) tx v d) 3), .int (nI nc), .int (d 10), .int cold', .int wind'])) ∧ h' (o + 28) = arI κ 40 (win 100 40 (gbyN (Tx d) tx v d)) ∧ h' (o + 29) = arI κ 40 (win 140 40 (gbyN (Tx d) tx v d)) ∧ h' (o + 30) = arI κ 6 (win 4 6 d) ∧ h' (o + 31) = arR κ 1 6 cs ∧ h' (o + 32) = arR κ 2 2 ts) := by
  refine Con.of mk_X11_goAhead (Nat.le_of_ble_eq_true rfl) (fun G hG X E => ?_)
  subst hG
  refine z_ls (ls' := [(0, .ref o), (1, .int (nI v))]) rfl ?_
  refine z_aload_n X 0 dX11_goAhead_0 rfl ?_
  refine z_get X fl_X11_22_11 dX11_goAhead_1 K0 rfl ?_
  refine z_aload_n X 0 dX11_goAhead_4 rfl ?_
  refine z_get X fl_X11_10_11 dX11_goAhead_5 K0 rfl ?_
  refine z_get X fl_X11_56_3 dX11_goAhead_8 K1 rfl ?_
  refine z_callV X (c_become (κ := κ) (n := n) (i := (o + 27)) (j := (o + 1 + 1)) (f1 := (af1)) (f2 := (af2)) (f3 := (af3)) (c1 := (ac1)) (t1 := (at1)) (g1 := (win 100 40 d)) (g2 := (win 140 40 d)) (g3 := (win 4 6 d)) (c2 := (cs)) (t2 := (ts)) (T := (Tx d)) (tx := (tx)) (len := (alen)) (now := (anow)) (dd := (add)) (dr := (adr)) (cc := (acc)) (on := (aon)) (cold := (acold)) (wind := (awind)) (len2 := (nI len)) (now2 := (d 0)) (dd2 := (d 2)) (dr2 := (d 3)) (cc2 := (nI nc)) (on2 := (d 10)) (cold2 := (cold)) (wind2 := (wind)) K8 K9 K10 K11 K12 K13 K2 K3 K4 K5 K6 K7 (by first | assumption | omega) (by first | assumption | omega) (by first | assumption | omega) (CsA.mono (Zr.refl (κ := κ)) hCA) (TsO.mono (Zr.refl (κ := κ)) hTs)) mk_X2_become dX11_goAhead_11 wd_665 wd_666 wd_667 rfl K8 rfl rfl rfl (Nat.le_of_ble_eq_true rfl) (Nat.le_of_ble_eq_true rfl) (Nat.le_of_ble_eq_true rfl) (by omega) (by omega) (fun q zh1 zm3 zp4 => ?_)
  obtain ⟨rfl, zn5, zf6, zr7, zK8, zK9, zK10, zK11, zK12, zK13⟩ := zp4
  subst zm3
  refine z_st (st' := []) rfl ?_
  have zK14 : zh1 o = some (.inr (11, [.ref (o + 1), .ref (o + 14), .ref (o + 27), .ref (o + 33), .ref (o + 42), .ref (o + 55), .ref (o + 57), .ref (o + 59), .ref (o + 61), .int im])) := (zf6 o (by omega) (by omega) (by omega) (by omega) (by omega) (by omega) (by omega)).trans K0
  have zK15 : zh1 (o + 1) = some (.inr (3, [.ref (o + 1 + 1), .ref (o + 1 + 7), .ref (o + 1 + 9), .ref (o + 1 + 11), .int (d 13)])) := (zf6 (o + 1) (by omega) (by omega) (by omega) (by omega) (by omega) (by omega) (by omega)).trans K1
  have zK16 : zh1 (o + 2) = some (.inr (2, [.ref (o + 3), .ref (o + 4), .ref (o + 5), .ref (o + 6), .ref (o + 7), .int (nI len), .int (d 0), .int (d 2), .int (d 3), .int (nI nc), .int (d 10), .int cold, .int wind])) := (zf6 (o + 2) (by omega) (by omega) (by omega) (by omega) (by omega) (by omega) (by omega)).trans K2
  have zK17 : zh1 (o + 3) = arI κ 40 (win 100 40 d) := (zf6 (o + 3) (by omega) (by omega) (by omega) (by omega) (by omega) (by omega) (by omega)).trans K3
  have zK18 : zh1 (o + 4) = arI κ 40 (win 140 40 d) := (zf6 (o + 4) (by omega) (by omega) (by omega) (by omega) (by omega) (by omega) (by omega)).trans K4
  have zK19 : zh1 (o + 5) = arI κ 6 (win 4 6 d) := (zf6 (o + 5) (by omega) (by omega) (by omega) (by omega) (by omega) (by omega) (by omega)).trans K5
  have zK20 : zh1 (o + 6) = arR κ 1 6 cs := (zf6 (o + 6) (by omega) (by omega) (by omega) (by omega) (by omega) (by omega) (by omega)).trans K6
  have zK21 : zh1 (o + 7) = arR κ 2 2 ts := (zf6 (o + 7) (by omega) (by omega) (by omega) (by omega) (by omega) (by omega) (by omega)).trans K7
  have zl22 : ∀ zq : Nat, zq < (o + 76) → zq ≠ (o + 27) → zq ≠ (o + 28) → zq ≠ (o + 29) → zq ≠ (o + 30) → zq ≠ (o + 31) → zq ≠ (o + 32) → zh1 zq = h zq := by intro zq hzq zn0 zn1 zn2 zn3 zn4 zn5; rw [zf6 zq (by omega) (by omega) (by omega) (by omega) (by omega) (by omega) (by omega)]; try rfl
  have zr23 : Zr κ (o + 76) h zh1 := (Zr.refl).trans zr7
  refine z_aload_n X 0 dX11_goAhead_14 rfl ?_
  refine z_get X fl_X11_22_11 dX11_goAhead_15 zK14 rfl ?_
  refine z_iload_n X 1 dX11_goAhead_18 rfl ?_
  refine z_callV X (c_go (κ := κ) (n := n) (i := (o + 27)) (len := (len)) (nc := (nc)) (v := (v)) (m := (d)) (ts := (ts)) (cs := (cs)) (T := (Tx d)) (tx := (tx)) (cold := (acold)) (wind := (awind)) zK8 zK9 zK10 zK11 zK12 zK13 (by first | assumption | omega) (TsO.mono zr23 hTs) ((CsO.mono zr23 hCs).row (fun z h1 h2 => rfl) q5) (q1) (by first | assumption | omega) (by first | assumption | omega) (q4) (by first | assumption | omega) (hS) (hC) (by first | assumption | omega)) mk_X2_go dX11_goAhead_19 wd_596 wd_597 wd_598 rfl zK8 rfl rfl rfl (Nat.le_of_ble_eq_true rfl) (Nat.le_of_ble_eq_true rfl) (Nat.le_of_ble_eq_true rfl) (by omega) (by omega) (fun q zh26 zm28 zp29 => ?_)
  obtain ⟨cold'24, wind'25, rfl, zn30, zf31, zr32, zK33, zK34, zK35⟩ := zp29
  subst zm28
  refine z_st (st' := []) rfl ?_
  have zK36 : zh26 o = some (.inr (11, [.ref (o + 1), .ref (o + 14), .ref (o + 27), .ref (o + 33), .ref (o + 42), .ref (o + 55), .ref (o + 57), .ref (o + 59), .ref (o + 61), .int im])) := (zf31 o (by omega) (by omega) (by omega) (by omega)).trans zK14
  have zK37 : zh26 (o + 1) = some (.inr (3, [.ref (o + 1 + 1), .ref (o + 1 + 7), .ref (o + 1 + 9), .ref (o + 1 + 11), .int (d 13)])) := (zf31 (o + 1) (by omega) (by omega) (by omega) (by omega)).trans zK15
  have zK38 : zh26 (o + 2) = some (.inr (2, [.ref (o + 3), .ref (o + 4), .ref (o + 5), .ref (o + 6), .ref (o + 7), .int (nI len), .int (d 0), .int (d 2), .int (d 3), .int (nI nc), .int (d 10), .int cold, .int wind])) := (zf31 (o + 2) (by omega) (by omega) (by omega) (by omega)).trans zK16
  have zK39 : zh26 (o + 3) = arI κ 40 (win 100 40 d) := (zf31 (o + 3) (by omega) (by omega) (by omega) (by omega)).trans zK17
  have zK40 : zh26 (o + 4) = arI κ 40 (win 140 40 d) := (zf31 (o + 4) (by omega) (by omega) (by omega) (by omega)).trans zK18
  have zK41 : zh26 (o + 5) = arI κ 6 (win 4 6 d) := (zf31 (o + 5) (by omega) (by omega) (by omega) (by omega)).trans zK19
  have zK42 : zh26 (o + 6) = arR κ 1 6 cs := (zf31 (o + 6) (by omega) (by omega) (by omega) (by omega)).trans zK20
  have zK43 : zh26 (o + 7) = arR κ 2 2 ts := (zf31 (o + 7) (by omega) (by omega) (by omega) (by omega)).trans zK21
  have zK44 : zh26 (o + 30) = arI κ 6 ((win 4 6 d)) := (zf31 (o + 30) (by omega) (by omega) (by omega) (by omega)).trans zK11
  have zK45 : zh26 (o + 31) = arR κ 1 6 cs := (zf31 (o + 31) (by omega) (by omega) (by omega) (by omega)).trans zK12
  have zK46 : zh26 (o + 32) = arR κ 2 2 ts := (zf31 (o + 32) (by omega) (by omega) (by omega) (by omega)).trans zK13
  have zl47 : ∀ zq : Nat, zq < (o + 76) → zq ≠ (o + 27) → zq ≠ (o + 28) → zq ≠ (o + 29) → zq ≠ (o + 30) → zq ≠ (o + 31) → zq ≠ (o + 32) → zh26 zq = h zq := by intro zq hzq zn0 zn1 zn2 zn3 zn4 zn5; rw [zf31 zq (by omega) (by omega) (by omega) (by omega)]; exact zl22 zq hzq zn0 zn1 zn2 zn3 zn4 zn5
  have zr48 : Zr κ (o + 76) h zh26 := (zr23).trans zr32
  refine z_vret X E dX11_goAhead_22 (by omega) (by omega) ⟨cold'24, wind'25, ?_, ?_, ?_, ?_, ?_, ?_, ?_, ?_, ?_, ?_⟩
  · rfl
  · rfl
  · exact fun zq hzq zn0 zn1 zn2 zn3 zn4 zn5 => zl47 zq hzq zn0 zn1 zn2 zn3 zn4 zn5
  · exact zr48
  · exact zK33
  · exact zK34
  · exact zK35
  · exact zK44
  · exact zK45
  · exact zK46
/-- the copy as at first: nothing has dripped -/
def bg2 (d : Nat → Int32) : Nat → Int32 := upd (upd (bgn d) 2 0) 3 0
theorem bg2_off {d : Nat → Int32} {q : Nat} (h : 4 ≤ q ∧ q ≠ 100 ∧ q ≠ 140) : bg2 d q = d q := (pk_un (by omega)).trans ((pk_un (by omega)).trans (bgn_off (by omega)))
theorem bg2_0 (d : Nat → Int32) : bg2 d 0 = 0 := (pk_un (by omega)).trans ((pk_un (by omega)).trans ((pk_un (by omega)).trans ((pk_un (by omega)).trans ((pk_un (by omega)).trans pk_us))))
theorem bg2_1 (d : Nat → Int32) : bg2 d 1 = nI 1 := (pk_un (by omega)).trans ((pk_un (by omega)).trans (bgn_1 d))
theorem bg2_2 (d : Nat → Int32) : bg2 d 2 = 0 := (pk_un (by omega)).trans pk_us
theorem bg2_3 (d : Nat → Int32) : bg2 d 3 = 0 := pk_us
theorem bg2_w (d : Nat → Int32) : win 100 40 (bg2 d) = upd (win 100 40 d) 0 10 := by
  unfold bg2 bgn
  rw [win_off (by omega), win_off (by omega), win_off (by omega), win_us (b := 100) (k := 0) (by omega), win_off (by omega), win_off (by omega)]
theorem bg2_s (d : Nat → Int32) : win 140 40 (bg2 d) = upd (win 140 40 d) 0 0 := by
  unfold bg2 bgn
  rw [win_off (by omega), win_off (by omega), win_us (b := 140) (k := 0) (by omega), win_off (by omega), win_off (by omega), win_off (by omega)]
theorem bg2_ok (d : Nat → Int32) : lnOk (bg2 d) := lnOk_of (bg2_1 d) (by omega) (by omega)
theorem wfC_bg2 {d : Nat → Int32} (h : wfC d) : wfC (bg2 d) := by
  intro c hc
  have hc1 := h c hc
  by_cases e : c = 0
  · subst e
    have e1 : bg2 d 100 = 10 := (pk_un (by omega)).trans ((pk_un (by omega)).trans ((pk_un (by omega)).trans pk_us))
    have e2 : bg2 d 140 = 0 := (pk_un (by omega)).trans ((pk_un (by omega)).trans pk_us)
    show 0 ≤ (bg2 d 100).toInt ∧ (bg2 d 100).toInt ≤ 99999 ∧ 0 ≤ (bg2 d 140).toInt ∧ (bg2 d 140).toInt ≤ 999999
    rw [e1, e2]
    decide
  · rw [bg2_off (by omega), bg2_off (by omega)]
    exact hc1
theorem wfS_bg2 {d : Nat → Int32} (h : wfS d) : wfS (bg2 d) := by
  unfold wfS
  rw [bg2_off (by omega), bg2_off (by omega), bg2_off (by omega)]
  exact h
set_option maxHeartbeats 4000000 in
set_option maxRecDepth 100000 in
theorem c_startAnew {κ : Wc} {l : Launch} {h : Mm} {n : Nat} {o : Nat} {im : Int32} {d : Nat → Int32} {len : Nat} {nc : Nat} {cold : Int32} {wind : Int32} {cs : Nat → Option Nat} {ts : Nat → Option Nat} {alen : Int32} {anow : Int32} {add : Int32} {adr : Int32} {acc : Int32} {aon : Int32} {acold : Int32} {awind : Int32} {af1 : Nat → Int32} {af2 : Nat → Int32} {af3 : Nat → Int32} {ac1 : Nat → Option Nat} {at1 : Nat → Option Nat} {tx : Nat → Nat} (K0 : h o = some (.inr (11, [.ref (o + 1), .ref (o + 14), .ref (o + 27), .ref (o + 33), .ref (o + 42), .ref (o + 55), .ref (o + 57), .ref (o + 59), .ref (o + 61), .int im]))) (K1 : h (o + 1) = some (.inr (3, [.ref (o + 1 + 1), .ref (o + 1 + 7), .ref (o + 1 + 9), .ref (o + 1 + 11), .int (d 13)]))) (K2 : h (o + 2) = some (.inr (2, [.ref (o + 3), .ref (o + 4), .ref (o + 5), .ref (o + 6), .ref (o + 7), .int (nI len), .int (d 0), .int (d 2), .int (d 3), .int (nI nc), .int (d 10), .int cold, .int wind]))) (K3 : h (o + 3) = arI κ 40 (win 100 40 d)) (K4 : h (o + 4) = arI κ 40 (win 140 40 d)) (K5 : h (o + 5) = arI κ 6 (win 4 6 d)) (K6 : h (o + 6) = arR κ 1 6 cs) (K7 : h (o + 7) = arR κ 2 2 ts) (K8 : h (o + 27) = some (.inr (2, [.ref (o + 28), .ref (o + 29), .ref (o + 30), .ref (o + 31), .ref (o + 32), .int alen, .int anow, .int add, .int adr, .int acc, .int aon, .int acold, .int awind]))) (K9 : h (o + 28) = arI κ 40 af1) (K10 : h (o + 29) = arI κ 40 af2) (K11 : h (o + 30) = arI κ 6 af3) (K12 : h (o + 31) = arR κ 1 6 ac1) (K13 : h (o + 32) = arR κ 2 2 at1) (hTs : TsO κ (o + 76) h ts (Tx d) tx) (hCs : CsO (o + 76) h cs d nc) (hCA : CsA (o + 76) h cs) : Con κ l yX11_startAnew cX11_startAnew 1 none 4 0 0 [.ref o] h n (fun q h' n' => q = none ∧ n' = n ∧ (∀ zq : Nat, zq < (o + 76) → zq ≠ (o + 27) → zq ≠ (o + 28) → zq ≠ (o + 29) → zq ≠ (o + 30) → zq ≠ (o + 31) → zq ≠ (o + 32) → h' zq = h zq) ∧ Zr κ (o + 76) h h' ∧ h' (o + 27) = some (.inr (2, [.ref (o + 28), .ref (o + 29), .ref (o + 30), .ref (o + 31), .ref (o + 32), .int (nI 1), .int ((bg2 d) 0), .int ((bg2 d) 2), .int ((bg2 d) 3), .int (nI nc), .int (d 10), .int acold, .int awind])) ∧ h' (o + 28) = arI κ 40 (win 100 40 (bg2 d)) ∧ h' (o + 29) = arI κ 40 (win 140 40 (bg2 d)) ∧ h' (o + 30) = arI κ 6 (win 4 6 d) ∧ h' (o + 31) = arR κ 1 6 cs ∧ h' (o + 32) = arR κ 2 2 ts) := by
  refine Con.of mk_X11_startAnew (Nat.le_of_ble_eq_true rfl) (fun G hG X E => ?_)
  subst hG
  refine z_ls (ls' := [(0, .ref o)]) rfl ?_
  refine z_aload_n X 0 dX11_startAnew_0 rfl ?_
  refine z_get X fl_X11_22_11 dX11_startAnew_1 K0 rfl ?_
  refine z_aload_n X 0 dX11_startAnew_4 rfl ?_
  refine z_get X fl_X11_10_11 dX11_startAnew_5 K0 rfl ?_
  refine z_get X fl_X11_56_3 dX11_startAnew_8 K1 rfl ?_
  refine z_callV X (c_become (κ := κ) (n := n) (i := (o + 27)) (j := (o + 1 + 1)) (f1 := (af1)) (f2 := (af2)) (f3 := (af3)) (c1 := (ac1)) (t1 := (at1)) (g1 := (win 100 40 d)) (g2 := (win 140 40 d)) (g3 := (win 4 6 d)) (c2 := (cs)) (t2 := (ts)) (T := (Tx d)) (tx := (tx)) (len := (alen)) (now := (anow)) (dd := (add)) (dr := (adr)) (cc := (acc)) (on := (aon)) (cold := (acold)) (wind := (awind)) (len2 := (nI len)) (now2 := (d 0)) (dd2 := (d 2)) (dr2 := (d 3)) (cc2 := (nI nc)) (on2 := (d 10)) (cold2 := (cold)) (wind2 := (wind)) K8 K9 K10 K11 K12 K13 K2 K3 K4 K5 K6 K7 (by first | assumption | omega) (by first | assumption | omega) (by first | assumption | omega) (CsA.mono (Zr.refl (κ := κ)) hCA) (TsO.mono (Zr.refl (κ := κ)) hTs)) mk_X2_become dX11_startAnew_11 wd_665 wd_666 wd_667 rfl K8 rfl rfl rfl (Nat.le_of_ble_eq_true rfl) (Nat.le_of_ble_eq_true rfl) (Nat.le_of_ble_eq_true rfl) (by omega) (by omega) (fun q zh1 zm3 zp4 => ?_)
  obtain ⟨rfl, zn5, zf6, zr7, zK8, zK9, zK10, zK11, zK12, zK13⟩ := zp4
  subst zm3
  refine z_st (st' := []) rfl ?_
  have zK14 : zh1 o = some (.inr (11, [.ref (o + 1), .ref (o + 14), .ref (o + 27), .ref (o + 33), .ref (o + 42), .ref (o + 55), .ref (o + 57), .ref (o + 59), .ref (o + 61), .int im])) := (zf6 o (by omega) (by omega) (by omega) (by omega) (by omega) (by omega) (by omega)).trans K0
  have zK15 : zh1 (o + 1) = some (.inr (3, [.ref (o + 1 + 1), .ref (o + 1 + 7), .ref (o + 1 + 9), .ref (o + 1 + 11), .int (d 13)])) := (zf6 (o + 1) (by omega) (by omega) (by omega) (by omega) (by omega) (by omega) (by omega)).trans K1
  have zK16 : zh1 (o + 2) = some (.inr (2, [.ref (o + 3), .ref (o + 4), .ref (o + 5), .ref (o + 6), .ref (o + 7), .int (nI len), .int (d 0), .int (d 2), .int (d 3), .int (nI nc), .int (d 10), .int cold, .int wind])) := (zf6 (o + 2) (by omega) (by omega) (by omega) (by omega) (by omega) (by omega) (by omega)).trans K2
  have zK17 : zh1 (o + 3) = arI κ 40 (win 100 40 d) := (zf6 (o + 3) (by omega) (by omega) (by omega) (by omega) (by omega) (by omega) (by omega)).trans K3
  have zK18 : zh1 (o + 4) = arI κ 40 (win 140 40 d) := (zf6 (o + 4) (by omega) (by omega) (by omega) (by omega) (by omega) (by omega) (by omega)).trans K4
  have zK19 : zh1 (o + 5) = arI κ 6 (win 4 6 d) := (zf6 (o + 5) (by omega) (by omega) (by omega) (by omega) (by omega) (by omega) (by omega)).trans K5
  have zK20 : zh1 (o + 6) = arR κ 1 6 cs := (zf6 (o + 6) (by omega) (by omega) (by omega) (by omega) (by omega) (by omega) (by omega)).trans K6
  have zK21 : zh1 (o + 7) = arR κ 2 2 ts := (zf6 (o + 7) (by omega) (by omega) (by omega) (by omega) (by omega) (by omega) (by omega)).trans K7
  have zl22 : ∀ zq : Nat, zq < (o + 76) → zq ≠ (o + 27) → zq ≠ (o + 28) → zq ≠ (o + 29) → zq ≠ (o + 30) → zq ≠ (o + 31) → zq ≠ (o + 32) → zh1 zq = h zq := by intro zq hzq zn0 zn1 zn2 zn3 zn4 zn5; rw [zf6 zq (by omega) (by omega) (by omega) (by omega) (by omega) (by omega) (by omega)]; try rfl
  have zr23 : Zr κ (o + 76) h zh1 := (Zr.refl).trans zr7
  refine z_aload_n X 0 dX11_startAnew_14 rfl ?_
  refine z_get X fl_X11_22_11 dX11_startAnew_15 zK14 rfl ?_
  refine z_callV X (c_begin (κ := κ) (n := n) (i := (o + 27)) (f := (win 100 40 d)) (g := (win 140 40 d)) (len := (nI len)) (now := (d 0)) (dd := (d 2)) (dr := (d 3)) (cc := (nI nc)) (on := (d 10)) (cold := (acold)) (wind := (awind)) zK8 zK9 zK10 ) mk_X2_begin dX11_startAnew_18 wd_732 wd_104 wd_105 rfl zK8 rfl rfl rfl (Nat.le_of_ble_eq_true rfl) (Nat.le_of_ble_eq_true rfl) (Nat.le_of_ble_eq_true rfl) (by omega) (by omega) (fun q zh24 zm26 zp27 => ?_)
  obtain ⟨rfl, ze25, zn28⟩ := zp27
  subst zm26
  refine z_st (st' := []) rfl ?_
  have zK29 : zh24 o = some (.inr (11, [.ref (o + 1), .ref (o + 14), .ref (o + 27), .ref (o + 33), .ref (o + 42), .ref (o + 55), .ref (o + 57), .ref (o + 59), .ref (o + 61), .int im])) := by rw [ze25]; rw [va_up_ne _ _ (show o ≠ o + 29 by omega)]; rw [va_up_ne _ _ (show o ≠ o + 28 by omega)]; rw [va_up_ne _ _ (show o ≠ o + 27 by omega)]; exact zK14
  have zK30 : zh24 (o + 1) = some (.inr (3, [.ref (o + 1 + 1), .ref (o + 1 + 7), .ref (o + 1 + 9), .ref (o + 1 + 11), .int (d 13)])) := by rw [ze25]; rw [va_up_ne _ _ (show o + 1 ≠ o + 29 by omega)]; rw [va_up_ne _ _ (show o + 1 ≠ o + 28 by omega)]; rw [va_up_ne _ _ (show o + 1 ≠ o + 27 by omega)]; exact zK15
  have zK31 : zh24 (o + 2) = some (.inr (2, [.ref (o + 3), .ref (o + 4), .ref (o + 5), .ref (o + 6), .ref (o + 7), .int (nI len), .int (d 0), .int (d 2), .int (d 3), .int (nI nc), .int (d 10), .int cold, .int wind])) := by rw [ze25]; rw [va_up_ne _ _ (show o + 2 ≠ o + 29 by omega)]; rw [va_up_ne _ _ (show o + 2 ≠ o + 28 by omega)]; rw [va_up_ne _ _ (show o + 2 ≠ o + 27 by omega)]; exact zK16
  have zK32 : zh24 (o + 3) = arI κ 40 (win 100 40 d) := by rw [ze25]; rw [va_up_ne _ _ (show o + 3 ≠ o + 29 by omega)]; rw [va_up_ne _ _ (show o + 3 ≠ o + 28 by omega)]; rw [va_up_ne _ _ (show o + 3 ≠ o + 27 by omega)]; exact zK17
  have zK33 : zh24 (o + 4) = arI κ 40 (win 140 40 d) := by rw [ze25]; rw [va_up_ne _ _ (show o + 4 ≠ o + 29 by omega)]; rw [va_up_ne _ _ (show o + 4 ≠ o + 28 by omega)]; rw [va_up_ne _ _ (show o + 4 ≠ o + 27 by omega)]; exact zK18
  have zK34 : zh24 (o + 5) = arI κ 6 (win 4 6 d) := by rw [ze25]; rw [va_up_ne _ _ (show o + 5 ≠ o + 29 by omega)]; rw [va_up_ne _ _ (show o + 5 ≠ o + 28 by omega)]; rw [va_up_ne _ _ (show o + 5 ≠ o + 27 by omega)]; exact zK19
  have zK35 : zh24 (o + 6) = arR κ 1 6 cs := by rw [ze25]; rw [va_up_ne _ _ (show o + 6 ≠ o + 29 by omega)]; rw [va_up_ne _ _ (show o + 6 ≠ o + 28 by omega)]; rw [va_up_ne _ _ (show o + 6 ≠ o + 27 by omega)]; exact zK20
  have zK36 : zh24 (o + 7) = arR κ 2 2 ts := by rw [ze25]; rw [va_up_ne _ _ (show o + 7 ≠ o + 29 by omega)]; rw [va_up_ne _ _ (show o + 7 ≠ o + 28 by omega)]; rw [va_up_ne _ _ (show o + 7 ≠ o + 27 by omega)]; exact zK21
  have zK37 : zh24 (o + 27) = some (.inr (2, [.ref ((o + 27) + 1), .ref ((o + 27) + 2), .ref ((o + 27) + 3), .ref ((o + 27) + 4), .ref ((o + 27) + 5), .int 1, .int 0, .int 0, .int 0, .int ((nI nc)), .int ((d 10)), .int acold, .int awind])) := by rw [ze25]; rw [va_up_ne _ _ (show o + 27 ≠ o + 29 by omega)]; rw [va_up_ne _ _ (show o + 27 ≠ o + 28 by omega)]; exact va_up_self _ _ _
  have zK38 : zh24 (o + 28) = arI κ 40 (upd (win 100 40 d) 0 10) := by rw [ze25]; rw [va_up_ne _ _ (show o + 28 ≠ o + 29 by omega)]; exact va_up_self _ _ _
  have zK39 : zh24 (o + 29) = arI κ 40 (upd (win 140 40 d) 0 0) := by rw [ze25]; exact va_up_self _ _ _
  have zK40 : zh24 (o + 30) = arI κ 6 ((win 4 6 d)) := by rw [ze25]; rw [va_up_ne _ _ (show o + 30 ≠ o + 29 by omega)]; rw [va_up_ne _ _ (show o + 30 ≠ o + 28 by omega)]; rw [va_up_ne _ _ (show o + 30 ≠ o + 27 by omega)]; exact zK11
  have zK41 : zh24 (o + 31) = arR κ 1 6 cs := by rw [ze25]; rw [va_up_ne _ _ (show o + 31 ≠ o + 29 by omega)]; rw [va_up_ne _ _ (show o + 31 ≠ o + 28 by omega)]; rw [va_up_ne _ _ (show o + 31 ≠ o + 27 by omega)]; exact zK12
  have zK42 : zh24 (o + 32) = arR κ 2 2 ts := by rw [ze25]; rw [va_up_ne _ _ (show o + 32 ≠ o + 29 by omega)]; rw [va_up_ne _ _ (show o + 32 ≠ o + 28 by omega)]; rw [va_up_ne _ _ (show o + 32 ≠ o + 27 by omega)]; exact zK13
  have zl43 : ∀ zq : Nat, zq < (o + 76) → zq ≠ (o + 27) → zq ≠ (o + 28) → zq ≠ (o + 29) → zq ≠ (o + 30) → zq ≠ (o + 31) → zq ≠ (o + 32) → zh24 zq = h zq := by intro zq hzq zn0 zn1 zn2 zn3 zn4 zn5; rw [ze25, va_up_ne _ _ (show zq ≠ o + 29 by omega), va_up_ne _ _ (show zq ≠ o + 28 by omega), va_up_ne _ _ (show zq ≠ o + 27 by omega)]; exact zl22 zq hzq zn0 zn1 zn2 zn3 zn4 zn5
  have zr44 : Zr κ (o + 76) h zh24 := (zr23).trans (Zr.same (fun zq h1 => by rw [ze25, va_up_ne _ _ (show zq ≠ o + 29 by omega), va_up_ne _ _ (show zq ≠ o + 28 by omega), va_up_ne _ _ (show zq ≠ o + 27 by omega)]))
  refine z_vret X E dX11_startAnew_21 (by omega) (by omega) ⟨?_, ?_, ?_, ?_, ?_, ?_, ?_, ?_, ?_, ?_⟩
  · rfl
  · rfl
  · exact fun zq hzq zn0 zn1 zn2 zn3 zn4 zn5 => zl43 zq hzq zn0 zn1 zn2 zn3 zn4 zn5
  · exact zr44
  · rw [bg2_0, bg2_2, bg2_3]; exact zK37
  · rw [bg2_w]; exact zK38
  · rw [bg2_s]; exact zK39
  · exact zK40
  · exact zK41
  · exact zK42
