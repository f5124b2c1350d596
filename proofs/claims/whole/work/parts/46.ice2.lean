theorem ciK_9 (kd : Nat) : ciK kd ≠ 9 := by
  unfold ciK
  split <;> decide
/-- the causes of an icicle, as a row tells them -/
def CsO (zb : Nat) (h : Mm) (cs : Nat → Option Nat) (m : Nat → Int32) (nc : Nat) : Prop := ∀ k, k < nc → ∃ (a kd : Nat), zb ≤ a ∧ cs k = some a ∧ kd < 7 ∧ m (20 + 2 * k) = nI kd ∧ h a = some (.inr (ciK kd, [.int (nI kd), .int (nI k), .int (m (20 + 2 * k + 1))]))
theorem CsO.mono {κ : Wc} {zb nc : Nat} {h h1 : Mm} {cs : Nat → Option Nat} {m : Nat → Int32} (z : Zr κ zb h h1) (H : CsO zb h cs m nc) : CsO zb h1 cs m nc := by
  intro k hk
  obtain ⟨a, kd, e1, e2, e3, e4, e5⟩ := H k hk
  exact ⟨a, kd, e1, e2, e3, e4, z.1 a _ e1 e5 (ciK_9 kd)⟩
theorem CsO.row {zb nc : Nat} {h : Mm} {cs : Nat → Option Nat} {m m2 : Nat → Int32} (H : CsO zb h cs m nc) (e : ∀ q, 20 ≤ q → q < 32 → m2 q = m q) (hn : nc ≤ 6) : CsO zb h cs m2 nc := by
  intro k hk
  obtain ⟨a, kd, e1, e2, e3, e4, e5⟩ := H k hk
  refine ⟨a, kd, e1, e2, e3, ?_, ?_⟩
  · rw [e _ (by omega) (by omega)]; exact e4
  · rw [e (20 + 2 * k + 1) (by omega) (by omega)]; exact e5
/-- what else lies in the row of causes -/
def CsA (zb : Nat) (h : Mm) (cs : Nat → Option Nat) : Prop := ∀ k, k < 6 → cs k = none ∨ ∃ (a kd : Nat) (vs : List Value), zb ≤ a ∧ cs k = some a ∧ kd < 7 ∧ h a = some (.inr (ciK kd, vs))
theorem CsA.mono {κ : Wc} {zb : Nat} {h h1 : Mm} {cs : Nat → Option Nat} (z : Zr κ zb h h1) (H : CsA zb h cs) : CsA zb h1 cs := by
  intro k hk
  rcases H k hk with e | ⟨a, kd, vs, e1, e2, e3, e4⟩
  · exact Or.inl e
  · exact Or.inr ⟨a, kd, vs, e1, e2, e3, z.1 a _ e1 e4 (ciK_9 kd)⟩
theorem cs_obj {zb k : Nat} {h : Mm} {cs : Nat → Option Nat} (H : CsA zb h cs) (hk : k < 6) : cs k = none ∨ ∃ (v ci M : Nat) (C : String) (T : u_T) (vs : List Value), cs k = some v ∧ h v = some (.inr (ci, vs)) ∧ vwCl[ci]? = some (C, T, M) ∧ (C = "IcicleRings$Cause" ∨ Cond.castable C "IcicleRings$Cause" ∈ nwL) := by
  rcases H k hk with e | ⟨a, kd, vs, e1, e2, e3, e4⟩
  · exact Or.inl e
  · refine Or.inr ?_
    rcases lt7 e3 with rfl | rfl | rfl | rfl | rfl | rfl | rfl
    · exact ⟨a, 0, _, _, _, vs, e2, e4, rfl, Or.inl rfl⟩
    · exact ⟨a, 10, _, _, _, vs, e2, e4, rfl, Or.inr (by decide +kernel)⟩
    · exact ⟨a, 8, _, _, _, vs, e2, e4, rfl, Or.inr (by decide +kernel)⟩
    · exact ⟨a, 5, _, _, _, vs, e2, e4, rfl, Or.inr (by decide +kernel)⟩
    · exact ⟨a, 7, _, _, _, vs, e2, e4, rfl, Or.inr (by decide +kernel)⟩
    · exact ⟨a, 4, _, _, _, vs, e2, e4, rfl, Or.inr (by decide +kernel)⟩
    · exact ⟨a, 1, _, _, _, vs, e2, e4, rfl, Or.inr (by decide +kernel)⟩
theorem ts_obj {κ : Wc} {zb u : Nat} {h : Mm} {ts : Nat → Option Nat} {T : Nat → Nat → Int32} {tx : Nat → Nat} (H : TsO κ zb h ts T tx) (hu : u < 2) : ts u = none ∨ ∃ (v ci M : Nat) (C : String) (T : u_T) (vs : List Value), ts u = some v ∧ h v = some (.inr (ci, vs)) ∧ vwCl[ci]? = some (C, T, M) ∧ (C = "IcicleRings$Text" ∨ Cond.castable C "IcicleRings$Text" ∈ nwL) := by
  rcases H u hu with h0 | ⟨h0, a, e1, e2, L, st, sk, pl, tp, k0, -⟩
  · exact Or.inl h0.2
  · exact Or.inr ⟨a, 9, _, _, _, _, e2, k0, rfl, Or.inl rfl⟩
theorem vp_extR {cA : ClassId} {N : Nat} {f g : Nat → Option Nat} (hfg : ∀ k, k < N → f k = g k) : vp_cell cA (N, .inr (.inr (.inr (.inr f)))) = vp_cell cA (N, .inr (.inr (.inr (.inr g)))) := by
  rw [vp_cell_q, vp_cell_q]
  unfold arrV
  congr 2
  funext j
  exact congrArg va_rf (hfg j.val j.isLt)
theorem z_extR {κ : Wc} {G : Gm} {nL pc : Nat} {ls : Lc} {st : List Value} {h : Mm} {n ca sl : Nat} {a t N : Nat} {f g : Nat → Option Nat} (he : h a = arR κ t N f) (hfg : ∀ k, k < N → f k = g k) (k : Z κ G nL pc ls st (va_up h a (arR κ t N g)) n ca sl) : Z κ G nL pc ls st h n ca sl := by
  obtain ⟨p, l, e, R, s, m, args, below, meth, c, Q⟩ := G
  intro H locs la hF hS hl
  refine k H locs la ⟨hF.1, hF.2.1, fun b d hb => ?_⟩ hS hl
  by_cases e : b = a
  · subst e
    rw [va_up_self] at hb
    cases hb
    obtain ⟨g1, g2⟩ := hF.2.2 b _ he
    exact ⟨g1, Eq.trans g2 (by rw [vp_extR hfg])⟩
  · rw [va_up_ne _ _ e] at hb
    exact hF.2.2 b d hb
theorem win_self {b N k : Nat} {m : Nat → Int32} (h : k < N) : upd (win b N m) k (m (b + k)) = win b N m := by rw [← win_us h, upd_self]
set_option maxHeartbeats 4000000 in
set_option maxRecDepth 100000 in
theorem c_become {κ : Wc} {l : Launch} {h : Mm} {n : Nat} {i : Nat} {j : Nat} {zb : Nat} {f1 : Nat → Int32} {f2 : Nat → Int32} {f3 : Nat → Int32} {c1 : Nat → Option Nat} {t1 : Nat → Option Nat} {g1 : Nat → Int32} {g2 : Nat → Int32} {g3 : Nat → Int32} {c2 : Nat → Option Nat} {t2 : Nat → Option Nat} {T : Nat → Nat → Int32} {tx : Nat → Nat} {len : Int32} {now : Int32} {dd : Int32} {dr : Int32} {cc : Int32} {on : Int32} {cold : Int32} {wind : Int32} {len2 : Int32} {now2 : Int32} {dd2 : Int32} {dr2 : Int32} {cc2 : Int32} {on2 : Int32} {cold2 : Int32} {wind2 : Int32} (K0 : h i = some (.inr (2, [.ref (i + 1), .ref (i + 2), .ref (i + 3), .ref (i + 4), .ref (i + 5), .int len, .int now, .int dd, .int dr, .int cc, .int on, .int cold, .int wind]))) (K1 : h (i + 1) = arI κ 40 f1) (K2 : h (i + 2) = arI κ 40 f2) (K3 : h (i + 3) = arI κ 6 f3) (K4 : h (i + 4) = arR κ 1 6 c1) (K5 : h (i + 5) = arR κ 2 2 t1) (K6 : h j = some (.inr (2, [.ref (j + 1), .ref (j + 2), .ref (j + 3), .ref (j + 4), .ref (j + 5), .int len2, .int now2, .int dd2, .int dr2, .int cc2, .int on2, .int cold2, .int wind2]))) (K7 : h (j + 1) = arI κ 40 g1) (K8 : h (j + 2) = arI κ 40 g2) (K9 : h (j + 3) = arI κ 6 g3) (K10 : h (j + 4) = arR κ 1 6 c2) (K11 : h (j + 5) = arR κ 2 2 t2) (hz : i + 5 < zb) (hzj : j + 5 < zb) (hij : i + 5 < j ∨ j + 5 < i) (hC : CsA zb h c2) (hTs : TsO κ zb h t2 T tx) : Con κ l yX2_become cX2_become 3 none 2 0 0 [.ref i, .ref j] h n (fun q h' n' => q = none ∧ n' = n ∧ (∀ zq : Nat, zq < zb → zq ≠ i → zq ≠ (i + 1) → zq ≠ (i + 2) → zq ≠ (i + 3) → zq ≠ (i + 4) → zq ≠ (i + 5) → h' zq = h zq) ∧ Zr κ zb h h' ∧ h' i = some (.inr (2, [.ref (i + 1), .ref (i + 2), .ref (i + 3), .ref (i + 4), .ref (i + 5), .int len2, .int now2, .int dd2, .int dr2, .int cc2, .int on2, .int cold, .int wind])) ∧ h' (i + 1) = arI κ 40 g1 ∧ h' (i + 2) = arI κ 40 g2 ∧ h' (i + 3) = arI κ 6 g3 ∧ h' (i + 4) = arR κ 1 6 c2 ∧ h' (i + 5) = arR κ 2 2 t2) := by
  refine Con.of mk_X2_become (Nat.le_of_ble_eq_true rfl) (fun G hG X E => ?_)
  subst hG
  refine z_ls (ls' := [(0, .ref i), (1, .ref j)]) rfl ?_
  refine z_aload_n X 0 dX2_become_0 rfl ?_
  refine z_aload_n X 1 dX2_become_1 rfl ?_
  refine z_get X fl_X2_45_2 dX2_become_2 K6 rfl ?_
  refine z_put X fp_X2_45_2 dX2_become_5 K0 (by first | rfl | decide) (by first | rfl | decide) (Nat.le_of_ble_eq_true rfl) rfl ?_
  obtain ⟨zh1, ze2⟩ : ∃ z : Mm, z = va_up h i (some (.inr (2, [.ref (i + 1), .ref (i + 2), .ref (i + 3), .ref (i + 4), .ref (i + 5), .int len2, .int now, .int dd, .int dr, .int cc, .int on, .int cold, .int wind]))) := ⟨_, rfl⟩
  refine z_heap (h' := zh1) ze2.symm ?_
  have zK3 := up_at ze2
  have zK4 := up_off ze2 (show i + 1 ≠ i by omega) K1
  have zK5 := up_off ze2 (show i + 2 ≠ i by omega) K2
  have zK6 := up_off ze2 (show i + 3 ≠ i by omega) K3
  have zK7 := up_off ze2 (show i + 4 ≠ i by omega) K4
  have zK8 := up_off ze2 (show i + 5 ≠ i by omega) K5
  have zK9 := up_off ze2 (show j ≠ i by omega) K6
  have zK10 := up_off ze2 (show j + 1 ≠ i by omega) K7
  have zK11 := up_off ze2 (show j + 2 ≠ i by omega) K8
  have zK12 := up_off ze2 (show j + 3 ≠ i by omega) K9
  have zK13 := up_off ze2 (show j + 4 ≠ i by omega) K10
  have zK14 := up_off ze2 (show j + 5 ≠ i by omega) K11
  have zl15 : ∀ zq : Nat, zq < zb → zq ≠ i → zh1 zq = h zq := by intro zq hzq zn0; rw [ze2, va_up_ne _ _ (show zq ≠ i by omega)]; try rfl
  have zr16 : Zr κ zb h zh1 := (Zr.refl).trans (Zr.same (fun zq h1 => by rw [ze2, va_up_ne _ _ (show zq ≠ i by omega)]))
  refine z_aload_n X 0 dX2_become_8 rfl ?_
  refine z_aload_n X 1 dX2_become_9 rfl ?_
  refine z_get X fl_X2_49_2 dX2_become_10 zK9 rfl ?_
  refine z_put X fp_X2_49_2 dX2_become_13 zK3 (by first | rfl | decide) (by first | rfl | decide) (Nat.le_of_ble_eq_true rfl) rfl ?_
  obtain ⟨zh17, ze18⟩ : ∃ z : Mm, z = va_up zh1 i (some (.inr (2, [.ref (i + 1), .ref (i + 2), .ref (i + 3), .ref (i + 4), .ref (i + 5), .int len2, .int now2, .int dd, .int dr, .int cc, .int on, .int cold, .int wind]))) := ⟨_, rfl⟩
  refine z_heap (h' := zh17) ze18.symm ?_
  have zK19 := up_at ze18
  have zK20 := up_off ze18 (show i + 1 ≠ i by omega) zK4
  have zK21 := up_off ze18 (show i + 2 ≠ i by omega) zK5
  have zK22 := up_off ze18 (show i + 3 ≠ i by omega) zK6
  have zK23 := up_off ze18 (show i + 4 ≠ i by omega) zK7
  have zK24 := up_off ze18 (show i + 5 ≠ i by omega) zK8
  have zK25 := up_off ze18 (show j ≠ i by omega) zK9
  have zK26 := up_off ze18 (show j + 1 ≠ i by omega) zK10
  have zK27 := up_off ze18 (show j + 2 ≠ i by omega) zK11
  have zK28 := up_off ze18 (show j + 3 ≠ i by omega) zK12
  have zK29 := up_off ze18 (show j + 4 ≠ i by omega) zK13
  have zK30 := up_off ze18 (show j + 5 ≠ i by omega) zK14
  have zl31 : ∀ zq : Nat, zq < zb → zq ≠ i → zh17 zq = h zq := by intro zq hzq zn0; rw [ze18, va_up_ne _ _ (show zq ≠ i by omega)]; exact zl15 zq hzq zn0
  have zr32 : Zr κ zb h zh17 := (zr16).trans (Zr.same (fun zq h1 => by rw [ze18, va_up_ne _ _ (show zq ≠ i by omega)]))
  refine z_aload_n X 0 dX2_become_16 rfl ?_
  refine z_aload_n X 1 dX2_become_17 rfl ?_
  refine z_get X fl_X2_52_2 dX2_become_18 zK25 rfl ?_
  refine z_put X fp_X2_52_2 dX2_become_21 zK19 (by first | rfl | decide) (by first | rfl | decide) (Nat.le_of_ble_eq_true rfl) rfl ?_
  obtain ⟨zh33, ze34⟩ : ∃ z : Mm, z = va_up zh17 i (some (.inr (2, [.ref (i + 1), .ref (i + 2), .ref (i + 3), .ref (i + 4), .ref (i + 5), .int len2, .int now2, .int dd2, .int dr, .int cc, .int on, .int cold, .int wind]))) := ⟨_, rfl⟩
  refine z_heap (h' := zh33) ze34.symm ?_
  have zK35 := up_at ze34
  have zK36 := up_off ze34 (show i + 1 ≠ i by omega) zK20
  have zK37 := up_off ze34 (show i + 2 ≠ i by omega) zK21
  have zK38 := up_off ze34 (show i + 3 ≠ i by omega) zK22
  have zK39 := up_off ze34 (show i + 4 ≠ i by omega) zK23
  have zK40 := up_off ze34 (show i + 5 ≠ i by omega) zK24
  have zK41 := up_off ze34 (show j ≠ i by omega) zK25
  have zK42 := up_off ze34 (show j + 1 ≠ i by omega) zK26
  have zK43 := up_off ze34 (show j + 2 ≠ i by omega) zK27
  have zK44 := up_off ze34 (show j + 3 ≠ i by omega) zK28
  have zK45 := up_off ze34 (show j + 4 ≠ i by omega) zK29
  have zK46 := up_off ze34 (show j + 5 ≠ i by omega) zK30
  have zl47 : ∀ zq : Nat, zq < zb → zq ≠ i → zh33 zq = h zq := by intro zq hzq zn0; rw [ze34, va_up_ne _ _ (show zq ≠ i by omega)]; exact zl31 zq hzq zn0
  have zr48 : Zr κ zb h zh33 := (zr32).trans (Zr.same (fun zq h1 => by rw [ze34, va_up_ne _ _ (show zq ≠ i by omega)]))
  refine z_aload_n X 0 dX2_become_24 rfl ?_
  refine z_aload_n X 1 dX2_become_25 rfl ?_
  refine z_get X fl_X2_55_2 dX2_become_26 zK41 rfl ?_
  refine z_put X fp_X2_55_2 dX2_become_29 zK35 (by first | rfl | decide) (by first | rfl | decide) (Nat.le_of_ble_eq_true rfl) rfl ?_
  obtain ⟨zh49, ze50⟩ : ∃ z : Mm, z = va_up zh33 i (some (.inr (2, [.ref (i + 1), .ref (i + 2), .ref (i + 3), .ref (i + 4), .ref (i + 5), .int len2, .int now2, .int dd2, .int dr2, .int cc, .int on, .int cold, .int wind]))) := ⟨_, rfl⟩
  refine z_heap (h' := zh49) ze50.symm ?_
  have zK51 := up_at ze50
  have zK52 := up_off ze50 (show i + 1 ≠ i by omega) zK36
  have zK53 := up_off ze50 (show i + 2 ≠ i by omega) zK37
  have zK54 := up_off ze50 (show i + 3 ≠ i by omega) zK38
  have zK55 := up_off ze50 (show i + 4 ≠ i by omega) zK39
  have zK56 := up_off ze50 (show i + 5 ≠ i by omega) zK40
  have zK57 := up_off ze50 (show j ≠ i by omega) zK41
  have zK58 := up_off ze50 (show j + 1 ≠ i by omega) zK42
  have zK59 := up_off ze50 (show j + 2 ≠ i by omega) zK43
  have zK60 := up_off ze50 (show j + 3 ≠ i by omega) zK44
  have zK61 := up_off ze50 (show j + 4 ≠ i by omega) zK45
  have zK62 := up_off ze50 (show j + 5 ≠ i by omega) zK46
  have zl63 : ∀ zq : Nat, zq < zb → zq ≠ i → zh49 zq = h zq := by intro zq hzq zn0; rw [ze50, va_up_ne _ _ (show zq ≠ i by omega)]; exact zl47 zq hzq zn0
  have zr64 : Zr κ zb h zh49 := (zr48).trans (Zr.same (fun zq h1 => by rw [ze50, va_up_ne _ _ (show zq ≠ i by omega)]))
  refine z_aload_n X 0 dX2_become_32 rfl ?_
  refine z_aload_n X 1 dX2_become_33 rfl ?_
  refine z_get X fl_X2_58_2 dX2_become_34 zK57 rfl ?_
  refine z_put X fp_X2_58_2 dX2_become_37 zK51 (by first | rfl | decide) (by first | rfl | decide) (Nat.le_of_ble_eq_true rfl) rfl ?_
  obtain ⟨zh65, ze66⟩ : ∃ z : Mm, z = va_up zh49 i (some (.inr (2, [.ref (i + 1), .ref (i + 2), .ref (i + 3), .ref (i + 4), .ref (i + 5), .int len2, .int now2, .int dd2, .int dr2, .int cc2, .int on, .int cold, .int wind]))) := ⟨_, rfl⟩
  refine z_heap (h' := zh65) ze66.symm ?_
  have zK67 := up_at ze66
  have zK68 := up_off ze66 (show i + 1 ≠ i by omega) zK52
  have zK69 := up_off ze66 (show i + 2 ≠ i by omega) zK53
  have zK70 := up_off ze66 (show i + 3 ≠ i by omega) zK54
  have zK71 := up_off ze66 (show i + 4 ≠ i by omega) zK55
  have zK72 := up_off ze66 (show i + 5 ≠ i by omega) zK56
  have zK73 := up_off ze66 (show j ≠ i by omega) zK57
  have zK74 := up_off ze66 (show j + 1 ≠ i by omega) zK58
  have zK75 := up_off ze66 (show j + 2 ≠ i by omega) zK59
  have zK76 := up_off ze66 (show j + 3 ≠ i by omega) zK60
  have zK77 := up_off ze66 (show j + 4 ≠ i by omega) zK61
  have zK78 := up_off ze66 (show j + 5 ≠ i by omega) zK62
  have zl79 : ∀ zq : Nat, zq < zb → zq ≠ i → zh65 zq = h zq := by intro zq hzq zn0; rw [ze66, va_up_ne _ _ (show zq ≠ i by omega)]; exact zl63 zq hzq zn0
  have zr80 : Zr κ zb h zh65 := (zr64).trans (Zr.same (fun zq h1 => by rw [ze66, va_up_ne _ _ (show zq ≠ i by omega)]))
  refine z_aload_n X 0 dX2_become_40 rfl ?_
  refine z_aload_n X 1 dX2_become_41 rfl ?_
  refine z_get X fl_X2_61_2 dX2_become_42 zK73 rfl ?_
  refine z_put X fp_X2_61_2 dX2_become_45 zK67 (by first | rfl | decide) (by first | rfl | decide) (Nat.le_of_ble_eq_true rfl) rfl ?_
  obtain ⟨zh81, ze82⟩ : ∃ z : Mm, z = va_up zh65 i (some (.inr (2, [.ref (i + 1), .ref (i + 2), .ref (i + 3), .ref (i + 4), .ref (i + 5), .int len2, .int now2, .int dd2, .int dr2, .int cc2, .int on2, .int cold, .int wind]))) := ⟨_, rfl⟩
  refine z_heap (h' := zh81) ze82.symm ?_
  have zK83 := up_at ze82
  have zK84 := up_off ze82 (show i + 1 ≠ i by omega) zK68
  have zK85 := up_off ze82 (show i + 2 ≠ i by omega) zK69
  have zK86 := up_off ze82 (show i + 3 ≠ i by omega) zK70
  have zK87 := up_off ze82 (show i + 4 ≠ i by omega) zK71
  have zK88 := up_off ze82 (show i + 5 ≠ i by omega) zK72
  have zK89 := up_off ze82 (show j ≠ i by omega) zK73
  have zK90 := up_off ze82 (show j + 1 ≠ i by omega) zK74
  have zK91 := up_off ze82 (show j + 2 ≠ i by omega) zK75
  have zK92 := up_off ze82 (show j + 3 ≠ i by omega) zK76
  have zK93 := up_off ze82 (show j + 4 ≠ i by omega) zK77
  have zK94 := up_off ze82 (show j + 5 ≠ i by omega) zK78
  have zl95 : ∀ zq : Nat, zq < zb → zq ≠ i → zh81 zq = h zq := by intro zq hzq zn0; rw [ze82, va_up_ne _ _ (show zq ≠ i by omega)]; exact zl79 zq hzq zn0
  have zr96 : Zr κ zb h zh81 := (zr80).trans (Zr.same (fun zq h1 => by rw [ze82, va_up_ne _ _ (show zq ≠ i by omega)]))
  refine z_aload_n X 1 dX2_become_48 rfl ?_
  refine z_get X fl_X2_9_2 dX2_become_49 zK89 rfl ?_
  refine z_iconst (v := 0) X dX2_become_52 (by decide) ?_
  refine z_aload_n X 0 dX2_become_53 rfl ?_
  refine z_get X fl_X2_9_2 dX2_become_54 zK83 rfl ?_
  refine z_iconst (v := 0) X dX2_become_57 (by decide) ?_
  refine z_bipush (v := 40) X dX2_become_58 (by decide) ?_
  refine z_copy X dX2_become_60 wd_100 wd_102 wd_101 wd_61 zK90 zK84 (by decide) (by decide) (by decide) (by decide) (by decide) (Nat.le_of_ble_eq_true rfl) (Nat.le_of_ble_eq_true rfl) (rfl) ?_
  obtain ⟨zh97, ze98⟩ : ∃ z : Mm, z = va_up zh81 (i + 1) (arI κ 40 (va_cpy g1 f1 0 0 40)) := ⟨_, rfl⟩
  refine z_heap (h' := zh97) ze98.symm ?_
  have zK99 := up_off ze98 (show i ≠ i + 1 by omega) zK83
  have zK100 := up_at ze98
  have zK101 := up_off ze98 (show i + 2 ≠ i + 1 by omega) zK85
  have zK102 := up_off ze98 (show i + 3 ≠ i + 1 by omega) zK86
  have zK103 := up_off ze98 (show i + 4 ≠ i + 1 by omega) zK87
  have zK104 := up_off ze98 (show i + 5 ≠ i + 1 by omega) zK88
  have zK105 := up_off ze98 (show j ≠ i + 1 by omega) zK89
  have zK106 := up_off ze98 (show j + 1 ≠ i + 1 by omega) zK90
  have zK107 := up_off ze98 (show j + 2 ≠ i + 1 by omega) zK91
  have zK108 := up_off ze98 (show j + 3 ≠ i + 1 by omega) zK92
  have zK109 := up_off ze98 (show j + 4 ≠ i + 1 by omega) zK93
  have zK110 := up_off ze98 (show j + 5 ≠ i + 1 by omega) zK94
  have zl111 : ∀ zq : Nat, zq < zb → zq ≠ i → zq ≠ (i + 1) → zh97 zq = h zq := by intro zq hzq zn0 zn1; rw [ze98, va_up_ne _ _ (show zq ≠ i + 1 by omega)]; exact zl95 zq hzq zn0
  have zr112 : Zr κ zb h zh97 := (zr96).trans (Zr.same (fun zq h1 => by rw [ze98, va_up_ne _ _ (show zq ≠ i + 1 by omega)]))
  refine z_ext (g := g1) zK100 (fun z hz => (by unfold va_cpy; rw [if_pos (by omega)]; exact congrArg _ (by omega))) ?_
  obtain ⟨zh113, ze114⟩ : ∃ z : Mm, z = va_up zh97 (i + 1) (arI κ 40 g1) := ⟨_, rfl⟩
  refine z_heap (h' := zh113) ze114.symm ?_
  have zK115 := up_off ze114 (show i ≠ i + 1 by omega) zK99
  have zK116 := up_at ze114
  have zK117 := up_off ze114 (show i + 2 ≠ i + 1 by omega) zK101
  have zK118 := up_off ze114 (show i + 3 ≠ i + 1 by omega) zK102
  have zK119 := up_off ze114 (show i + 4 ≠ i + 1 by omega) zK103
  have zK120 := up_off ze114 (show i + 5 ≠ i + 1 by omega) zK104
  have zK121 := up_off ze114 (show j ≠ i + 1 by omega) zK105
  have zK122 := up_off ze114 (show j + 1 ≠ i + 1 by omega) zK106
  have zK123 := up_off ze114 (show j + 2 ≠ i + 1 by omega) zK107
  have zK124 := up_off ze114 (show j + 3 ≠ i + 1 by omega) zK108
  have zK125 := up_off ze114 (show j + 4 ≠ i + 1 by omega) zK109
  have zK126 := up_off ze114 (show j + 5 ≠ i + 1 by omega) zK110
  have zl127 : ∀ zq : Nat, zq < zb → zq ≠ i → zq ≠ (i + 1) → zh113 zq = h zq := by intro zq hzq zn0 zn1; rw [ze114, va_up_ne _ _ (show zq ≠ i + 1 by omega)]; exact zl111 zq hzq zn0 zn1
  have zr128 : Zr κ zb h zh113 := (zr112).trans (Zr.same (fun zq h1 => by rw [ze114, va_up_ne _ _ (show zq ≠ i + 1 by omega)]))
  refine z_aload_n X 1 dX2_become_63 rfl ?_
  refine z_get X fl_X2_15_2 dX2_become_64 zK121 rfl ?_
  refine z_iconst (v := 0) X dX2_become_67 (by decide) ?_
  refine z_aload_n X 0 dX2_become_68 rfl ?_
  refine z_get X fl_X2_15_2 dX2_become_69 zK115 rfl ?_
  refine z_iconst (v := 0) X dX2_become_72 (by decide) ?_
  refine z_bipush (v := 40) X dX2_become_73 (by decide) ?_
  refine z_copy X dX2_become_75 wd_100 wd_102 wd_101 wd_61 zK123 zK117 (by decide) (by decide) (by decide) (by decide) (by decide) (Nat.le_of_ble_eq_true rfl) (Nat.le_of_ble_eq_true rfl) (rfl) ?_
  obtain ⟨zh129, ze130⟩ : ∃ z : Mm, z = va_up zh113 (i + 2) (arI κ 40 (va_cpy g2 f2 0 0 40)) := ⟨_, rfl⟩
  refine z_heap (h' := zh129) ze130.symm ?_
  have zK131 := up_off ze130 (show i ≠ i + 2 by omega) zK115
  have zK132 := up_off ze130 (show i + 1 ≠ i + 2 by omega) zK116
  have zK133 := up_at ze130
  have zK134 := up_off ze130 (show i + 3 ≠ i + 2 by omega) zK118
  have zK135 := up_off ze130 (show i + 4 ≠ i + 2 by omega) zK119
  have zK136 := up_off ze130 (show i + 5 ≠ i + 2 by omega) zK120
  have zK137 := up_off ze130 (show j ≠ i + 2 by omega) zK121
  have zK138 := up_off ze130 (show j + 1 ≠ i + 2 by omega) zK122
  have zK139 := up_off ze130 (show j + 2 ≠ i + 2 by omega) zK123
  have zK140 := up_off ze130 (show j + 3 ≠ i + 2 by omega) zK124
  have zK141 := up_off ze130 (show j + 4 ≠ i + 2 by omega) zK125
  have zK142 := up_off ze130 (show j + 5 ≠ i + 2 by omega) zK126
  have zl143 : ∀ zq : Nat, zq < zb → zq ≠ i → zq ≠ (i + 1) → zq ≠ (i + 2) → zh129 zq = h zq := by intro zq hzq zn0 zn1 zn2; rw [ze130, va_up_ne _ _ (show zq ≠ i + 2 by omega)]; exact zl127 zq hzq zn0 zn1
  have zr144 : Zr κ zb h zh129 := (zr128).trans (Zr.same (fun zq h1 => by rw [ze130, va_up_ne _ _ (show zq ≠ i + 2 by omega)]))
  refine z_ext (g := g2) zK133 (fun z hz => (by unfold va_cpy; rw [if_pos (by omega)]; exact congrArg _ (by omega))) ?_
  obtain ⟨zh145, ze146⟩ : ∃ z : Mm, z = va_up zh129 (i + 2) (arI κ 40 g2) := ⟨_, rfl⟩
  refine z_heap (h' := zh145) ze146.symm ?_
  have zK147 := up_off ze146 (show i ≠ i + 2 by omega) zK131
  have zK148 := up_off ze146 (show i + 1 ≠ i + 2 by omega) zK132
  have zK149 := up_at ze146
  have zK150 := up_off ze146 (show i + 3 ≠ i + 2 by omega) zK134
  have zK151 := up_off ze146 (show i + 4 ≠ i + 2 by omega) zK135
  have zK152 := up_off ze146 (show i + 5 ≠ i + 2 by omega) zK136
  have zK153 := up_off ze146 (show j ≠ i + 2 by omega) zK137
  have zK154 := up_off ze146 (show j + 1 ≠ i + 2 by omega) zK138
  have zK155 := up_off ze146 (show j + 2 ≠ i + 2 by omega) zK139
  have zK156 := up_off ze146 (show j + 3 ≠ i + 2 by omega) zK140
  have zK157 := up_off ze146 (show j + 4 ≠ i + 2 by omega) zK141
  have zK158 := up_off ze146 (show j + 5 ≠ i + 2 by omega) zK142
  have zl159 : ∀ zq : Nat, zq < zb → zq ≠ i → zq ≠ (i + 1) → zq ≠ (i + 2) → zh145 zq = h zq := by intro zq hzq zn0 zn1 zn2; rw [ze146, va_up_ne _ _ (show zq ≠ i + 2 by omega)]; exact zl143 zq hzq zn0 zn1 zn2
  have zr160 : Zr κ zb h zh145 := (zr144).trans (Zr.same (fun zq h1 => by rw [ze146, va_up_ne _ _ (show zq ≠ i + 2 by omega)]))
  refine z_aload_n X 1 dX2_become_78 rfl ?_
  refine z_get X fl_X2_18_2 dX2_become_79 zK153 rfl ?_
  refine z_iconst (v := 0) X dX2_become_82 (by decide) ?_
  refine z_aload_n X 0 dX2_become_83 rfl ?_
  refine z_get X fl_X2_18_2 dX2_become_84 zK147 rfl ?_
  refine z_iconst (v := 0) X dX2_become_87 (by decide) ?_
  refine z_bipush (v := 6) X dX2_become_88 (by decide) ?_
  refine z_copy X dX2_become_90 wd_100 wd_102 wd_101 wd_61 zK156 zK150 (by decide) (by decide) (by decide) (by decide) (by decide) (Nat.le_of_ble_eq_true rfl) (Nat.le_of_ble_eq_true rfl) (rfl) ?_
  obtain ⟨zh161, ze162⟩ : ∃ z : Mm, z = va_up zh145 (i + 3) (arI κ 6 (va_cpy g3 f3 0 0 6)) := ⟨_, rfl⟩
  refine z_heap (h' := zh161) ze162.symm ?_
  have zK163 := up_off ze162 (show i ≠ i + 3 by omega) zK147
  have zK164 := up_off ze162 (show i + 1 ≠ i + 3 by omega) zK148
  have zK165 := up_off ze162 (show i + 2 ≠ i + 3 by omega) zK149
  have zK166 := up_at ze162
  have zK167 := up_off ze162 (show i + 4 ≠ i + 3 by omega) zK151
  have zK168 := up_off ze162 (show i + 5 ≠ i + 3 by omega) zK152
  have zK169 := up_off ze162 (show j ≠ i + 3 by omega) zK153
  have zK170 := up_off ze162 (show j + 1 ≠ i + 3 by omega) zK154
  have zK171 := up_off ze162 (show j + 2 ≠ i + 3 by omega) zK155
  have zK172 := up_off ze162 (show j + 3 ≠ i + 3 by omega) zK156
  have zK173 := up_off ze162 (show j + 4 ≠ i + 3 by omega) zK157
  have zK174 := up_off ze162 (show j + 5 ≠ i + 3 by omega) zK158
  have zl175 : ∀ zq : Nat, zq < zb → zq ≠ i → zq ≠ (i + 1) → zq ≠ (i + 2) → zq ≠ (i + 3) → zh161 zq = h zq := by intro zq hzq zn0 zn1 zn2 zn3; rw [ze162, va_up_ne _ _ (show zq ≠ i + 3 by omega)]; exact zl159 zq hzq zn0 zn1 zn2
  have zr176 : Zr κ zb h zh161 := (zr160).trans (Zr.same (fun zq h1 => by rw [ze162, va_up_ne _ _ (show zq ≠ i + 3 by omega)]))
  refine z_ext (g := g3) zK166 (fun z hz => (by unfold va_cpy; rw [if_pos (by omega)]; exact congrArg _ (by omega))) ?_
  obtain ⟨zh177, ze178⟩ : ∃ z : Mm, z = va_up zh161 (i + 3) (arI κ 6 g3) := ⟨_, rfl⟩
  refine z_heap (h' := zh177) ze178.symm ?_
  have zK179 := up_off ze178 (show i ≠ i + 3 by omega) zK163
  have zK180 := up_off ze178 (show i + 1 ≠ i + 3 by omega) zK164
  have zK181 := up_off ze178 (show i + 2 ≠ i + 3 by omega) zK165
  have zK182 := up_at ze178
  have zK183 := up_off ze178 (show i + 4 ≠ i + 3 by omega) zK167
  have zK184 := up_off ze178 (show i + 5 ≠ i + 3 by omega) zK168
  have zK185 := up_off ze178 (show j ≠ i + 3 by omega) zK169
  have zK186 := up_off ze178 (show j + 1 ≠ i + 3 by omega) zK170
  have zK187 := up_off ze178 (show j + 2 ≠ i + 3 by omega) zK171
  have zK188 := up_off ze178 (show j + 3 ≠ i + 3 by omega) zK172
  have zK189 := up_off ze178 (show j + 4 ≠ i + 3 by omega) zK173
  have zK190 := up_off ze178 (show j + 5 ≠ i + 3 by omega) zK174
  have zl191 : ∀ zq : Nat, zq < zb → zq ≠ i → zq ≠ (i + 1) → zq ≠ (i + 2) → zq ≠ (i + 3) → zh177 zq = h zq := by intro zq hzq zn0 zn1 zn2 zn3; rw [ze178, va_up_ne _ _ (show zq ≠ i + 3 by omega)]; exact zl175 zq hzq zn0 zn1 zn2 zn3
  have zr192 : Zr κ zb h zh177 := (zr176).trans (Zr.same (fun zq h1 => by rw [ze178, va_up_ne _ _ (show zq ≠ i + 3 by omega)]))
  refine z_iconst (v := 0) X dX2_become_93 (by decide) ?_
  refine z_istore_n (ls' := [(2, .int 0), (0, .ref i), (1, .ref j)]) X dX2_become_94 (by decide) rfl ?_
  have L95 : ∀ (jj : Nat) (hh95 : Mm) (k : Nat) (c3 : Nat → Option Nat), (6 - k < jj) → (∀ zq : Nat, zq < zb → zq ≠ i → zq ≠ (i + 1) → zq ≠ (i + 2) → zq ≠ (i + 3) → zq ≠ (i + 4) → hh95 zq = h zq) → Zr κ zb h hh95 → hh95 i = some (.inr (2, [.ref (i + 1), .ref (i + 2), .ref (i + 3), .ref (i + 4), .ref (i + 5), .int len2, .int now2, .int dd2, .int dr2, .int cc2, .int on2, .int cold, .int wind])) → hh95 (i + 1) = arI κ 40 g1 → hh95 (i + 2) = arI κ 40 g2 → hh95 (i + 3) = arI κ 6 g3 → hh95 (i + 4) = arR κ 1 6 c3 → (hk : k ≤ 6) → (hc3 : ∀ z, z < k → c3 z = c2 z) → Z κ G 3 95 [(0, .ref i), (1, .ref j), (2, .int (nI k))] [] hh95 n 0 (0) := by
    intro jj
    induction jj with
    | zero => intro hh95 k c3 hmu; exact absurd hmu (Nat.not_lt_zero _)
    | succ jj ih95 =>
      intro hh95 k c3 hmu zl_95 zr_95 zK193 zK194 zK195 zK196 zK197 hk hc3
      have zK198 : hh95 (i + 5) = arR κ 2 2 t1 := (zl_95 (i + 5) (by omega) (by omega) (by omega) (by omega) (by omega) (by omega)).trans K5
      have zK199 : hh95 j = some (.inr (2, [.ref (j + 1), .ref (j + 2), .ref (j + 3), .ref (j + 4), .ref (j + 5), .int len2, .int now2, .int dd2, .int dr2, .int cc2, .int on2, .int cold2, .int wind2])) := (zl_95 j (by omega) (by omega) (by omega) (by omega) (by omega) (by omega)).trans K6
      have zK200 : hh95 (j + 1) = arI κ 40 g1 := (zl_95 (j + 1) (by omega) (by omega) (by omega) (by omega) (by omega) (by omega)).trans K7
      have zK201 : hh95 (j + 2) = arI κ 40 g2 := (zl_95 (j + 2) (by omega) (by omega) (by omega) (by omega) (by omega) (by omega)).trans K8
      have zK202 : hh95 (j + 3) = arI κ 6 g3 := (zl_95 (j + 3) (by omega) (by omega) (by omega) (by omega) (by omega) (by omega)).trans K9
      have zK203 : hh95 (j + 4) = arR κ 1 6 c2 := (zl_95 (j + 4) (by omega) (by omega) (by omega) (by omega) (by omega) (by omega)).trans K10
      have zK204 : hh95 (j + 5) = arR κ 2 2 t2 := (zl_95 (j + 5) (by omega) (by omega) (by omega) (by omega) (by omega) (by omega)).trans K11
      refine z_iload_n X 2 dX2_become_95 rfl ?_
      refine z_bipush (v := 6) X dX2_become_96 (by decide) ?_
      refine z_icmp_ge X 119 dX2_become_98 (by decide) (fun zc205 => ?_) (fun zc205 => ?_)
      · try replace zc205 := (nI_leI (a := 6) (b := k) (by omega) (by omega)).mp zc205
        refine z_extR (g := c2) zK197 (fun z hz => hc3 z (by omega)) ?_
        obtain ⟨zh206, ze207⟩ : ∃ z : Mm, z = va_up hh95 (i + 4) (arR κ 1 6 c2) := ⟨_, rfl⟩
        refine z_heap (h' := zh206) ze207.symm ?_
        have zK208 := up_off ze207 (show i ≠ i + 4 by omega) zK193
        have zK209 := up_off ze207 (show i + 1 ≠ i + 4 by omega) zK194
        have zK210 := up_off ze207 (show i + 2 ≠ i + 4 by omega) zK195
        have zK211 := up_off ze207 (show i + 3 ≠ i + 4 by omega) zK196
        have zK212 := up_at ze207
        have zK213 := up_off ze207 (show i + 5 ≠ i + 4 by omega) zK198
        have zK214 := up_off ze207 (show j ≠ i + 4 by omega) zK199
        have zK215 := up_off ze207 (show j + 1 ≠ i + 4 by omega) zK200
        have zK216 := up_off ze207 (show j + 2 ≠ i + 4 by omega) zK201
        have zK217 := up_off ze207 (show j + 3 ≠ i + 4 by omega) zK202
        have zK218 := up_off ze207 (show j + 4 ≠ i + 4 by omega) zK203
        have zK219 := up_off ze207 (show j + 5 ≠ i + 4 by omega) zK204
        have zl220 : ∀ zq : Nat, zq < zb → zq ≠ i → zq ≠ (i + 1) → zq ≠ (i + 2) → zq ≠ (i + 3) → zq ≠ (i + 4) → zh206 zq = h zq := by intro zq hzq zn0 zn1 zn2 zn3 zn4; rw [ze207, va_up_ne _ _ (show zq ≠ i + 4 by omega)]; exact zl_95 zq hzq zn0 zn1 zn2 zn3 zn4
        have zr221 : Zr κ zb h zh206 := (zr_95).trans (Zr.same (fun zq h1 => by rw [ze207, va_up_ne _ _ (show zq ≠ i + 4 by omega)]))
        refine z_iconst (v := 0) X dX2_become_119 (by decide) ?_
        refine z_istore_n (ls' := [(2, .int 0), (0, .ref i), (1, .ref j)]) X dX2_become_120 (by decide) rfl ?_
        have L121 : ∀ (jj : Nat) (hh121 : Mm) (u : Nat) (t3 : Nat → Option Nat), (2 - u < jj) → (∀ zq : Nat, zq < zb → zq ≠ i → zq ≠ (i + 1) → zq ≠ (i + 2) → zq ≠ (i + 3) → zq ≠ (i + 4) → zq ≠ (i + 5) → hh121 zq = h zq) → Zr κ zb h hh121 → hh121 i = some (.inr (2, [.ref (i + 1), .ref (i + 2), .ref (i + 3), .ref (i + 4), .ref (i + 5), .int len2, .int now2, .int dd2, .int dr2, .int cc2, .int on2, .int cold, .int wind])) → hh121 (i + 1) = arI κ 40 g1 → hh121 (i + 2) = arI κ 40 g2 → hh121 (i + 3) = arI κ 6 g3 → hh121 (i + 4) = arR κ 1 6 c2 → hh121 (i + 5) = arR κ 2 2 t3 → (hu : u ≤ 2) → (ht3 : ∀ z, z < u → t3 z = t2 z) → Z κ G 3 121 [(0, .ref i), (1, .ref j), (2, .int (nI u))] [] hh121 n 0 (0) := by
          intro jj
          induction jj with
          | zero => intro hh121 u t3 hmu; exact absurd hmu (Nat.not_lt_zero _)
          | succ jj ih121 =>
            intro hh121 u t3 hmu zl_121 zr_121 zK222 zK223 zK224 zK225 zK226 zK227 hu ht3
            have zK228 : hh121 j = some (.inr (2, [.ref (j + 1), .ref (j + 2), .ref (j + 3), .ref (j + 4), .ref (j + 5), .int len2, .int now2, .int dd2, .int dr2, .int cc2, .int on2, .int cold2, .int wind2])) := (zl_121 j (by omega) (by omega) (by omega) (by omega) (by omega) (by omega) (by omega)).trans K6
            have zK229 : hh121 (j + 1) = arI κ 40 g1 := (zl_121 (j + 1) (by omega) (by omega) (by omega) (by omega) (by omega) (by omega) (by omega)).trans K7
            have zK230 : hh121 (j + 2) = arI κ 40 g2 := (zl_121 (j + 2) (by omega) (by omega) (by omega) (by omega) (by omega) (by omega) (by omega)).trans K8
            have zK231 : hh121 (j + 3) = arI κ 6 g3 := (zl_121 (j + 3) (by omega) (by omega) (by omega) (by omega) (by omega) (by omega) (by omega)).trans K9
            have zK232 : hh121 (j + 4) = arR κ 1 6 c2 := (zl_121 (j + 4) (by omega) (by omega) (by omega) (by omega) (by omega) (by omega) (by omega)).trans K10
            have zK233 : hh121 (j + 5) = arR κ 2 2 t2 := (zl_121 (j + 5) (by omega) (by omega) (by omega) (by omega) (by omega) (by omega) (by omega)).trans K11
            refine z_iload_n X 2 dX2_become_121 rfl ?_
            refine z_iconst (v := 2) X dX2_become_122 (by decide) ?_
            refine z_icmp_ge X 144 dX2_become_123 (by decide) (fun zc234 => ?_) (fun zc234 => ?_)
            · try replace zc234 := (nI_leI (a := 2) (b := u) (by omega) (by omega)).mp zc234
              refine z_extR (g := t2) zK227 (fun z hz => ht3 z (by omega)) ?_
              obtain ⟨zh235, ze236⟩ : ∃ z : Mm, z = va_up hh121 (i + 5) (arR κ 2 2 t2) := ⟨_, rfl⟩
              refine z_heap (h' := zh235) ze236.symm ?_
              have zK237 := up_off ze236 (show i ≠ i + 5 by omega) zK222
              have zK238 := up_off ze236 (show i + 1 ≠ i + 5 by omega) zK223
              have zK239 := up_off ze236 (show i + 2 ≠ i + 5 by omega) zK224
              have zK240 := up_off ze236 (show i + 3 ≠ i + 5 by omega) zK225
              have zK241 := up_off ze236 (show i + 4 ≠ i + 5 by omega) zK226
              have zK242 := up_at ze236
              have zK243 := up_off ze236 (show j ≠ i + 5 by omega) zK228
              have zK244 := up_off ze236 (show j + 1 ≠ i + 5 by omega) zK229
              have zK245 := up_off ze236 (show j + 2 ≠ i + 5 by omega) zK230
              have zK246 := up_off ze236 (show j + 3 ≠ i + 5 by omega) zK231
              have zK247 := up_off ze236 (show j + 4 ≠ i + 5 by omega) zK232
              have zK248 := up_off ze236 (show j + 5 ≠ i + 5 by omega) zK233
              have zl249 : ∀ zq : Nat, zq < zb → zq ≠ i → zq ≠ (i + 1) → zq ≠ (i + 2) → zq ≠ (i + 3) → zq ≠ (i + 4) → zq ≠ (i + 5) → zh235 zq = h zq := by intro zq hzq zn0 zn1 zn2 zn3 zn4 zn5; rw [ze236, va_up_ne _ _ (show zq ≠ i + 5 by omega)]; exact zl_121 zq hzq zn0 zn1 zn2 zn3 zn4 zn5
              have zr250 : Zr κ zb h zh235 := (zr_121).trans (Zr.same (fun zq h1 => by rw [ze236, va_up_ne _ _ (show zq ≠ i + 5 by omega)]))
              refine z_vret X E dX2_become_144 (by omega) (by omega) ⟨?_, ?_, ?_, ?_, ?_, ?_, ?_, ?_, ?_, ?_⟩
              · rfl
              · rfl
              · exact fun zq hzq zn0 zn1 zn2 zn3 zn4 zn5 => zl249 zq hzq zn0 zn1 zn2 zn3 zn4 zn5
              · exact zr250
              · exact zK237
              · exact zK238
              · exact zK239
              · exact zK240
              · exact zK241
              · exact zK242
            · try replace zc234 := mt (nI_leI (a := 2) (b := u) (by omega) (by omega)).mpr zc234
              refine z_aload_n X 0 dX2_become_126 rfl ?_
              refine z_get X fl_X2_29_2 dX2_become_127 zK222 rfl ?_
              refine z_iload_n X 2 dX2_become_130 rfl ?_
              refine z_aload_n X 1 dX2_become_131 rfl ?_
              refine z_get X fl_X2_29_2 dX2_become_132 zK228 rfl ?_
              refine z_iload_n X 2 dX2_become_135 rfl ?_
              refine z_aald (t := 2) (v := va_rf (t2 u)) X dX2_become_136 zK233 rfl (by first | assumption | exact vp_in_nI (by omega) (by omega) | (refine vp_in_iff.mpr ?_; simp only [i_lt, i_le, i_eq] at *; omega)) (by rw [nI_clamp (by omega)]) ?_
              refine z_aastO (t := 2) (E := "IcicleRings$Text") X dX2_become_137 zK227 rfl (ts_obj (TsO.mono zr_121 hTs) (by omega)) (vp_in_nI (n := u) (by omega) (by omega)) (congrArg (fun z => va_up hh121 (i + 5) (arR κ 2 2 (va_up t3 z (t2 u)))) (nI_clamp (n := u) (by omega))) ?_
              obtain ⟨zh251, ze252⟩ : ∃ z : Mm, z = va_up hh121 (i + 5) (arR κ 2 2 (va_up t3 u (t2 u))) := ⟨_, rfl⟩
              refine z_heap (h' := zh251) ze252.symm ?_
              have zK253 := up_off ze252 (show i ≠ i + 5 by omega) zK222
              have zK254 := up_off ze252 (show i + 1 ≠ i + 5 by omega) zK223
              have zK255 := up_off ze252 (show i + 2 ≠ i + 5 by omega) zK224
              have zK256 := up_off ze252 (show i + 3 ≠ i + 5 by omega) zK225
              have zK257 := up_off ze252 (show i + 4 ≠ i + 5 by omega) zK226
              have zK258 := up_at ze252
              have zK259 := up_off ze252 (show j ≠ i + 5 by omega) zK228
              have zK260 := up_off ze252 (show j + 1 ≠ i + 5 by omega) zK229
              have zK261 := up_off ze252 (show j + 2 ≠ i + 5 by omega) zK230
              have zK262 := up_off ze252 (show j + 3 ≠ i + 5 by omega) zK231
              have zK263 := up_off ze252 (show j + 4 ≠ i + 5 by omega) zK232
              have zK264 := up_off ze252 (show j + 5 ≠ i + 5 by omega) zK233
              have zl265 : ∀ zq : Nat, zq < zb → zq ≠ i → zq ≠ (i + 1) → zq ≠ (i + 2) → zq ≠ (i + 3) → zq ≠ (i + 4) → zq ≠ (i + 5) → zh251 zq = h zq := by intro zq hzq zn0 zn1 zn2 zn3 zn4 zn5; rw [ze252, va_up_ne _ _ (show zq ≠ i + 5 by omega)]; exact zl_121 zq hzq zn0 zn1 zn2 zn3 zn4 zn5
              have zr266 : Zr κ zb h zh251 := (zr_121).trans (Zr.same (fun zq h1 => by rw [ze252, va_up_ne _ _ (show zq ≠ i + 5 by omega)]))
              refine z_iinc (v := nI (u + 1)) (ls' := [(2, .int (nI (u + 1))), (0, .ref i), (1, .ref j)]) X 2 dX2_become_138 rfl (nI_1 (u)) (by decide) rfl ?_
              refine z_goto X 121 dX2_become_141 (by decide) ?_
              refine z_sub (ls' := [(0, .ref i), (1, .ref j), (2, .int (nI (u + 1)))]) [1, 2, 0] rfl ?_
              exact ih121 zh251 (u + 1) (va_up t3 u (t2 u)) (by omega) (by exact fun zq hzq zn0 zn1 zn2 zn3 zn4 zn5 => zl265 zq hzq zn0 zn1 zn2 zn3 zn4 zn5) (zr266) (by exact zK253) (by exact zK254) (by exact zK255) (by exact zK256) (by exact zK257) (by exact zK258) (by first | assumption | rfl | omega) (by intro z hz; by_cases e : z = u; (rw [e]; exact va_up_self _ _ _); exact (va_up_ne _ _ e).trans (ht3 z (by omega)))
        refine z_sub (ls' := [(0, .ref i), (1, .ref j), (2, .int 0)]) [1, 2, 0] rfl ?_
        exact L121 _ zh206 0 t1 (Nat.lt_succ_self _) (by exact fun zq hzq zn0 zn1 zn2 zn3 zn4 zn5 => zl220 zq hzq zn0 zn1 zn2 zn3 zn4) (zr221) (by exact zK208) (by exact zK209) (by exact zK210) (by exact zK211) (by exact zK212) (by exact zK213) (by first | assumption | rfl | omega) (by intro z hz; omega)
      · try replace zc205 := mt (nI_leI (a := 6) (b := k) (by omega) (by omega)).mpr zc205
        refine z_aload_n X 0 dX2_become_101 rfl ?_
        refine z_get X fl_X2_23_2 dX2_become_102 zK193 rfl ?_
        refine z_iload_n X 2 dX2_become_105 rfl ?_
        refine z_aload_n X 1 dX2_become_106 rfl ?_
        refine z_get X fl_X2_23_2 dX2_become_107 zK199 rfl ?_
        refine z_iload_n X 2 dX2_become_110 rfl ?_
        refine z_aald (t := 1) (v := va_rf (c2 k)) X dX2_become_111 zK203 rfl (by first | assumption | exact vp_in_nI (by omega) (by omega) | (refine vp_in_iff.mpr ?_; simp only [i_lt, i_le, i_eq] at *; omega)) (by rw [nI_clamp (by omega)]) ?_
        refine z_aastO (t := 1) (E := "IcicleRings$Cause") X dX2_become_112 zK197 rfl (cs_obj (CsA.mono zr_95 hC) (by omega)) (vp_in_nI (n := k) (by omega) (by omega)) (congrArg (fun z => va_up hh95 (i + 4) (arR κ 1 6 (va_up c3 z (c2 k)))) (nI_clamp (n := k) (by omega))) ?_
        obtain ⟨zh267, ze268⟩ : ∃ z : Mm, z = va_up hh95 (i + 4) (arR κ 1 6 (va_up c3 k (c2 k))) := ⟨_, rfl⟩
        refine z_heap (h' := zh267) ze268.symm ?_
        have zK269 := up_off ze268 (show i ≠ i + 4 by omega) zK193
        have zK270 := up_off ze268 (show i + 1 ≠ i + 4 by omega) zK194
        have zK271 := up_off ze268 (show i + 2 ≠ i + 4 by omega) zK195
        have zK272 := up_off ze268 (show i + 3 ≠ i + 4 by omega) zK196
        have zK273 := up_at ze268
        have zK274 := up_off ze268 (show i + 5 ≠ i + 4 by omega) zK198
        have zK275 := up_off ze268 (show j ≠ i + 4 by omega) zK199
        have zK276 := up_off ze268 (show j + 1 ≠ i + 4 by omega) zK200
        have zK277 := up_off ze268 (show j + 2 ≠ i + 4 by omega) zK201
        have zK278 := up_off ze268 (show j + 3 ≠ i + 4 by omega) zK202
        have zK279 := up_off ze268 (show j + 4 ≠ i + 4 by omega) zK203
        have zK280 := up_off ze268 (show j + 5 ≠ i + 4 by omega) zK204
        have zl281 : ∀ zq : Nat, zq < zb → zq ≠ i → zq ≠ (i + 1) → zq ≠ (i + 2) → zq ≠ (i + 3) → zq ≠ (i + 4) → zh267 zq = h zq := by intro zq hzq zn0 zn1 zn2 zn3 zn4; rw [ze268, va_up_ne _ _ (show zq ≠ i + 4 by omega)]; exact zl_95 zq hzq zn0 zn1 zn2 zn3 zn4
        have zr282 : Zr κ zb h zh267 := (zr_95).trans (Zr.same (fun zq h1 => by rw [ze268, va_up_ne _ _ (show zq ≠ i + 4 by omega)]))
        refine z_iinc (v := nI (k + 1)) (ls' := [(2, .int (nI (k + 1))), (0, .ref i), (1, .ref j)]) X 2 dX2_become_113 rfl (nI_1 (k)) (by decide) rfl ?_
        refine z_goto X 95 dX2_become_116 (by decide) ?_
        refine z_sub (ls' := [(0, .ref i), (1, .ref j), (2, .int (nI (k + 1)))]) [1, 2, 0] rfl ?_
        exact ih95 zh267 (k + 1) (va_up c3 k (c2 k)) (by omega) (by exact fun zq hzq zn0 zn1 zn2 zn3 zn4 => zl281 zq hzq zn0 zn1 zn2 zn3 zn4) (zr282) (by exact zK269) (by exact zK270) (by exact zK271) (by exact zK272) (by exact zK273) (by first | assumption | rfl | omega) (by intro z hz; by_cases e : z = k; (rw [e]; exact va_up_self _ _ _); exact (va_up_ne _ _ e).trans (hc3 z (by omega)))
  refine z_sub (ls' := [(0, .ref i), (1, .ref j), (2, .int 0)]) [1, 2, 0] rfl ?_
  exact L95 _ zh177 0 c1 (Nat.lt_succ_self _) (by exact fun zq hzq zn0 zn1 zn2 zn3 zn4 => zl191 zq hzq zn0 zn1 zn2 zn3) (zr192) (by exact zK179) (by exact zK180) (by exact zK181) (by exact zK182) (by exact zK183) (by first | assumption | rfl | omega) (by intro z hz; omega)
set_option maxHeartbeats 4000000 in
set_option maxRecDepth 100000 in
theorem c_feel {κ : Wc} {l : Launch} {h : Mm} {n : Nat} {i : Nat} {m : Nat → Int32} {zb : Nat} {ts : Nat → Option Nat} {T : Nat → Nat → Int32} {tx : Nat → Nat} {s7 : Int32} {w : Int32} {len : Int32} {now : Int32} {dd : Int32} {dr : Int32} {cc : Int32} {on : Int32} {cold : Int32} {wind : Int32} (K0 : h i = some (.inr (2, [.ref (i + 1), .ref (i + 2), .ref (i + 3), .ref (i + 4), .ref (i + 5), .int len, .int now, .int dd, .int dr, .int cc, .int on, .int cold, .int wind]))) (K1 : h (i + 3) = arI κ 6 (upd (win 4 6 m) 3 s7)) (K2 : h (i + 5) = arR κ 2 2 ts) (hz : i + 5 < zb) (hTs : TsO κ zb h ts T tx) (hS : wfS m) (hn : m 0 = now) : Con κ l yX2_feel cX2_feel 2 none 5 0 0 [.ref i, .int w] h n (fun q h' n' => q = none ∧ n' = n ∧ (∀ zq : Nat, zq < zb → zq ≠ i → h' zq = h zq) ∧ Zr κ zb h h' ∧ h' i = some (.inr (2, [.ref (i + 1), .ref (i + 2), .ref (i + 3), .ref (i + 4), .ref (i + 5), .int len, .int now, .int dd, .int dr, .int cc, .int on, .int (cldR T tx m), .int w]))) := by
  refine Con.of mk_X2_feel (Nat.le_of_ble_eq_true rfl) (fun G hG X E => ?_)
  subst hG
  refine z_ls (ls' := [(0, .ref i), (1, .int w)]) rfl ?_
  refine z_aload_n X 0 dX2_feel_0 rfl ?_
  refine z_aload_n X 0 dX2_feel_1 rfl ?_
  refine z_iconst (v := 1) X dX2_feel_2 (by decide) ?_
  refine z_aload_n X 0 dX2_feel_3 rfl ?_
  refine z_get X fl_X2_49_2 dX2_feel_4 K0 rfl ?_
  refine z_aload_n X 0 dX2_feel_7 rfl ?_
  refine z_get X fl_X2_18_2 dX2_feel_8 K0 rfl ?_
  refine z_iconst (v := 0) X dX2_feel_11 (by decide) ?_
  refine z_iald2 (v := m 4) X dX2_feel_12 K1 (vp_in_nI (n := 0) (by omega) (by omega)) (((congrArg (upd (win 4 6 m) 3 s7) (nI_clamp (n := 0) (by omega))).trans (pk_un (show 0 ≠ 3 by omega))).trans (win_at (k := 0) (by omega))) ?_
  refine z_aload_n X 0 dX2_feel_13 rfl ?_
  refine z_get X fl_X2_18_2 dX2_feel_14 K0 rfl ?_
  refine z_iconst (v := 2) X dX2_feel_17 (by decide) ?_
  refine z_iald2 (v := m 6) X dX2_feel_18 K1 (vp_in_nI (n := 2) (by omega) (by omega)) (((congrArg (upd (win 4 6 m) 3 s7) (nI_clamp (n := 2) (by omega))).trans (pk_un (show 2 ≠ 3 by omega))).trans (win_at (k := 2) (by omega))) ?_
  refine z_callV X (c_given_1 (κ := κ) (n := n) (i := (i)) (m := (upd m 7 s7)) (ts := (ts)) (T := (T)) (tx := (tx)) (len := (len)) (now := (now)) (dd := (dd)) (dr := (dr)) (cc := (cc)) (on := (on)) (cold := (cold)) (wind := (wind)) (t := (now)) (w := (m 4)) (c := (m 6)) K0 ((K1).trans (congrArg (arI κ 6) (win_us (m := m) (x := s7) (show 3 < 6 by omega)).symm)) K2 (by first | assumption | omega) (TsO.mono Zr.refl hTs) ((show -50 ≤ upd m 7 s7 6 from hS.2.2.2.2.1)) ((show upd m 7 s7 6 ≤ 99 from hS.2.2.2.2.2))) mk_X2_given dX2_feel_19 wd_440 wd_441 wd_442 rfl K0 rfl rfl rfl (Nat.le_of_ble_eq_true rfl) (Nat.le_of_ble_eq_true rfl) (Nat.le_of_ble_eq_true rfl) (by omega) (by omega) (fun q zh1 zm3 zp4 => ?_)
  obtain ⟨rfl, zn5, zf6, zr7⟩ := zp4
  subst zm3
  refine z_st (st' := [.int (gvn T tx 1 now (m 4) (m 6) ((upd m 7 s7) 6)), .ref i]) rfl ?_
  have zK8 : zh1 i = some (.inr (2, [.ref (i + 1), .ref (i + 2), .ref (i + 3), .ref (i + 4), .ref (i + 5), .int len, .int now, .int dd, .int dr, .int cc, .int on, .int cold, .int wind])) := (zf6 i (by omega)).trans K0
  have zK9 : zh1 (i + 3) = arI κ 6 (upd (win 4 6 m) 3 s7) := (zf6 (i + 3) (by omega)).trans K1
  have zK10 : zh1 (i + 5) = arR κ 2 2 ts := (zf6 (i + 5) (by omega)).trans K2
  have zl11 : ∀ zq : Nat, zq < zb → zh1 zq = h zq := by intro zq hzq ; rw [zf6 zq (by omega)]; try rfl
  have zr12 : Zr κ zb h zh1 := (Zr.refl).trans zr7
  refine z_toe (y := cldR T tx m) (by rw [← hn]; rfl) ?_
  refine z_put X fp_X2_98_2 dX2_feel_22 zK8 (by first | rfl | decide) (by first | rfl | decide) (Nat.le_of_ble_eq_true rfl) rfl ?_
  obtain ⟨zh13, ze14⟩ : ∃ z : Mm, z = va_up zh1 i (some (.inr (2, [.ref (i + 1), .ref (i + 2), .ref (i + 3), .ref (i + 4), .ref (i + 5), .int len, .int now, .int dd, .int dr, .int cc, .int on, .int (cldR T tx m), .int wind]))) := ⟨_, rfl⟩
  refine z_heap (h' := zh13) ze14.symm ?_
  have zK15 := up_at ze14
  have zK16 := up_off ze14 (show i + 3 ≠ i by omega) zK9
  have zK17 := up_off ze14 (show i + 5 ≠ i by omega) zK10
  have zl18 : ∀ zq : Nat, zq < zb → zq ≠ i → zh13 zq = h zq := by intro zq hzq zn0; rw [ze14, va_up_ne _ _ (show zq ≠ i by omega)]; exact zl11 zq hzq 
  have zr19 : Zr κ zb h zh13 := (zr12).trans (Zr.same (fun zq h1 => by rw [ze14, va_up_ne _ _ (show zq ≠ i by omega)]))
  refine z_aload_n X 0 dX2_feel_25 rfl ?_
  refine z_iload_n X 1 dX2_feel_26 rfl ?_
  refine z_put X fp_X2_101_2 dX2_feel_27 zK15 (by first | rfl | decide) (by first | rfl | decide) (Nat.le_of_ble_eq_true rfl) rfl ?_
  obtain ⟨zh20, ze21⟩ : ∃ z : Mm, z = va_up zh13 i (some (.inr (2, [.ref (i + 1), .ref (i + 2), .ref (i + 3), .ref (i + 4), .ref (i + 5), .int len, .int now, .int dd, .int dr, .int cc, .int on, .int (cldR T tx m), .int w]))) := ⟨_, rfl⟩
  refine z_heap (h' := zh20) ze21.symm ?_
  have zK22 := up_at ze21
  have zK23 := up_off ze21 (show i + 3 ≠ i by omega) zK16
  have zK24 := up_off ze21 (show i + 5 ≠ i by omega) zK17
  have zl25 : ∀ zq : Nat, zq < zb → zq ≠ i → zh20 zq = h zq := by intro zq hzq zn0; rw [ze21, va_up_ne _ _ (show zq ≠ i by omega)]; exact zl18 zq hzq zn0
  have zr26 : Zr κ zb h zh20 := (zr19).trans (Zr.same (fun zq h1 => by rw [ze21, va_up_ne _ _ (show zq ≠ i by omega)]))
  refine z_vret X E dX2_feel_30 (by omega) (by omega) ⟨?_, ?_, ?_, ?_, ?_⟩
  · rfl
  · rfl
  · exact fun zq hzq zn0 => zl25 zq hzq zn0
  · exact zr26
  · exact zK22
set_option maxHeartbeats 4000000 in
set_option maxRecDepth 100000 in
theorem c_frozenAt {κ : Wc} {l : Launch} {h : Mm} {n : Nat} {i : Nat} {len : Nat} {nc : Nat} {zb : Nat} {m : Nat → Int32} {cs : Nat → Option Nat} {c : Nat} {w : Int32} {s : Int32} {now : Int32} {dd : Int32} {dr : Int32} {on : Int32} {cold : Int32} {wind : Int32} (K0 : h i = some (.inr (2, [.ref (i + 1), .ref (i + 2), .ref (i + 3), .ref (i + 4), .ref (i + 5), .int (nI len), .int now, .int dd, .int dr, .int (nI nc), .int on, .int cold, .int wind]))) (K1 : h (i + 1) = arI κ 40 (win 100 40 m)) (K2 : h (i + 4) = arR κ 1 6 cs) (hz : i + 5 < zb) (hCs : CsO zb h cs m nc) (q2 : c < len) (q3 : len ≤ 40) (q5 : nc ≤ 6) (hn : m 0 = now) (hon : m 10 = on) (hw : m 7 = wind) : Con κ l yX2_frozenAt cX2_frozenAt 7 (some .int) 8 0 0 [.ref i, .int (nI c), .int w, .int s] h n (fun q h' n' => q = some (.int (frT m len nc c w s cold)) ∧ h' = h ∧ n' = n) := by
  refine Con.of mk_X2_frozenAt (Nat.le_of_ble_eq_true rfl) (fun G hG X E => ?_)
  subst hG
  refine z_ls (ls' := [(0, .ref i), (1, .int (nI c)), (2, .int w), (3, .int s)]) rfl ?_
  refine z_iconst (v := 0) X dX2_frozenAt_0 (by decide) ?_
  refine z_istore (ls' := [(4, .int 0), (0, .ref i), (1, .int (nI c)), (2, .int w), (3, .int s)]) X dX2_frozenAt_1 (by decide) rfl ?_
  refine z_iconst (v := 0) X dX2_frozenAt_3 (by decide) ?_
  refine z_istore (ls' := [(5, .int 0), (4, .int 0), (0, .ref i), (1, .int (nI c)), (2, .int w), (3, .int s)]) X dX2_frozenAt_4 (by decide) rfl ?_
  have L6 : ∀ (jj : Nat)  (k : Nat) (acc : Int32), (nc - k < jj) → (hk : k ≤ nc) → (hacc : acc = sumN (frF m len c w s cold) k) → Z κ G 7 6 [(0, .ref i), (1, .int (nI c)), (2, .int w), (3, .int s), (4, .int acc), (5, .int (nI k))] [] h n 0 (0) := by
    intro jj
    induction jj with
    | zero => intro  k acc hmu; exact absurd hmu (Nat.not_lt_zero _)
    | succ jj ih6 =>
      intro  k acc hmu  hk hacc
      refine z_iload X 5 dX2_frozenAt_6 rfl ?_
      refine z_aload_n X 0 dX2_frozenAt_8 rfl ?_
      refine z_get X fl_X2_58_2 dX2_frozenAt_9 K0 rfl ?_
      refine z_icmp_ge X 62 dX2_frozenAt_12 (by decide) (fun zc4 => ?_) (fun zc4 => ?_)
      · try replace zc4 := (nI_leI (a := nc) (b := k) (by omega) (by omega)).mp zc4
        refine z_iload X 4 dX2_frozenAt_62 rfl ?_
        refine z_iret X E dX2_frozenAt_64 (by omega) (by omega) ⟨?_, ?_, ?_⟩
        · rw [hacc, show k = nc by omega]; rfl
        · first | rfl | (funext zz; simp only [va_up]; (repeat' split) <;> first | rfl | (exfalso; omega) | simp_all)
        · rfl
      · try replace zc4 := mt (nI_leI (a := nc) (b := k) (by omega) (by omega)).mpr zc4
        refine z_aload_n X 0 dX2_frozenAt_15 rfl ?_
        refine z_get X fl_X2_23_2 dX2_frozenAt_16 K0 rfl ?_
        refine z_iload X 5 dX2_frozenAt_19 rfl ?_
        obtain ⟨a, kd, ha1, ha2, ha3, ha4, ha5⟩ := hCs k (by omega)
        rcases lt7 ha3 with rfl | rfl | rfl | rfl | rfl | rfl | rfl
        · skip
          have zK5 : h a = some (.inr (0, [.int (nI 0), .int (nI k), .int (m (20 + 2 * k + 1))])) := ha5
          have hfz : frz m len k c w s cold = frK 0 (m (20 + 2 * k + 1)) cold wind now m len c w s := by rw [frz_K ha4 (by decide), hw, hn]
          refine z_aald (t := 1) (v := .ref a) X dX2_frozenAt_21 K2 rfl (vp_in_nI (n := k) (by omega) (by omega)) (by rw [nI_clamp (by omega), ha2]; rfl) ?_
          refine z_astore (ls' := [(6, .ref a), (0, .ref i), (1, .int (nI c)), (2, .int w), (3, .int s), (4, .int acc), (5, .int (nI k))]) X dX2_frozenAt_22 (by decide) rfl ?_
          refine z_aload_n X 1 dX2_frozenAt_24 rfl ?_
          refine z_get X fl_X2_61_2 dX2_frozenAt_25 K0 rfl ?_
          refine z_iload X 6 dX2_frozenAt_28 rfl ?_
          refine z_ishr X dX2_frozenAt_30 ?_
          refine z_iconst (v := 1) X dX2_frozenAt_31 (by decide) ?_
          refine z_iand X dX2_frozenAt_32 ?_
          refine z_iconst (v := 1) X dX2_frozenAt_33 (by decide) ?_
          refine z_icmp_ne X 56 dX2_frozenAt_34 (by decide) (fun zc6 => ?_) (fun zc6 => ?_)
          · refine z_iinc (v := nI (k + 1)) (ls' := [(5, .int (nI (k + 1))), (6, .ref a), (0, .ref i), (1, .int (nI c)), (2, .int w), (3, .int s), (4, .int acc)]) X 6 dX2_frozenAt_56 rfl (nI_1 (k)) (by decide) rfl ?_
            refine z_goto X 6 dX2_frozenAt_59 (by decide) ?_
            refine z_sub (ls' := [(0, .ref i), (1, .int (nI c)), (2, .int w), (3, .int s), (4, .int acc), (5, .int (nI (k + 1)))]) [2, 3, 4, 5, 6, 0] rfl ?_
            exact ih6 (k + 1) acc (by omega) (by first | assumption | rfl | omega) (by first | exact (congrArg (fun z => acc + z) hfz.symm).trans (frF_t hacc (by rw [hon]; assumption)) | (refine Eq.trans (Int32.add_zero _).symm (frF_f hacc (by rw [hon]; assumption))))
          · refine z_aload X 0 dX2_frozenAt_37 rfl ?_
            refine z_ifnull X dX2_frozenAt_39 ?_
            refine z_iload X 5 dX2_frozenAt_42 rfl ?_
            refine z_aload X 0 dX2_frozenAt_44 rfl ?_
            refine z_aload_n X 1 dX2_frozenAt_46 rfl ?_
            refine z_iload_n X 2 dX2_frozenAt_47 rfl ?_
            refine z_iload_n X 3 dX2_frozenAt_48 rfl ?_
            refine z_iload_n X 4 dX2_frozenAt_49 rfl ?_
            refine z_callV X (k_freeze_0_0 (κ := κ) (n := n) (i := (i)) (len := (len)) (m := (m)) (now := (now)) (dd := (dd)) (dr := (dr)) (cc := (nI nc)) (on := (on)) (cold := (cold)) (wind := (wind)) (a := (a)) (kd := (nI 0)) (nb := (nI k)) (em := (m (20 + 2 * k + 1))) (c := (c)) (w := (w)) (s := (s)) zK5 K0 K1 (by first | assumption | omega) (by first | assumption | omega)) mk_X0_freeze dX2_frozenAt_50 wd_609 wd_467 wd_468 rfl zK5 rfl rfl rfl (Nat.le_of_ble_eq_true rfl) (Nat.le_of_ble_eq_true rfl) (Nat.le_of_ble_eq_true rfl) (by omega) (by omega) (fun q zh7 zm9 zp10 => ?_)
            obtain ⟨rfl, ze8, zn11⟩ := zp10
            subst zm9
            subst zh7
            refine z_st (st' := [.int (frK 0 (m (20 + 2 * k + 1)) cold wind now m len c w s), .int acc]) rfl ?_
            refine z_iadd X dX2_frozenAt_53 ?_
            refine z_istore (ls' := [(4, .int (acc + (frK 0 (m (20 + 2 * k + 1)) cold wind now m len c w s))), (6, .ref a), (0, .ref i), (1, .int (nI c)), (2, .int w), (3, .int s), (5, .int (nI k))]) X dX2_frozenAt_54 (by decide) rfl ?_
            refine z_iinc (v := nI (k + 1)) (ls' := [(5, .int (nI (k + 1))), (4, .int (acc + (frK 0 (m (20 + 2 * k + 1)) cold wind now m len c w s))), (6, .ref a), (0, .ref i), (1, .int (nI c)), (2, .int w), (3, .int s)]) X 6 dX2_frozenAt_56 rfl (nI_1 (k)) (by decide) rfl ?_
            refine z_goto X 6 dX2_frozenAt_59 (by decide) ?_
            refine z_sub (ls' := [(0, .ref i), (1, .int (nI c)), (2, .int w), (3, .int s), (4, .int (acc + (frK 0 (m (20 + 2 * k + 1)) cold wind now m len c w s))), (5, .int (nI (k + 1)))]) [3, 4, 5, 6, 1, 0] rfl ?_
            exact ih6 (k + 1) (acc + (frK 0 (m (20 + 2 * k + 1)) cold wind now m len c w s)) (by omega) (by first | assumption | rfl | omega) (by first | exact (congrArg (fun z => acc + z) hfz.symm).trans (frF_t hacc (by rw [hon]; assumption)) | (refine Eq.trans (Int32.add_zero _).symm (frF_f hacc (by rw [hon]; assumption))))
        · skip
          have zK12 : h a = some (.inr (10, [.int (nI 1), .int (nI k), .int (m (20 + 2 * k + 1))])) := ha5
          have hfz : frz m len k c w s cold = frK 1 (m (20 + 2 * k + 1)) cold wind now m len c w s := by rw [frz_K ha4 (by decide), hw, hn]
          refine z_aald (t := 1) (v := .ref a) X dX2_frozenAt_21 K2 rfl (vp_in_nI (n := k) (by omega) (by omega)) (by rw [nI_clamp (by omega), ha2]; rfl) ?_
          refine z_astore (ls' := [(6, .ref a), (0, .ref i), (1, .int (nI c)), (2, .int w), (3, .int s), (4, .int acc), (5, .int (nI k))]) X dX2_frozenAt_22 (by decide) rfl ?_
          refine z_aload_n X 1 dX2_frozenAt_24 rfl ?_
          refine z_get X fl_X2_61_2 dX2_frozenAt_25 K0 rfl ?_
          refine z_iload X 6 dX2_frozenAt_28 rfl ?_
          refine z_ishr X dX2_frozenAt_30 ?_
          refine z_iconst (v := 1) X dX2_frozenAt_31 (by decide) ?_
          refine z_iand X dX2_frozenAt_32 ?_
          refine z_iconst (v := 1) X dX2_frozenAt_33 (by decide) ?_
          refine z_icmp_ne X 56 dX2_frozenAt_34 (by decide) (fun zc13 => ?_) (fun zc13 => ?_)
          · refine z_iinc (v := nI (k + 1)) (ls' := [(5, .int (nI (k + 1))), (6, .ref a), (0, .ref i), (1, .int (nI c)), (2, .int w), (3, .int s), (4, .int acc)]) X 6 dX2_frozenAt_56 rfl (nI_1 (k)) (by decide) rfl ?_
            refine z_goto X 6 dX2_frozenAt_59 (by decide) ?_
            refine z_sub (ls' := [(0, .ref i), (1, .int (nI c)), (2, .int w), (3, .int s), (4, .int acc), (5, .int (nI (k + 1)))]) [2, 3, 4, 5, 6, 0] rfl ?_
            exact ih6 (k + 1) acc (by omega) (by first | assumption | rfl | omega) (by first | exact (congrArg (fun z => acc + z) hfz.symm).trans (frF_t hacc (by rw [hon]; assumption)) | (refine Eq.trans (Int32.add_zero _).symm (frF_f hacc (by rw [hon]; assumption))))
          · refine z_aload X 0 dX2_frozenAt_37 rfl ?_
            refine z_ifnull X dX2_frozenAt_39 ?_
            refine z_iload X 5 dX2_frozenAt_42 rfl ?_
            refine z_aload X 0 dX2_frozenAt_44 rfl ?_
            refine z_aload_n X 1 dX2_frozenAt_46 rfl ?_
            refine z_iload_n X 2 dX2_frozenAt_47 rfl ?_
            refine z_iload_n X 3 dX2_frozenAt_48 rfl ?_
            refine z_iload_n X 4 dX2_frozenAt_49 rfl ?_
            refine z_callU X (k_freeze_1_1 (κ := κ) (n := n) (i := (i)) (len := (len)) (m := (m)) (now := (now)) (dd := (dd)) (dr := (dr)) (cc := (nI nc)) (on := (on)) (cold := (cold)) (wind := (wind)) (a := (a)) (kd := (nI 1)) (nb := (nI k)) (em := (m (20 + 2 * k + 1))) (c := (c)) (w := (w)) (s := (s)) zK12 K0 K1 (by first | assumption | omega) (by first | assumption | omega)) mk_X10_freeze dX2_frozenAt_50 wd_609 wd_469 wd_467 wd_495 wd_474 wd_494 (by decide) rfl zK12 rfl rfl rfl (Nat.le_of_ble_eq_true rfl) (Nat.le_of_ble_eq_true rfl) (Nat.le_of_ble_eq_true rfl) (by omega) (by omega) (fun q zh14 zm16 zp17 => ?_)
            obtain ⟨rfl, ze15, zn18⟩ := zp17
            subst zm16
            subst zh14
            refine z_st (st' := [.int (frK 1 (m (20 + 2 * k + 1)) cold wind now m len c w s), .int acc]) rfl ?_
            refine z_iadd X dX2_frozenAt_53 ?_
            refine z_istore (ls' := [(4, .int (acc + (frK 1 (m (20 + 2 * k + 1)) cold wind now m len c w s))), (6, .ref a), (0, .ref i), (1, .int (nI c)), (2, .int w), (3, .int s), (5, .int (nI k))]) X dX2_frozenAt_54 (by decide) rfl ?_
            refine z_iinc (v := nI (k + 1)) (ls' := [(5, .int (nI (k + 1))), (4, .int (acc + (frK 1 (m (20 + 2 * k + 1)) cold wind now m len c w s))), (6, .ref a), (0, .ref i), (1, .int (nI c)), (2, .int w), (3, .int s)]) X 6 dX2_frozenAt_56 rfl (nI_1 (k)) (by decide) rfl ?_
            refine z_goto X 6 dX2_frozenAt_59 (by decide) ?_
            refine z_sub (ls' := [(0, .ref i), (1, .int (nI c)), (2, .int w), (3, .int s), (4, .int (acc + (frK 1 (m (20 + 2 * k + 1)) cold wind now m len c w s))), (5, .int (nI (k + 1)))]) [3, 4, 5, 6, 1, 0] rfl ?_
            exact ih6 (k + 1) (acc + (frK 1 (m (20 + 2 * k + 1)) cold wind now m len c w s)) (by omega) (by first | assumption | rfl | omega) (by first | exact (congrArg (fun z => acc + z) hfz.symm).trans (frF_t hacc (by rw [hon]; assumption)) | (refine Eq.trans (Int32.add_zero _).symm (frF_f hacc (by rw [hon]; assumption))))
        · skip
          have zK19 : h a = some (.inr (8, [.int (nI 2), .int (nI k), .int (m (20 + 2 * k + 1))])) := ha5
          have hfz : frz m len k c w s cold = frK 2 (m (20 + 2 * k + 1)) cold wind now m len c w s := by rw [frz_K ha4 (by decide), hw, hn]
          refine z_aald (t := 1) (v := .ref a) X dX2_frozenAt_21 K2 rfl (vp_in_nI (n := k) (by omega) (by omega)) (by rw [nI_clamp (by omega), ha2]; rfl) ?_
          refine z_astore (ls' := [(6, .ref a), (0, .ref i), (1, .int (nI c)), (2, .int w), (3, .int s), (4, .int acc), (5, .int (nI k))]) X dX2_frozenAt_22 (by decide) rfl ?_
          refine z_aload_n X 1 dX2_frozenAt_24 rfl ?_
          refine z_get X fl_X2_61_2 dX2_frozenAt_25 K0 rfl ?_
          refine z_iload X 6 dX2_frozenAt_28 rfl ?_
          refine z_ishr X dX2_frozenAt_30 ?_
          refine z_iconst (v := 1) X dX2_frozenAt_31 (by decide) ?_
          refine z_iand X dX2_frozenAt_32 ?_
          refine z_iconst (v := 1) X dX2_frozenAt_33 (by decide) ?_
          refine z_icmp_ne X 56 dX2_frozenAt_34 (by decide) (fun zc20 => ?_) (fun zc20 => ?_)
          · refine z_iinc (v := nI (k + 1)) (ls' := [(5, .int (nI (k + 1))), (6, .ref a), (0, .ref i), (1, .int (nI c)), (2, .int w), (3, .int s), (4, .int acc)]) X 6 dX2_frozenAt_56 rfl (nI_1 (k)) (by decide) rfl ?_
            refine z_goto X 6 dX2_frozenAt_59 (by decide) ?_
            refine z_sub (ls' := [(0, .ref i), (1, .int (nI c)), (2, .int w), (3, .int s), (4, .int acc), (5, .int (nI (k + 1)))]) [2, 3, 4, 5, 6, 0] rfl ?_
            exact ih6 (k + 1) acc (by omega) (by first | assumption | rfl | omega) (by first | exact (congrArg (fun z => acc + z) hfz.symm).trans (frF_t hacc (by rw [hon]; assumption)) | (refine Eq.trans (Int32.add_zero _).symm (frF_f hacc (by rw [hon]; assumption))))
          · refine z_aload X 0 dX2_frozenAt_37 rfl ?_
            refine z_ifnull X dX2_frozenAt_39 ?_
            refine z_iload X 5 dX2_frozenAt_42 rfl ?_
            refine z_aload X 0 dX2_frozenAt_44 rfl ?_
            refine z_aload_n X 1 dX2_frozenAt_46 rfl ?_
            refine z_iload_n X 2 dX2_frozenAt_47 rfl ?_
            refine z_iload_n X 3 dX2_frozenAt_48 rfl ?_
            refine z_iload_n X 4 dX2_frozenAt_49 rfl ?_
            refine z_callU X (k_freeze_2_2 (κ := κ) (n := n) (i := (i)) (len := (len)) (m := (m)) (now := (now)) (dd := (dd)) (dr := (dr)) (cc := (nI nc)) (on := (on)) (cold := (cold)) (wind := (wind)) (a := (a)) (kd := (nI 2)) (nb := (nI k)) (em := (m (20 + 2 * k + 1))) (c := (c)) (w := (w)) (s := (s)) zK19 K0 K1 (by first | assumption | omega) (by first | assumption | omega)) mk_X8_freeze dX2_frozenAt_50 wd_609 wd_469 wd_467 wd_495 wd_485 wd_493 (by decide) rfl zK19 rfl rfl rfl (Nat.le_of_ble_eq_true rfl) (Nat.le_of_ble_eq_true rfl) (Nat.le_of_ble_eq_true rfl) (by omega) (by omega) (fun q zh21 zm23 zp24 => ?_)
            obtain ⟨rfl, ze22, zn25⟩ := zp24
            subst zm23
            subst zh21
            refine z_st (st' := [.int (frK 2 (m (20 + 2 * k + 1)) cold wind now m len c w s), .int acc]) rfl ?_
            refine z_iadd X dX2_frozenAt_53 ?_
            refine z_istore (ls' := [(4, .int (acc + (frK 2 (m (20 + 2 * k + 1)) cold wind now m len c w s))), (6, .ref a), (0, .ref i), (1, .int (nI c)), (2, .int w), (3, .int s), (5, .int (nI k))]) X dX2_frozenAt_54 (by decide) rfl ?_
            refine z_iinc (v := nI (k + 1)) (ls' := [(5, .int (nI (k + 1))), (4, .int (acc + (frK 2 (m (20 + 2 * k + 1)) cold wind now m len c w s))), (6, .ref a), (0, .ref i), (1, .int (nI c)), (2, .int w), (3, .int s)]) X 6 dX2_frozenAt_56 rfl (nI_1 (k)) (by decide) rfl ?_
            refine z_goto X 6 dX2_frozenAt_59 (by decide) ?_
            refine z_sub (ls' := [(0, .ref i), (1, .int (nI c)), (2, .int w), (3, .int s), (4, .int (acc + (frK 2 (m (20 + 2 * k + 1)) cold wind now m len c w s))), (5, .int (nI (k + 1)))]) [3, 4, 5, 6, 1, 0] rfl ?_
            exact ih6 (k + 1) (acc + (frK 2 (m (20 + 2 * k + 1)) cold wind now m len c w s)) (by omega) (by first | assumption | rfl | omega) (by first | exact (congrArg (fun z => acc + z) hfz.symm).trans (frF_t hacc (by rw [hon]; assumption)) | (refine Eq.trans (Int32.add_zero _).symm (frF_f hacc (by rw [hon]; assumption))))
        · skip
          have zK26 : h a = some (.inr (5, [.int (nI 3), .int (nI k), .int (m (20 + 2 * k + 1))])) := ha5
          have hfz : frz m len k c w s cold = frK 3 (m (20 + 2 * k + 1)) cold wind now m len c w s := by rw [frz_K ha4 (by decide), hw, hn]
          refine z_aald (t := 1) (v := .ref a) X dX2_frozenAt_21 K2 rfl (vp_in_nI (n := k) (by omega) (by omega)) (by rw [nI_clamp (by omega), ha2]; rfl) ?_
          refine z_astore (ls' := [(6, .ref a), (0, .ref i), (1, .int (nI c)), (2, .int w), (3, .int s), (4, .int acc), (5, .int (nI k))]) X dX2_frozenAt_22 (by decide) rfl ?_
          refine z_aload_n X 1 dX2_frozenAt_24 rfl ?_
          refine z_get X fl_X2_61_2 dX2_frozenAt_25 K0 rfl ?_
          refine z_iload X 6 dX2_frozenAt_28 rfl ?_
          refine z_ishr X dX2_frozenAt_30 ?_
          refine z_iconst (v := 1) X dX2_frozenAt_31 (by decide) ?_
          refine z_iand X dX2_frozenAt_32 ?_
          refine z_iconst (v := 1) X dX2_frozenAt_33 (by decide) ?_
          refine z_icmp_ne X 56 dX2_frozenAt_34 (by decide) (fun zc27 => ?_) (fun zc27 => ?_)
          · refine z_iinc (v := nI (k + 1)) (ls' := [(5, .int (nI (k + 1))), (6, .ref a), (0, .ref i), (1, .int (nI c)), (2, .int w), (3, .int s), (4, .int acc)]) X 6 dX2_frozenAt_56 rfl (nI_1 (k)) (by decide) rfl ?_
            refine z_goto X 6 dX2_frozenAt_59 (by decide) ?_
            refine z_sub (ls' := [(0, .ref i), (1, .int (nI c)), (2, .int w), (3, .int s), (4, .int acc), (5, .int (nI (k + 1)))]) [2, 3, 4, 5, 6, 0] rfl ?_
            exact ih6 (k + 1) acc (by omega) (by first | assumption | rfl | omega) (by first | exact (congrArg (fun z => acc + z) hfz.symm).trans (frF_t hacc (by rw [hon]; assumption)) | (refine Eq.trans (Int32.add_zero _).symm (frF_f hacc (by rw [hon]; assumption))))
          · refine z_aload X 0 dX2_frozenAt_37 rfl ?_
            refine z_ifnull X dX2_frozenAt_39 ?_
            refine z_iload X 5 dX2_frozenAt_42 rfl ?_
            refine z_aload X 0 dX2_frozenAt_44 rfl ?_
            refine z_aload_n X 1 dX2_frozenAt_46 rfl ?_
            refine z_iload_n X 2 dX2_frozenAt_47 rfl ?_
            refine z_iload_n X 3 dX2_frozenAt_48 rfl ?_
            refine z_iload_n X 4 dX2_frozenAt_49 rfl ?_
            refine z_callU X (k_freeze_3_3 (κ := κ) (n := n) (i := (i)) (len := (len)) (m := (m)) (now := (now)) (dd := (dd)) (dr := (dr)) (cc := (nI nc)) (on := (on)) (cold := (cold)) (wind := (wind)) (a := (a)) (kd := (nI 3)) (nb := (nI k)) (em := (m (20 + 2 * k + 1))) (c := (c)) (w := (w)) (s := (s)) zK26 K0 K1 (by first | assumption | omega) (by first | assumption | omega)) mk_X5_freeze dX2_frozenAt_50 wd_609 wd_469 wd_467 wd_495 wd_482 wd_481 (by decide) rfl zK26 rfl rfl rfl (Nat.le_of_ble_eq_true rfl) (Nat.le_of_ble_eq_true rfl) (Nat.le_of_ble_eq_true rfl) (by omega) (by omega) (fun q zh28 zm30 zp31 => ?_)
            obtain ⟨rfl, ze29, zn32⟩ := zp31
            subst zm30
            subst zh28
            refine z_st (st' := [.int (frK 3 (m (20 + 2 * k + 1)) cold wind now m len c w s), .int acc]) rfl ?_
            refine z_iadd X dX2_frozenAt_53 ?_
            refine z_istore (ls' := [(4, .int (acc + (frK 3 (m (20 + 2 * k + 1)) cold wind now m len c w s))), (6, .ref a), (0, .ref i), (1, .int (nI c)), (2, .int w), (3, .int s), (5, .int (nI k))]) X dX2_frozenAt_54 (by decide) rfl ?_
            refine z_iinc (v := nI (k + 1)) (ls' := [(5, .int (nI (k + 1))), (4, .int (acc + (frK 3 (m (20 + 2 * k + 1)) cold wind now m len c w s))), (6, .ref a), (0, .ref i), (1, .int (nI c)), (2, .int w), (3, .int s)]) X 6 dX2_frozenAt_56 rfl (nI_1 (k)) (by decide) rfl ?_
            refine z_goto X 6 dX2_frozenAt_59 (by decide) ?_
            refine z_sub (ls' := [(0, .ref i), (1, .int (nI c)), (2, .int w), (3, .int s), (4, .int (acc + (frK 3 (m (20 + 2 * k + 1)) cold wind now m len c w s))), (5, .int (nI (k + 1)))]) [3, 4, 5, 6, 1, 0] rfl ?_
            exact ih6 (k + 1) (acc + (frK 3 (m (20 + 2 * k + 1)) cold wind now m len c w s)) (by omega) (by first | assumption | rfl | omega) (by first | exact (congrArg (fun z => acc + z) hfz.symm).trans (frF_t hacc (by rw [hon]; assumption)) | (refine Eq.trans (Int32.add_zero _).symm (frF_f hacc (by rw [hon]; assumption))))
        · skip
          have zK33 : h a = some (.inr (7, [.int (nI 4), .int (nI k), .int (m (20 + 2 * k + 1))])) := ha5
          have hfz : frz m len k c w s cold = frK 4 (m (20 + 2 * k + 1)) cold wind now m len c w s := by rw [frz_K ha4 (by decide), hw, hn]
          refine z_aald (t := 1) (v := .ref a) X dX2_frozenAt_21 K2 rfl (vp_in_nI (n := k) (by omega) (by omega)) (by rw [nI_clamp (by omega), ha2]; rfl) ?_
          refine z_astore (ls' := [(6, .ref a), (0, .ref i), (1, .int (nI c)), (2, .int w), (3, .int s), (4, .int acc), (5, .int (nI k))]) X dX2_frozenAt_22 (by decide) rfl ?_
          refine z_aload_n X 1 dX2_frozenAt_24 rfl ?_
          refine z_get X fl_X2_61_2 dX2_frozenAt_25 K0 rfl ?_
          refine z_iload X 6 dX2_frozenAt_28 rfl ?_
          refine z_ishr X dX2_frozenAt_30 ?_
          refine z_iconst (v := 1) X dX2_frozenAt_31 (by decide) ?_
          refine z_iand X dX2_frozenAt_32 ?_
          refine z_iconst (v := 1) X dX2_frozenAt_33 (by decide) ?_
          refine z_icmp_ne X 56 dX2_frozenAt_34 (by decide) (fun zc34 => ?_) (fun zc34 => ?_)
          · refine z_iinc (v := nI (k + 1)) (ls' := [(5, .int (nI (k + 1))), (6, .ref a), (0, .ref i), (1, .int (nI c)), (2, .int w), (3, .int s), (4, .int acc)]) X 6 dX2_frozenAt_56 rfl (nI_1 (k)) (by decide) rfl ?_
            refine z_goto X 6 dX2_frozenAt_59 (by decide) ?_
            refine z_sub (ls' := [(0, .ref i), (1, .int (nI c)), (2, .int w), (3, .int s), (4, .int acc), (5, .int (nI (k + 1)))]) [2, 3, 4, 5, 6, 0] rfl ?_
            exact ih6 (k + 1) acc (by omega) (by first | assumption | rfl | omega) (by first | exact (congrArg (fun z => acc + z) hfz.symm).trans (frF_t hacc (by rw [hon]; assumption)) | (refine Eq.trans (Int32.add_zero _).symm (frF_f hacc (by rw [hon]; assumption))))
          · refine z_aload X 0 dX2_frozenAt_37 rfl ?_
            refine z_ifnull X dX2_frozenAt_39 ?_
            refine z_iload X 5 dX2_frozenAt_42 rfl ?_
            refine z_aload X 0 dX2_frozenAt_44 rfl ?_
            refine z_aload_n X 1 dX2_frozenAt_46 rfl ?_
            refine z_iload_n X 2 dX2_frozenAt_47 rfl ?_
            refine z_iload_n X 3 dX2_frozenAt_48 rfl ?_
            refine z_iload_n X 4 dX2_frozenAt_49 rfl ?_
            refine z_callU X (k_freeze_4_4 (κ := κ) (n := n) (i := (i)) (len := (len)) (m := (m)) (now := (now)) (dd := (dd)) (dr := (dr)) (cc := (nI nc)) (on := (on)) (cold := (cold)) (wind := (wind)) (a := (a)) (kd := (nI 4)) (nb := (nI k)) (em := (m (20 + 2 * k + 1))) (c := (c)) (w := (w)) (s := (s)) zK33 K0 K1 (by first | assumption | omega) (by first | assumption | omega)) mk_X7_freeze dX2_frozenAt_50 wd_609 wd_469 wd_467 wd_495 wd_489 wd_488 (by decide) rfl zK33 rfl rfl rfl (Nat.le_of_ble_eq_true rfl) (Nat.le_of_ble_eq_true rfl) (Nat.le_of_ble_eq_true rfl) (by omega) (by omega) (fun q zh35 zm37 zp38 => ?_)
            obtain ⟨rfl, ze36, zn39⟩ := zp38
            subst zm37
            subst zh35
            refine z_st (st' := [.int (frK 4 (m (20 + 2 * k + 1)) cold wind now m len c w s), .int acc]) rfl ?_
            refine z_iadd X dX2_frozenAt_53 ?_
            refine z_istore (ls' := [(4, .int (acc + (frK 4 (m (20 + 2 * k + 1)) cold wind now m len c w s))), (6, .ref a), (0, .ref i), (1, .int (nI c)), (2, .int w), (3, .int s), (5, .int (nI k))]) X dX2_frozenAt_54 (by decide) rfl ?_
            refine z_iinc (v := nI (k + 1)) (ls' := [(5, .int (nI (k + 1))), (4, .int (acc + (frK 4 (m (20 + 2 * k + 1)) cold wind now m len c w s))), (6, .ref a), (0, .ref i), (1, .int (nI c)), (2, .int w), (3, .int s)]) X 6 dX2_frozenAt_56 rfl (nI_1 (k)) (by decide) rfl ?_
            refine z_goto X 6 dX2_frozenAt_59 (by decide) ?_
            refine z_sub (ls' := [(0, .ref i), (1, .int (nI c)), (2, .int w), (3, .int s), (4, .int (acc + (frK 4 (m (20 + 2 * k + 1)) cold wind now m len c w s))), (5, .int (nI (k + 1)))]) [3, 4, 5, 6, 1, 0] rfl ?_
            exact ih6 (k + 1) (acc + (frK 4 (m (20 + 2 * k + 1)) cold wind now m len c w s)) (by omega) (by first | assumption | rfl | omega) (by first | exact (congrArg (fun z => acc + z) hfz.symm).trans (frF_t hacc (by rw [hon]; assumption)) | (refine Eq.trans (Int32.add_zero _).symm (frF_f hacc (by rw [hon]; assumption))))
        · skip
          have zK40 : h a = some (.inr (4, [.int (nI 5), .int (nI k), .int (m (20 + 2 * k + 1))])) := ha5
          have hfz : frz m len k c w s cold = frK 5 (m (20 + 2 * k + 1)) cold wind now m len c w s := by rw [frz_K ha4 (by decide), hw, hn]
          refine z_aald (t := 1) (v := .ref a) X dX2_frozenAt_21 K2 rfl (vp_in_nI (n := k) (by omega) (by omega)) (by rw [nI_clamp (by omega), ha2]; rfl) ?_
          refine z_astore (ls' := [(6, .ref a), (0, .ref i), (1, .int (nI c)), (2, .int w), (3, .int s), (4, .int acc), (5, .int (nI k))]) X dX2_frozenAt_22 (by decide) rfl ?_
          refine z_aload_n X 1 dX2_frozenAt_24 rfl ?_
          refine z_get X fl_X2_61_2 dX2_frozenAt_25 K0 rfl ?_
          refine z_iload X 6 dX2_frozenAt_28 rfl ?_
          refine z_ishr X dX2_frozenAt_30 ?_
          refine z_iconst (v := 1) X dX2_frozenAt_31 (by decide) ?_
          refine z_iand X dX2_frozenAt_32 ?_
          refine z_iconst (v := 1) X dX2_frozenAt_33 (by decide) ?_
          refine z_icmp_ne X 56 dX2_frozenAt_34 (by decide) (fun zc41 => ?_) (fun zc41 => ?_)
          · refine z_iinc (v := nI (k + 1)) (ls' := [(5, .int (nI (k + 1))), (6, .ref a), (0, .ref i), (1, .int (nI c)), (2, .int w), (3, .int s), (4, .int acc)]) X 6 dX2_frozenAt_56 rfl (nI_1 (k)) (by decide) rfl ?_
            refine z_goto X 6 dX2_frozenAt_59 (by decide) ?_
            refine z_sub (ls' := [(0, .ref i), (1, .int (nI c)), (2, .int w), (3, .int s), (4, .int acc), (5, .int (nI (k + 1)))]) [2, 3, 4, 5, 6, 0] rfl ?_
            exact ih6 (k + 1) acc (by omega) (by first | assumption | rfl | omega) (by first | exact (congrArg (fun z => acc + z) hfz.symm).trans (frF_t hacc (by rw [hon]; assumption)) | (refine Eq.trans (Int32.add_zero _).symm (frF_f hacc (by rw [hon]; assumption))))
          · refine z_aload X 0 dX2_frozenAt_37 rfl ?_
            refine z_ifnull X dX2_frozenAt_39 ?_
            refine z_iload X 5 dX2_frozenAt_42 rfl ?_
            refine z_aload X 0 dX2_frozenAt_44 rfl ?_
            refine z_aload_n X 1 dX2_frozenAt_46 rfl ?_
            refine z_iload_n X 2 dX2_frozenAt_47 rfl ?_
            refine z_iload_n X 3 dX2_frozenAt_48 rfl ?_
            refine z_iload_n X 4 dX2_frozenAt_49 rfl ?_
            refine z_callU X (k_freeze_5_5 (κ := κ) (n := n) (i := (i)) (len := (len)) (m := (m)) (now := (now)) (dd := (dd)) (dr := (dr)) (cc := (nI nc)) (on := (on)) (cold := (cold)) (wind := (wind)) (a := (a)) (kd := (nI 5)) (nb := (nI k)) (em := (m (20 + 2 * k + 1))) (c := (c)) (w := (w)) (s := (s)) zK40 K0 K1 (by first | assumption | omega) (by first | assumption | omega)) mk_X4_freeze dX2_frozenAt_50 wd_609 wd_469 wd_467 wd_495 wd_478 wd_477 (by decide) rfl zK40 rfl rfl rfl (Nat.le_of_ble_eq_true rfl) (Nat.le_of_ble_eq_true rfl) (Nat.le_of_ble_eq_true rfl) (by omega) (by omega) (fun q zh42 zm44 zp45 => ?_)
            obtain ⟨rfl, ze43, zn46⟩ := zp45
            subst zm44
            subst zh42
            refine z_st (st' := [.int (frK 5 (m (20 + 2 * k + 1)) cold wind now m len c w s), .int acc]) rfl ?_
            refine z_iadd X dX2_frozenAt_53 ?_
            refine z_istore (ls' := [(4, .int (acc + (frK 5 (m (20 + 2 * k + 1)) cold wind now m len c w s))), (6, .ref a), (0, .ref i), (1, .int (nI c)), (2, .int w), (3, .int s), (5, .int (nI k))]) X dX2_frozenAt_54 (by decide) rfl ?_
            refine z_iinc (v := nI (k + 1)) (ls' := [(5, .int (nI (k + 1))), (4, .int (acc + (frK 5 (m (20 + 2 * k + 1)) cold wind now m len c w s))), (6, .ref a), (0, .ref i), (1, .int (nI c)), (2, .int w), (3, .int s)]) X 6 dX2_frozenAt_56 rfl (nI_1 (k)) (by decide) rfl ?_
            refine z_goto X 6 dX2_frozenAt_59 (by decide) ?_
            refine z_sub (ls' := [(0, .ref i), (1, .int (nI c)), (2, .int w), (3, .int s), (4, .int (acc + (frK 5 (m (20 + 2 * k + 1)) cold wind now m len c w s))), (5, .int (nI (k + 1)))]) [3, 4, 5, 6, 1, 0] rfl ?_
            exact ih6 (k + 1) (acc + (frK 5 (m (20 + 2 * k + 1)) cold wind now m len c w s)) (by omega) (by first | assumption | rfl | omega) (by first | exact (congrArg (fun z => acc + z) hfz.symm).trans (frF_t hacc (by rw [hon]; assumption)) | (refine Eq.trans (Int32.add_zero _).symm (frF_f hacc (by rw [hon]; assumption))))
        · skip
          have zK47 : h a = some (.inr (1, [.int (nI 6), .int (nI k), .int (m (20 + 2 * k + 1))])) := ha5
          have hfz : frz m len k c w s cold = frK 6 (m (20 + 2 * k + 1)) cold wind now m len c w s := by rw [frz_K ha4 (by decide), hw, hn]
          refine z_aald (t := 1) (v := .ref a) X dX2_frozenAt_21 K2 rfl (vp_in_nI (n := k) (by omega) (by omega)) (by rw [nI_clamp (by omega), ha2]; rfl) ?_
          refine z_astore (ls' := [(6, .ref a), (0, .ref i), (1, .int (nI c)), (2, .int w), (3, .int s), (4, .int acc), (5, .int (nI k))]) X dX2_frozenAt_22 (by decide) rfl ?_
          refine z_aload_n X 1 dX2_frozenAt_24 rfl ?_
          refine z_get X fl_X2_61_2 dX2_frozenAt_25 K0 rfl ?_
          refine z_iload X 6 dX2_frozenAt_28 rfl ?_
          refine z_ishr X dX2_frozenAt_30 ?_
          refine z_iconst (v := 1) X dX2_frozenAt_31 (by decide) ?_
          refine z_iand X dX2_frozenAt_32 ?_
          refine z_iconst (v := 1) X dX2_frozenAt_33 (by decide) ?_
          refine z_icmp_ne X 56 dX2_frozenAt_34 (by decide) (fun zc48 => ?_) (fun zc48 => ?_)
          · refine z_iinc (v := nI (k + 1)) (ls' := [(5, .int (nI (k + 1))), (6, .ref a), (0, .ref i), (1, .int (nI c)), (2, .int w), (3, .int s), (4, .int acc)]) X 6 dX2_frozenAt_56 rfl (nI_1 (k)) (by decide) rfl ?_
            refine z_goto X 6 dX2_frozenAt_59 (by decide) ?_
            refine z_sub (ls' := [(0, .ref i), (1, .int (nI c)), (2, .int w), (3, .int s), (4, .int acc), (5, .int (nI (k + 1)))]) [2, 3, 4, 5, 6, 0] rfl ?_
            exact ih6 (k + 1) acc (by omega) (by first | assumption | rfl | omega) (by first | exact (congrArg (fun z => acc + z) hfz.symm).trans (frF_t hacc (by rw [hon]; assumption)) | (refine Eq.trans (Int32.add_zero _).symm (frF_f hacc (by rw [hon]; assumption))))
          · refine z_aload X 0 dX2_frozenAt_37 rfl ?_
            refine z_ifnull X dX2_frozenAt_39 ?_
            refine z_iload X 5 dX2_frozenAt_42 rfl ?_
            refine z_aload X 0 dX2_frozenAt_44 rfl ?_
            refine z_aload_n X 1 dX2_frozenAt_46 rfl ?_
            refine z_iload_n X 2 dX2_frozenAt_47 rfl ?_
            refine z_iload_n X 3 dX2_frozenAt_48 rfl ?_
            refine z_iload_n X 4 dX2_frozenAt_49 rfl ?_
            refine z_callU X (k_freeze_6_6 (κ := κ) (n := n) (i := (i)) (len := (len)) (m := (m)) (now := (now)) (dd := (dd)) (dr := (dr)) (cc := (nI nc)) (on := (on)) (cold := (cold)) (wind := (wind)) (a := (a)) (kd := (nI 6)) (nb := (nI k)) (em := (m (20 + 2 * k + 1))) (c := (c)) (w := (w)) (s := (s)) zK47 K0 K1 (by first | assumption | omega) (by first | assumption | omega)) mk_X1_freeze dX2_frozenAt_50 wd_609 wd_469 wd_467 wd_495 wd_471 wd_470 (by decide) rfl zK47 rfl rfl rfl (Nat.le_of_ble_eq_true rfl) (Nat.le_of_ble_eq_true rfl) (Nat.le_of_ble_eq_true rfl) (by omega) (by omega) (fun q zh49 zm51 zp52 => ?_)
            obtain ⟨rfl, ze50, zn53⟩ := zp52
            subst zm51
            subst zh49
            refine z_st (st' := [.int (frK 6 (m (20 + 2 * k + 1)) cold wind now m len c w s), .int acc]) rfl ?_
            refine z_iadd X dX2_frozenAt_53 ?_
            refine z_istore (ls' := [(4, .int (acc + (frK 6 (m (20 + 2 * k + 1)) cold wind now m len c w s))), (6, .ref a), (0, .ref i), (1, .int (nI c)), (2, .int w), (3, .int s), (5, .int (nI k))]) X dX2_frozenAt_54 (by decide) rfl ?_
            refine z_iinc (v := nI (k + 1)) (ls' := [(5, .int (nI (k + 1))), (4, .int (acc + (frK 6 (m (20 + 2 * k + 1)) cold wind now m len c w s))), (6, .ref a), (0, .ref i), (1, .int (nI c)), (2, .int w), (3, .int s)]) X 6 dX2_frozenAt_56 rfl (nI_1 (k)) (by decide) rfl ?_
            refine z_goto X 6 dX2_frozenAt_59 (by decide) ?_
            refine z_sub (ls' := [(0, .ref i), (1, .int (nI c)), (2, .int w), (3, .int s), (4, .int (acc + (frK 6 (m (20 + 2 * k + 1)) cold wind now m len c w s))), (5, .int (nI (k + 1)))]) [3, 4, 5, 6, 1, 0] rfl ?_
            exact ih6 (k + 1) (acc + (frK 6 (m (20 + 2 * k + 1)) cold wind now m len c w s)) (by omega) (by first | assumption | rfl | omega) (by first | exact (congrArg (fun z => acc + z) hfz.symm).trans (frF_t hacc (by rw [hon]; assumption)) | (refine Eq.trans (Int32.add_zero _).symm (frF_f hacc (by rw [hon]; assumption))))
  refine z_sub (ls' := [(0, .ref i), (1, .int (nI c)), (2, .int w), (3, .int s), (4, .int 0), (5, .int 0)]) [2, 3, 4, 5, 1, 0] rfl ?_
  exact L6 _ 0 0 (Nat.lt_succ_self _) (by first | assumption | rfl | omega) (by rfl)
theorem pos_of {w : Int32} (h : ¬ w = 0) (h1 : 0 ≤ w.toInt) : ¬ w ≤ 0 := by
  rw [i_le, show (0 : Int32).toInt = 0 by decide]
  intro q
  exact h (eq0_of (by omega))
set_option maxHeartbeats 4000000 in
set_option maxRecDepth 100000 in
theorem c_leave {κ : Wc} {l : Launch} {h : Mm} {n : Nat} {i : Nat} {len : Nat} {m : Nat → Int32} {st : Nat → Int32} {w : Int32} {s : Int32} {now : Int32} {dd : Int32} {dr : Int32} {cc : Int32} {on : Int32} {cold : Int32} {wind : Int32} (K0 : h i = some (.inr (2, [.ref (i + 1), .ref (i + 2), .ref (i + 3), .ref (i + 4), .ref (i + 5), .int (nI len), .int now, .int dd, .int dr, .int cc, .int on, .int cold, .int wind]))) (K1 : h (i + 1) = arI κ 40 (win 100 40 m)) (K2 : h (i + 2) = arI κ 40 (win 140 40 m)) (K3 : h (i + 3) = arI κ 6 st) (q1 : m 1 = nI len) (q3 : len ≤ 40) (hd : m 2 = dd) (hr : m 3 = dr) (h8 : st 4 = m 8) (w1 : 0 ≤ w.toInt) (w2 : w.toInt ≤ 9999) (s1 : 0 ≤ s.toInt) : Con κ l yX2_leave cX2_leave 3 none 2 0 0 [.ref i, .int w, .int s] h n (fun q h' n' => q = none ∧ h' = va_up (va_up (va_up h i (some (.inr (2, [.ref (i + 1), .ref (i + 2), .ref (i + 3), .ref (i + 4), .ref (i + 5), .int (gbE len (m, w, s) 1), .int now, .int (gbE len (m, w, s) 2), .int (gbE len (m, w, s) 3), .int cc, .int on, .int cold, .int wind])))) (i + 1) (arI κ 40 (win 100 40 (gbE len (m, w, s))))) (i + 2) (arI κ 40 (win 140 40 (gbE len (m, w, s)))) ∧ n' = n) := by
  refine Con.of mk_X2_leave (Nat.le_of_ble_eq_true rfl) (fun G hG X E => ?_)
  subst hG
  refine z_ls (ls' := [(0, .ref i), (1, .int w), (2, .int s)]) rfl ?_
  refine z_iload_n X 1 dX2_leave_0 rfl ?_
  refine z_if_ne X 5 dX2_leave_1 (by decide) (fun zc1 => ?_) (fun zc1 => ?_)
  · refine z_iload_n X 1 dX2_leave_5 rfl ?_
    refine z_aload_n X 0 dX2_leave_6 rfl ?_
    refine z_get X fl_X2_18_2 dX2_leave_7 K0 rfl ?_
    refine z_iconst (v := 4) X dX2_leave_10 (by decide) ?_
    refine z_iald2 (v := st 4) X dX2_leave_11 K3 (vp_in_nI (n := 4) (by omega) (by omega)) (congrArg st (nI_clamp (n := 4) (by omega))) ?_
    refine z_icmp_ge X 24 dX2_leave_12 (by decide) (fun zc2 => ?_) (fun zc2 => ?_)
    · refine z_aload_n X 0 dX2_leave_24 rfl ?_
      refine z_dup X dX2_leave_25 rfl ?_
      refine z_get X fl_X2_52_2 dX2_leave_26 K0 rfl ?_
      refine z_iload_n X 1 dX2_leave_29 rfl ?_
      refine z_iadd X dX2_leave_30 ?_
      refine z_put X fp_X2_52_2 dX2_leave_31 K0 (by first | rfl | decide) (by first | rfl | decide) (Nat.le_of_ble_eq_true rfl) rfl ?_
      obtain ⟨zh3, ze4⟩ : ∃ z : Mm, z = va_up h i (some (.inr (2, [.ref (i + 1), .ref (i + 2), .ref (i + 3), .ref (i + 4), .ref (i + 5), .int (nI len), .int now, .int (dd + w), .int dr, .int cc, .int on, .int cold, .int wind]))) := ⟨_, rfl⟩
      refine z_heap (h' := zh3) ze4.symm ?_
      have zK5 := up_at ze4
      have zK6 := up_off ze4 (show i + 1 ≠ i by omega) K1
      have zK7 := up_off ze4 (show i + 2 ≠ i by omega) K2
      have zK8 := up_off ze4 (show i + 3 ≠ i by omega) K3
      refine z_aload_n X 0 dX2_leave_34 rfl ?_
      refine z_dup X dX2_leave_35 rfl ?_
      refine z_get X fl_X2_55_2 dX2_leave_36 zK5 rfl ?_
      refine z_iconst (v := 1) X dX2_leave_39 (by decide) ?_
      refine z_iadd X dX2_leave_40 ?_
      refine z_put X fp_X2_55_2 dX2_leave_41 zK5 (by first | rfl | decide) (by first | rfl | decide) (Nat.le_of_ble_eq_true rfl) rfl ?_
      obtain ⟨zh9, ze10⟩ : ∃ z : Mm, z = va_up zh3 i (some (.inr (2, [.ref (i + 1), .ref (i + 2), .ref (i + 3), .ref (i + 4), .ref (i + 5), .int (nI len), .int now, .int (dd + w), .int (dr + 1), .int cc, .int on, .int cold, .int wind]))) := ⟨_, rfl⟩
      refine z_heap (h' := zh9) ze10.symm ?_
      have zK11 := up_at ze10
      have zK12 := up_off ze10 (show i + 1 ≠ i by omega) zK6
      have zK13 := up_off ze10 (show i + 2 ≠ i by omega) zK7
      have zK14 := up_off ze10 (show i + 3 ≠ i by omega) zK8
      refine z_vret X E dX2_leave_44 (by omega) (by omega) ⟨?_, ?_, ?_⟩
      · rfl
      · (have hg : gbE len (m, w, s) = upd (upd m 2 (m 2 + w)) 3 (m 3 + 1) := gbE_b (pos_of (by assumption) w1) (by first | exact Or.inl (by rw [← h8]; assumption) | exact Or.inr (by omega))); rw [hg, show upd (upd m 2 (m 2 + w)) 3 (m 3 + 1) 1 = nI len from (pk_un (by omega)).trans ((pk_un (by omega)).trans q1), show upd (upd m 2 (m 2 + w)) 3 (m 3 + 1) 2 = dd + w from (pk_un (by omega)).trans (pk_us.trans (by rw [hd])), show upd (upd m 2 (m 2 + w)) 3 (m 3 + 1) 3 = dr + 1 from pk_us.trans (by rw [hr]), win_off (by omega), win_off (by omega), win_off (by omega), win_off (by omega)]; funext zz; by_cases zq2 : zz = i + 2; (rw [zq2, va_up_self]; exact zK13); by_cases zq1 : zz = i + 1; (rw [zq1, va_up_ne _ _ (show i + 1 ≠ i + 2 by omega), va_up_self]; exact zK12); by_cases zq0 : zz = i; (rw [zq0, va_up_ne _ _ (show i ≠ i + 2 by omega), va_up_ne _ _ (show i ≠ i + 1 by omega), va_up_self]; exact zK11); rw [va_up_ne _ _ zq2, va_up_ne _ _ zq1, va_up_ne _ _ zq0]; rw [ze10, ze4]; simp only [va_up, if_neg zq0, if_neg zq1, if_neg zq2]
      · rfl
    · refine z_aload_n X 0 dX2_leave_15 rfl ?_
      refine z_get X fl_X2_45_2 dX2_leave_16 K0 rfl ?_
      refine z_bipush (v := 40) X dX2_leave_19 (by decide) ?_
      refine z_icmp_lt X 45 dX2_leave_21 (by decide) (fun zc15 => ?_) (fun zc15 => ?_)
      · try replace zc15 := (nI_ltI (a := len) (b := 40) (by omega) (by omega)).mp zc15
        refine z_aload_n X 0 dX2_leave_45 rfl ?_
        refine z_get X fl_X2_9_2 dX2_leave_46 K0 rfl ?_
        refine z_aload_n X 0 dX2_leave_49 rfl ?_
        refine z_get X fl_X2_45_2 dX2_leave_50 K0 rfl ?_
        refine z_iload_n X 1 dX2_leave_53 rfl ?_
        refine z_ldc X dX2_leave_54 wd_611 ?_
        refine z_mmin X dX2_leave_56 wd_464 wd_296 wd_63 wd_297 (Nat.le_of_ble_eq_true rfl) (Nat.le_of_ble_eq_true rfl) (Nat.le_of_ble_eq_true rfl) (Nat.le_of_ble_eq_true rfl) ?_
        refine z_toe (y := w) (by (rw [if_neg]; rw [i_lt, show (99999 : Int32).toInt = 99999 by decide]; omega)) ?_
        refine z_iast X dX2_leave_59 K1 (vp_in_nI (n := len) (by omega) (by omega)) (congrArg (fun z => va_up h (i + 1) (arI κ 40 (upd (win 100 40 m) z w))) (nI_clamp (n := len) (by omega))) ?_
        obtain ⟨zh16, ze17⟩ : ∃ z : Mm, z = va_up h (i + 1) (arI κ 40 (upd (win 100 40 m) len w)) := ⟨_, rfl⟩
        refine z_heap (h' := zh16) ze17.symm ?_
        have zK18 := up_off ze17 (show i ≠ i + 1 by omega) K0
        have zK19 := up_at ze17
        have zK20 := up_off ze17 (show i + 2 ≠ i + 1 by omega) K2
        have zK21 := up_off ze17 (show i + 3 ≠ i + 1 by omega) K3
        refine z_aload_n X 0 dX2_leave_60 rfl ?_
        refine z_get X fl_X2_15_2 dX2_leave_61 zK18 rfl ?_
        refine z_aload_n X 0 dX2_leave_64 rfl ?_
        refine z_get X fl_X2_45_2 dX2_leave_65 zK18 rfl ?_
        refine z_iload_n X 2 dX2_leave_68 rfl ?_
        refine z_ldc X dX2_leave_69 wd_612 ?_
        refine z_mmin X dX2_leave_71 wd_464 wd_296 wd_63 wd_297 (Nat.le_of_ble_eq_true rfl) (Nat.le_of_ble_eq_true rfl) (Nat.le_of_ble_eq_true rfl) (Nat.le_of_ble_eq_true rfl) ?_
        refine z_toe (y := held s 0 999999) (min_held s1 (by decide)) ?_
        refine z_iast X dX2_leave_74 zK20 (vp_in_nI (n := len) (by omega) (by omega)) (congrArg (fun z => va_up zh16 (i + 2) (arI κ 40 (upd (win 140 40 m) z (held s 0 999999)))) (nI_clamp (n := len) (by omega))) ?_
        obtain ⟨zh22, ze23⟩ : ∃ z : Mm, z = va_up zh16 (i + 2) (arI κ 40 (upd (win 140 40 m) len (held s 0 999999))) := ⟨_, rfl⟩
        refine z_heap (h' := zh22) ze23.symm ?_
        have zK24 := up_off ze23 (show i ≠ i + 2 by omega) zK18
        have zK25 := up_off ze23 (show i + 1 ≠ i + 2 by omega) zK19
        have zK26 := up_at ze23
        have zK27 := up_off ze23 (show i + 3 ≠ i + 2 by omega) zK21
        refine z_aload_n X 0 dX2_leave_75 rfl ?_
        refine z_dup X dX2_leave_76 rfl ?_
        refine z_get X fl_X2_45_2 dX2_leave_77 zK24 rfl ?_
        refine z_iconst (v := 1) X dX2_leave_80 (by decide) ?_
        refine z_iadd X dX2_leave_81 ?_
        refine z_toe (y := nI (len + 1)) (nI_add (len) (1)) ?_
        refine z_put X fp_X2_45_2 dX2_leave_82 zK24 (by first | rfl | decide) (by first | rfl | decide) (Nat.le_of_ble_eq_true rfl) rfl ?_
        obtain ⟨zh28, ze29⟩ : ∃ z : Mm, z = va_up zh22 i (some (.inr (2, [.ref (i + 1), .ref (i + 2), .ref (i + 3), .ref (i + 4), .ref (i + 5), .int (nI (len + 1)), .int now, .int dd, .int dr, .int cc, .int on, .int cold, .int wind]))) := ⟨_, rfl⟩
        refine z_heap (h' := zh28) ze29.symm ?_
        have zK30 := up_at ze29
        have zK31 := up_off ze29 (show i + 1 ≠ i by omega) zK25
        have zK32 := up_off ze29 (show i + 2 ≠ i by omega) zK26
        have zK33 := up_off ze29 (show i + 3 ≠ i by omega) zK27
        refine z_vret X E dX2_leave_85 (by omega) (by omega) ⟨?_, ?_, ?_⟩
        · rfl
        · (have hg : gbE len (m, w, s) = upd (upd (upd m (100 + len) w) (140 + len) (held s 0 999999)) 1 (nI (len + 1)) := gbE_a (pos_of (by assumption) w1) (by rw [← h8]; assumption) (by omega)); rw [hg, show (upd (upd (upd m (100 + len) w) (140 + len) (held s 0 999999)) 1 (nI (len + 1))) 1 = nI (len + 1) from pk_us, show (upd (upd (upd m (100 + len) w) (140 + len) (held s 0 999999)) 1 (nI (len + 1))) 2 = dd from (pk_un (by omega)).trans ((pk_un (by omega)).trans ((pk_un (by omega)).trans hd)), show (upd (upd (upd m (100 + len) w) (140 + len) (held s 0 999999)) 1 (nI (len + 1))) 3 = dr from (pk_un (by omega)).trans ((pk_un (by omega)).trans ((pk_un (by omega)).trans hr)), win_off (b := 100) (q := 1) (by omega), win_off (b := 100) (q := 140 + len) (by omega), win_us (b := 100) (by omega), win_off (b := 140) (q := 1) (by omega), win_us (b := 140) (by omega), win_off (b := 140) (q := 100 + len) (by omega)]; funext zz; by_cases zq2 : zz = i + 2; (rw [zq2, va_up_self]; exact zK32); by_cases zq1 : zz = i + 1; (rw [zq1, va_up_ne _ _ (show i + 1 ≠ i + 2 by omega), va_up_self]; exact zK31); by_cases zq0 : zz = i; (rw [zq0, va_up_ne _ _ (show i ≠ i + 2 by omega), va_up_ne _ _ (show i ≠ i + 1 by omega), va_up_self]; exact zK30); rw [va_up_ne _ _ zq2, va_up_ne _ _ zq1, va_up_ne _ _ zq0]; rw [ze29, ze23, ze17]; simp only [va_up, if_neg zq0, if_neg zq1, if_neg zq2]
        · rfl
      · try replace zc15 := mt (nI_ltI (a := len) (b := 40) (by omega) (by omega)).mpr zc15
        refine z_aload_n X 0 dX2_leave_24 rfl ?_
        refine z_dup X dX2_leave_25 rfl ?_
        refine z_get X fl_X2_52_2 dX2_leave_26 K0 rfl ?_
        refine z_iload_n X 1 dX2_leave_29 rfl ?_
        refine z_iadd X dX2_leave_30 ?_
        refine z_put X fp_X2_52_2 dX2_leave_31 K0 (by first | rfl | decide) (by first | rfl | decide) (Nat.le_of_ble_eq_true rfl) rfl ?_
        obtain ⟨zh34, ze35⟩ : ∃ z : Mm, z = va_up h i (some (.inr (2, [.ref (i + 1), .ref (i + 2), .ref (i + 3), .ref (i + 4), .ref (i + 5), .int (nI len), .int now, .int (dd + w), .int dr, .int cc, .int on, .int cold, .int wind]))) := ⟨_, rfl⟩
        refine z_heap (h' := zh34) ze35.symm ?_
        have zK36 := up_at ze35
        have zK37 := up_off ze35 (show i + 1 ≠ i by omega) K1
        have zK38 := up_off ze35 (show i + 2 ≠ i by omega) K2
        have zK39 := up_off ze35 (show i + 3 ≠ i by omega) K3
        refine z_aload_n X 0 dX2_leave_34 rfl ?_
        refine z_dup X dX2_leave_35 rfl ?_
        refine z_get X fl_X2_55_2 dX2_leave_36 zK36 rfl ?_
        refine z_iconst (v := 1) X dX2_leave_39 (by decide) ?_
        refine z_iadd X dX2_leave_40 ?_
        refine z_put X fp_X2_55_2 dX2_leave_41 zK36 (by first | rfl | decide) (by first | rfl | decide) (Nat.le_of_ble_eq_true rfl) rfl ?_
        obtain ⟨zh40, ze41⟩ : ∃ z : Mm, z = va_up zh34 i (some (.inr (2, [.ref (i + 1), .ref (i + 2), .ref (i + 3), .ref (i + 4), .ref (i + 5), .int (nI len), .int now, .int (dd + w), .int (dr + 1), .int cc, .int on, .int cold, .int wind]))) := ⟨_, rfl⟩
        refine z_heap (h' := zh40) ze41.symm ?_
        have zK42 := up_at ze41
        have zK43 := up_off ze41 (show i + 1 ≠ i by omega) zK37
        have zK44 := up_off ze41 (show i + 2 ≠ i by omega) zK38
        have zK45 := up_off ze41 (show i + 3 ≠ i by omega) zK39
        refine z_vret X E dX2_leave_44 (by omega) (by omega) ⟨?_, ?_, ?_⟩
        · rfl
        · (have hg : gbE len (m, w, s) = upd (upd m 2 (m 2 + w)) 3 (m 3 + 1) := gbE_b (pos_of (by assumption) w1) (by first | exact Or.inl (by rw [← h8]; assumption) | exact Or.inr (by omega))); rw [hg, show upd (upd m 2 (m 2 + w)) 3 (m 3 + 1) 1 = nI len from (pk_un (by omega)).trans ((pk_un (by omega)).trans q1), show upd (upd m 2 (m 2 + w)) 3 (m 3 + 1) 2 = dd + w from (pk_un (by omega)).trans (pk_us.trans (by rw [hd])), show upd (upd m 2 (m 2 + w)) 3 (m 3 + 1) 3 = dr + 1 from pk_us.trans (by rw [hr]), win_off (by omega), win_off (by omega), win_off (by omega), win_off (by omega)]; funext zz; by_cases zq2 : zz = i + 2; (rw [zq2, va_up_self]; exact zK44); by_cases zq1 : zz = i + 1; (rw [zq1, va_up_ne _ _ (show i + 1 ≠ i + 2 by omega), va_up_self]; exact zK43); by_cases zq0 : zz = i; (rw [zq0, va_up_ne _ _ (show i ≠ i + 2 by omega), va_up_ne _ _ (show i ≠ i + 1 by omega), va_up_self]; exact zK42); rw [va_up_ne _ _ zq2, va_up_ne _ _ zq1, va_up_ne _ _ zq0]; rw [ze41, ze35]; simp only [va_up, if_neg zq0, if_neg zq1, if_neg zq2]
        · rfl
  · refine z_vret X E dX2_leave_4 (by omega) (by omega) ⟨?_, ?_, ?_⟩
    · rfl
    · (have hg : gbE len (m, w, s) = m := gbE_c (by rw [(by assumption : w = 0)]; decide)); rw [hg, q1, hd, hr]; funext zz; by_cases zq2 : zz = i + 2; (rw [zq2, va_up_self]; exact K2); by_cases zq1 : zz = i + 1; (rw [zq1, va_up_ne _ _ (show i + 1 ≠ i + 2 by omega), va_up_self]; exact K1); by_cases zq0 : zz = i; (rw [zq0, va_up_ne _ _ (show i ≠ i + 2 by omega), va_up_ne _ _ (show i ≠ i + 1 by omega), va_up_self]; exact K0); rw [va_up_ne _ _ zq2, va_up_ne _ _ zq1, va_up_ne _ _ zq0]
    · rfl
