theorem z_copyT {κ : Wc} {G : Gm} {cc : ByteArray} {nL d mc ms : Nat} {own : String} {pc : Nat} {ls : Lc} {st : List Value} {h : Mm} {n ca sl : Nat} (X : Ok κ G cc nL own d mc ms) {idx a a0 n0 n1 : Nat} {nm : String} {f g : Nat → Int32} {sp dp z : Int32} (j : Nat) (hj : (stL κ)[j]? = some (nm, a0, n0, fun k => .int (f k))) (hd : decode cc pc = .ok (.invokestatic idx, 3)) (hlk : Cond.methodLink own idx arraycopyName ∈ gtbl) (w1 : Cond.native arraycopyName ∈ gtbl) (w2 : Cond.static arraycopyName ∈ gtbl) (w3 : Cond.initialized "java/lang/System" ∈ gtbl) (he1 : h a = some (.inl (κ.2.1 0, n1, .inl g))) (h1 : ¬ sp < 0) (h2 : ¬ dp < 0) (h3 : ¬ z < 0) (h4 : sp.toNatClampNeg + z.toNatClampNeg ≤ n0) (h5 : dp.toNatClampNeg + z.toNatClampNeg ≤ n1) (hdd : 1 ≤ d) (hrm : (st.map fun v => v.category).sum ≤ 8) {h' : Mm} (hh : va_up h a (some (.inl (κ.2.1 0, n1, .inl (va_cpy f g sp.toNatClampNeg dp.toNatClampNeg z.toNatClampNeg)))) = h') (kk : Z κ G nL (pc + 3) ls st h' n ca sl) : Z κ G nL pc ls (.int z :: .int dp :: .ref a :: .int sp :: .ref a0 :: st) h n ca sl := by
  subst hh
  obtain ⟨p, l, e, R, s, m, args, below, meth, c, Q⟩ := G
  obtain ⟨hx, hb, hml, hown, hts, hK, hB, hR1, hR2, hR3, hR4⟩ := X
  intro H locs la hF hS hl
  have nn : ∀ z : Int32, ¬ z < 0 → z.toInt = (z.toNatClampNeg : Int) := by
    intro z hz
    have hz0 : (0 : Int) ≤ z.toInt := by
      have := Int32.not_lt.mp hz
      simpa using Int32.le_iff_toInt_le.mp this
    show z.toInt = ((z.toInt.toNat : Nat) : Int)
    omega
  intro T hT Y
  obtain ⟨scr, hs1, hs2, hs3, hs4, -, hs5, hs7⟩ := (hK.2.2.2.2 _ (List.mem_of_getElem? hj)).2
  have hbl : a0 < s.heap.size := (Array.getElem?_eq_some_iff.mp hs1).1
  have hc0 : H[a0]? = some scr := by rw [hS.2.1 a0 hbl hs7]; exact hs1
  obtain ⟨hB1, hc1⟩ := hF.2.2 a _ he1
  have hc1 : H[a]? = some (vp_cell (κ.2.1 0) (n1, .inl g)) := hc1
  obtain ⟨hs6, k0, hk0, cm0, hkk0⟩ := hs2
  obtain ⟨-, k1, hk1, cm1, hkk1⟩ := (hK.1.2 0 (κ.2.1 0, .int) rfl).1 n1 (fun j => .int (g j))
  have hlo : (st.map fun v => v.category).sum + (nativeFrameWords "java/lang/System" "arraycopy" 5 + 11) ≤ R.locals := by
    have e0 : nativeFrameWords "java/lang/System" "arraycopy" 5 ≤ 40 := by decide +kernel
    omega
  obtain ⟨vm', Y', step⟩ := Y.arraycopy hx hown (hts _ hlk) (hts _ w1) (hts _ w2) (hts _ w3) (src := a0) (dst := a) (cs := scr) (cd := vp_cell (κ.2.1 0) (n1, .inl g)) (srcPos := sp) (destPos := dp) (n := z) (by rw [hT]; exact hc0) (by rw [hT]; exact hc1)
    hs6 (fun _ h => by cases h) hs3 (fun h => by cases h) hk0 hk1 hkk0 hkk1 (by simp [refKind]) h1 h2 h3
    (by rw [nn sp h1, nn z h3]; have hs4 : n0 ≤ scr.slots.size := hs4; omega)
    (by rw [nn dp h2, nn z h3]; show ¬ _ > ((arrV (κ.2.1 0) n1 (fun j => .int (g j))).slots.size : Int); rw [arrV_size]; omega)
    (fun vm₁ _ i hi => by
      have e : scr.slots.getD (sp.toNatClampNeg + i) .null = .int (f (sp.toNatClampNeg + i)) := by
        rw [Array.getD_eq_getD_getElem?, hs5 _ (by show _ < n0; omega)]
        rfl
      refine ⟨?_, ?_⟩
      · rw [e]
        rfl
      · rw [e]
        exact trivial)
    (g := F0 m pc la (.int z :: .int dp :: .ref a :: .int sp :: .ref a0 :: st)) rfl (by rw [hml]; exact hl.1) (rest := st) rfl (by rw [hb]; exact hd) (Nat.le_trans hdd hR1) (by show 2 * 0 + _ + _ ≤ _; omega)
  have e1 : copied scr (vp_cell (κ.2.1 0) (n1, .inl g)) sp dp z = vp_cell (κ.2.1 0) (n1, .inl (va_cpy f g sp.toNatClampNeg dp.toNatClampNeg z.toNatClampNeg)) := va_copiedX (fun z => .int z) scr (κ.2.1 0) f g hs5 h4
  rw [e1] at Y' step
  have hla : a < H.size := (Array.getElem?_eq_some_iff.mp hc1).1
  have hheap : ((T.setVm vm').setCell a (vp_cell (κ.2.1 0) (n1, .inl (va_cpy f g sp.toNatClampNeg dp.toNatClampNeg z.toNatClampNeg)))).heap = H.setIfInBounds a (vp_cell (κ.2.1 0) (n1, .inl (va_cpy f g sp.toNatClampNeg dp.toNatClampNeg z.toNatClampNeg))) := by rw [← hT]; rfl
  have oq : ∀ q : Nat, q ≠ a → (H.setIfInBounds a (vp_cell (κ.2.1 0) (n1, .inl (va_cpy f g sp.toNatClampNeg dp.toNatClampNeg z.toNatClampNeg))))[q]? = H[q]? := fun q hq => by simp [Array.getElem?_setIfInBounds, Ne.symm hq]
  obtain ⟨t, a1, b1⟩ := kk _ _ la (hF.put he1 (show (H.setIfInBounds a _)[a]? = some _ by simp [Array.getElem?_setIfInBounds, hla]) (by simp) oq) ⟨by simp; exact hS.1, fun q g1 g2 => by
      rw [oq q (fun e => g2 (by rw [e]; exact hB1))]
      exact hS.2.1 q g1 g2, fun q hq => by
      rcases List.mem_append.mp hq with h | h
      · exact hS.2.2 q h
      · obtain ⟨z, -, hz⟩ := List.mem_map.mp h
        rw [← hz]
        exact hB1⟩ hl _ hheap Y'
  exact ⟨t, step t a1, b1⟩
def st1 : Nat → Int32 := fun k => [200, 0, 20, 0, 50, 100000].getD k 0
theorem ini_w : upd (fun _ => 0) 0 10 = win 100 40 dIni := by
  funext k
  unfold win
  by_cases h : k < 40
  · rw [if_pos h]
    by_cases h0 : k = 0
    · subst h0
      rfl
    · rw [pk_un h0]
      unfold dIni
      rw [pk_un (by omega), pk_un (by omega), pk_un (by omega), pk_un (by omega), pk_un (by omega), pk_un (by omega), pk_un (by omega)]
  · rw [if_neg h, pk_un (by omega)]
theorem ini_s : upd (fun _ => 0) 0 0 = win 140 40 dIni := by
  funext k
  unfold win dIni
  rw [pk_un (show 140 + k ≠ 13 by omega), pk_un (show 140 + k ≠ 9 by omega), pk_un (show 140 + k ≠ 8 by omega), pk_un (show 140 + k ≠ 6 by omega), pk_un (show 140 + k ≠ 4 by omega), pk_un (show 140 + k ≠ 100 by omega), pk_un (show 140 + k ≠ 1 by omega)]
  by_cases h0 : k = 0
  · subst h0
    rfl
  · rw [pk_un h0]
    split <;> rfl
theorem ini_t : va_cpy st1 (fun _ => 0) 0 0 6 = win 4 6 dIni := by
  funext k
  by_cases h : k < 6
  · have h6 : k = 0 ∨ k = 1 ∨ k = 2 ∨ k = 3 ∨ k = 4 ∨ k = 5 := by omega
    rcases h6 with rfl | rfl | rfl | rfl | rfl | rfl <;> decide
  · unfold win
    rw [if_neg h]
    unfold va_cpy
    rw [if_neg (by omega)]
set_option maxHeartbeats 4000000 in
set_option maxRecDepth 100000 in
theorem c_Icicle_init {κ : Wc} {l : Launch} {h : Mm} {i : Nat} (K0 : h i = some (.inr (2, [.null, .null, .null, .null, .null, .int 0, .int 0, .int 0, .int 0, .int 0, .int 0, .int 0, .int 0])))  : Con κ l yX2_init cX2_init 1 none 2 5 94 [.ref i] h (i + 1) (fun q h' n' => q = none ∧ n' = i + 6 ∧ (∀ zq : Nat, zq < i → h' zq = h zq) ∧ h' i = some (.inr (2, [.ref (i + 1), .ref (i + 2), .ref (i + 3), .ref (i + 4), .ref (i + 5), .int (nI 1), .int (dIni 0), .int (dIni 2), .int (dIni 3), .int (nI 0), .int (dIni 10), .int 0, .int 0])) ∧ h' (i + 1) = arI κ 40 (win 100 40 dIni) ∧ h' (i + 2) = arI κ 40 (win 140 40 dIni) ∧ h' (i + 3) = arI κ 6 (win 4 6 dIni) ∧ h' (i + 4) = arR κ 1 6 (fun _ => none) ∧ h' (i + 5) = arR κ 2 2 (fun _ => none)) := by
  refine Con.of mk_X2_init (Nat.le_of_ble_eq_true rfl) (fun G hG X E => ?_)
  subst hG
  refine z_ls (ls' := [(0, .ref i)]) rfl ?_
  refine z_aload_n X 0 dX2_init_0 rfl ?_
  refine z_objInit X dX2_init_1 wd_93 wd_80 wd_81 (Nat.le_of_ble_eq_true rfl) (Nat.le_of_ble_eq_true rfl) ?_
  refine z_aload_n X 0 dX2_init_4 rfl ?_
  refine z_bipush (v := 40) X dX2_init_5 (by decide) ?_
  refine z_newa (N := 40) X dX2_init_7 wd_165 (by decide) (by decide) (by omega) (by omega) (by omega) ?_
  obtain ⟨zh1, ze2⟩ : ∃ z : Mm, z = va_up h (i + 1) (arI κ 40 (fun _ => 0)) := ⟨_, rfl⟩
  refine z_heap (h' := zh1) ze2.symm ?_
  have zK3 := up_off ze2 (show i ≠ i + 1 by omega) K0
  have zK4 := up_at ze2
  have zl5 : ∀ zq : Nat, zq < i → zh1 zq = h zq := by intro zq hzq; rw [ze2, va_up_ne _ _ (show zq ≠ i + 1 by omega)]; try rfl
  refine z_putF X E fp_X2_9_2 dX2_init_9 zK3 (by first | rfl | decide) (by first | rfl | decide) (Nat.le_of_ble_eq_true rfl) rfl ?_
  obtain ⟨zh6, ze7⟩ : ∃ z : Mm, z = va_up zh1 i (some (.inr (2, [.ref (i + 1), .null, .null, .null, .null, .int 0, .int 0, .int 0, .int 0, .int 0, .int 0, .int 0, .int 0]))) := ⟨_, rfl⟩
  refine z_heap (h' := zh6) ze7.symm ?_
  have zK8 := up_at ze7
  have zK9 := up_off ze7 (show i + 1 ≠ i by omega) zK4
  have zl10 : ∀ zq : Nat, zq < i → zh6 zq = h zq := by intro zq hzq; rw [ze7, va_up_ne _ _ (show zq ≠ i by omega)]; exact zl5 zq hzq
  refine z_aload_n X 0 dX2_init_12 rfl ?_
  refine z_bipush (v := 40) X dX2_init_13 (by decide) ?_
  refine z_newa (N := 40) X dX2_init_15 wd_165 (by decide) (by decide) (by omega) (by omega) (by omega) ?_
  obtain ⟨zh11, ze12⟩ : ∃ z : Mm, z = va_up zh6 (i + 2) (arI κ 40 (fun _ => 0)) := ⟨_, rfl⟩
  refine z_heap (h' := zh11) ze12.symm ?_
  have zK13 := up_off ze12 (show i ≠ i + 2 by omega) zK8
  have zK14 := up_off ze12 (show i + 1 ≠ i + 2 by omega) zK9
  have zK15 := up_at ze12
  have zl16 : ∀ zq : Nat, zq < i → zh11 zq = h zq := by intro zq hzq; rw [ze12, va_up_ne _ _ (show zq ≠ i + 2 by omega)]; exact zl10 zq hzq
  refine z_putF X E fp_X2_15_2 dX2_init_17 zK13 (by first | rfl | decide) (by first | rfl | decide) (Nat.le_of_ble_eq_true rfl) rfl ?_
  obtain ⟨zh17, ze18⟩ : ∃ z : Mm, z = va_up zh11 i (some (.inr (2, [.ref (i + 1), .ref (i + 2), .null, .null, .null, .int 0, .int 0, .int 0, .int 0, .int 0, .int 0, .int 0, .int 0]))) := ⟨_, rfl⟩
  refine z_heap (h' := zh17) ze18.symm ?_
  have zK19 := up_at ze18
  have zK20 := up_off ze18 (show i + 1 ≠ i by omega) zK14
  have zK21 := up_off ze18 (show i + 2 ≠ i by omega) zK15
  have zl22 : ∀ zq : Nat, zq < i → zh17 zq = h zq := by intro zq hzq; rw [ze18, va_up_ne _ _ (show zq ≠ i by omega)]; exact zl16 zq hzq
  refine z_aload_n X 0 dX2_init_20 rfl ?_
  refine z_bipush (v := 6) X dX2_init_21 (by decide) ?_
  refine z_newa (N := 6) X dX2_init_23 wd_165 (by decide) (by decide) (by omega) (by omega) (by omega) ?_
  obtain ⟨zh23, ze24⟩ : ∃ z : Mm, z = va_up zh17 (i + 3) (arI κ 6 (fun _ => 0)) := ⟨_, rfl⟩
  refine z_heap (h' := zh23) ze24.symm ?_
  have zK25 := up_off ze24 (show i ≠ i + 3 by omega) zK19
  have zK26 := up_off ze24 (show i + 1 ≠ i + 3 by omega) zK20
  have zK27 := up_off ze24 (show i + 2 ≠ i + 3 by omega) zK21
  have zK28 := up_at ze24
  have zl29 : ∀ zq : Nat, zq < i → zh23 zq = h zq := by intro zq hzq; rw [ze24, va_up_ne _ _ (show zq ≠ i + 3 by omega)]; exact zl22 zq hzq
  refine z_putF X E fp_X2_18_2 dX2_init_25 zK25 (by first | rfl | decide) (by first | rfl | decide) (Nat.le_of_ble_eq_true rfl) rfl ?_
  obtain ⟨zh30, ze31⟩ : ∃ z : Mm, z = va_up zh23 i (some (.inr (2, [.ref (i + 1), .ref (i + 2), .ref (i + 3), .null, .null, .int 0, .int 0, .int 0, .int 0, .int 0, .int 0, .int 0, .int 0]))) := ⟨_, rfl⟩
  refine z_heap (h' := zh30) ze31.symm ?_
  have zK32 := up_at ze31
  have zK33 := up_off ze31 (show i + 1 ≠ i by omega) zK26
  have zK34 := up_off ze31 (show i + 2 ≠ i by omega) zK27
  have zK35 := up_off ze31 (show i + 3 ≠ i by omega) zK28
  have zl36 : ∀ zq : Nat, zq < i → zh30 zq = h zq := by intro zq hzq; rw [ze31, va_up_ne _ _ (show zq ≠ i by omega)]; exact zl29 zq hzq
  refine z_aload_n X 0 dX2_init_28 rfl ?_
  refine z_bipush (v := 6) X dX2_init_29 (by decide) ?_
  refine z_newq (t := 1) (N := 6) X dX2_init_31 wd_94 (by decide) rfl (by decide) (by decide) (by omega) (by omega) (by omega) ?_
  obtain ⟨zh37, ze38⟩ : ∃ z : Mm, z = va_up zh30 (i + 4) (arR κ 1 6 (fun _ => none)) := ⟨_, rfl⟩
  refine z_heap (h' := zh37) ze38.symm ?_
  have zK39 := up_off ze38 (show i ≠ i + 4 by omega) zK32
  have zK40 := up_off ze38 (show i + 1 ≠ i + 4 by omega) zK33
  have zK41 := up_off ze38 (show i + 2 ≠ i + 4 by omega) zK34
  have zK42 := up_off ze38 (show i + 3 ≠ i + 4 by omega) zK35
  have zK43 := up_at ze38
  have zl44 : ∀ zq : Nat, zq < i → zh37 zq = h zq := by intro zq hzq; rw [ze38, va_up_ne _ _ (show zq ≠ i + 4 by omega)]; exact zl36 zq hzq
  refine z_putF X E fp_X2_23_2 dX2_init_34 zK39 (by first | rfl | decide) (by first | rfl | decide) (Nat.le_of_ble_eq_true rfl) rfl ?_
  obtain ⟨zh45, ze46⟩ : ∃ z : Mm, z = va_up zh37 i (some (.inr (2, [.ref (i + 1), .ref (i + 2), .ref (i + 3), .ref (i + 4), .null, .int 0, .int 0, .int 0, .int 0, .int 0, .int 0, .int 0, .int 0]))) := ⟨_, rfl⟩
  refine z_heap (h' := zh45) ze46.symm ?_
  have zK47 := up_at ze46
  have zK48 := up_off ze46 (show i + 1 ≠ i by omega) zK40
  have zK49 := up_off ze46 (show i + 2 ≠ i by omega) zK41
  have zK50 := up_off ze46 (show i + 3 ≠ i by omega) zK42
  have zK51 := up_off ze46 (show i + 4 ≠ i by omega) zK43
  have zl52 : ∀ zq : Nat, zq < i → zh45 zq = h zq := by intro zq hzq; rw [ze46, va_up_ne _ _ (show zq ≠ i by omega)]; exact zl44 zq hzq
  refine z_aload_n X 0 dX2_init_37 rfl ?_
  refine z_iconst (v := 2) X dX2_init_38 (by decide) ?_
  refine z_newq (t := 2) (N := 2) X dX2_init_39 wd_96 (by decide) rfl (by decide) (by decide) (by omega) (by omega) (by omega) ?_
  obtain ⟨zh53, ze54⟩ : ∃ z : Mm, z = va_up zh45 (i + 5) (arR κ 2 2 (fun _ => none)) := ⟨_, rfl⟩
  refine z_heap (h' := zh53) ze54.symm ?_
  have zK55 := up_off ze54 (show i ≠ i + 5 by omega) zK47
  have zK56 := up_off ze54 (show i + 1 ≠ i + 5 by omega) zK48
  have zK57 := up_off ze54 (show i + 2 ≠ i + 5 by omega) zK49
  have zK58 := up_off ze54 (show i + 3 ≠ i + 5 by omega) zK50
  have zK59 := up_off ze54 (show i + 4 ≠ i + 5 by omega) zK51
  have zK60 := up_at ze54
  have zl61 : ∀ zq : Nat, zq < i → zh53 zq = h zq := by intro zq hzq; rw [ze54, va_up_ne _ _ (show zq ≠ i + 5 by omega)]; exact zl52 zq hzq
  refine z_putF X E fp_X2_29_2 dX2_init_42 zK55 (by first | rfl | decide) (by first | rfl | decide) (Nat.le_of_ble_eq_true rfl) rfl ?_
  obtain ⟨zh62, ze63⟩ : ∃ z : Mm, z = va_up zh53 i (some (.inr (2, [.ref (i + 1), .ref (i + 2), .ref (i + 3), .ref (i + 4), .ref (i + 5), .int 0, .int 0, .int 0, .int 0, .int 0, .int 0, .int 0, .int 0]))) := ⟨_, rfl⟩
  refine z_heap (h' := zh62) ze63.symm ?_
  have zK64 := up_at ze63
  have zK65 := up_off ze63 (show i + 1 ≠ i by omega) zK56
  have zK66 := up_off ze63 (show i + 2 ≠ i by omega) zK57
  have zK67 := up_off ze63 (show i + 3 ≠ i by omega) zK58
  have zK68 := up_off ze63 (show i + 4 ≠ i by omega) zK59
  have zK69 := up_off ze63 (show i + 5 ≠ i by omega) zK60
  have zl70 : ∀ zq : Nat, zq < i → zh62 zq = h zq := by intro zq hzq; rw [ze63, va_up_ne _ _ (show zq ≠ i by omega)]; exact zl61 zq hzq
  refine z_getsN (host := "IcicleRings") X 2 rfl dX2_init_45 (by decide +kernel) ?_
  refine z_iconst (v := 0) X dX2_init_48 (by decide) ?_
  refine z_aload_n X 0 dX2_init_49 rfl ?_
  refine z_get X fl_X2_18_2 dX2_init_50 zK64 rfl ?_
  refine z_iconst (v := 0) X dX2_init_53 (by decide) ?_
  refine z_bipush (v := 6) X dX2_init_54 (by decide) ?_
  refine z_copyT (f := st1) X 2 rfl dX2_init_56 wd_100 wd_102 wd_101 wd_61 zK67 (by decide) (by decide) (by decide) (by decide) (by decide) (Nat.le_of_ble_eq_true rfl) (Nat.le_of_ble_eq_true rfl) (congrArg (fun z => va_up _ _ (arI κ 6 z)) ini_t) ?_
  obtain ⟨zh71, ze72⟩ : ∃ z : Mm, z = va_up zh62 (i + 3) (arI κ 6 (win 4 6 dIni)) := ⟨_, rfl⟩
  refine z_heap (h' := zh71) ze72.symm ?_
  have zK73 := up_off ze72 (show i ≠ i + 3 by omega) zK64
  have zK74 := up_off ze72 (show i + 1 ≠ i + 3 by omega) zK65
  have zK75 := up_off ze72 (show i + 2 ≠ i + 3 by omega) zK66
  have zK76 := up_at ze72
  have zK77 := up_off ze72 (show i + 4 ≠ i + 3 by omega) zK68
  have zK78 := up_off ze72 (show i + 5 ≠ i + 3 by omega) zK69
  have zl79 : ∀ zq : Nat, zq < i → zh71 zq = h zq := by intro zq hzq; rw [ze72, va_up_ne _ _ (show zq ≠ i + 3 by omega)]; exact zl70 zq hzq
  refine z_aload_n X 0 dX2_init_59 rfl ?_
  refine z_callV X (c_begin (κ := κ) (n := i + 6) (i := (i)) (f := (fun _ => 0)) (g := (fun _ => 0)) (len := (0)) (now := (0)) (dd := (0)) (dr := (0)) (cc := (0)) (on := (0)) (cold := (0)) (wind := (0)) zK73 zK74 zK75 ) mk_X2_begin dX2_init_60 wd_103 wd_104 wd_105 rfl zK73 rfl rfl rfl (Nat.le_of_ble_eq_true rfl) (Nat.le_of_ble_eq_true rfl) (Nat.le_of_ble_eq_true rfl) (by omega) (by omega) (fun q zh80 zm82 zp83 => ?_)
  obtain ⟨rfl, ze81, zn84⟩ := zp83
  subst zm82
  refine z_st (st' := []) rfl ?_
  have zK85 : zh80 i = some (.inr (2, [.ref (i + 1), .ref (i + 2), .ref (i + 3), .ref (i + 4), .ref (i + 5), .int 1, .int 0, .int 0, .int 0, .int 0, .int 0, .int 0, .int 0])) := by rw [ze81]; rw [va_up_ne _ _ (show i ≠ i + 2 by omega)]; rw [va_up_ne _ _ (show i ≠ i + 1 by omega)]; exact va_up_self _ _ _
  have zK86 : zh80 (i + 1) = arI κ 40 (upd (fun _ => 0) 0 10) := by rw [ze81]; rw [va_up_ne _ _ (show i + 1 ≠ i + 2 by omega)]; exact va_up_self _ _ _
  have zK87 : zh80 (i + 2) = arI κ 40 (upd (fun _ => 0) 0 0) := by rw [ze81]; exact va_up_self _ _ _
  have zK88 : zh80 (i + 3) = arI κ 6 (win 4 6 dIni) := by rw [ze81]; rw [va_up_ne _ _ (show i + 3 ≠ i + 2 by omega)]; rw [va_up_ne _ _ (show i + 3 ≠ i + 1 by omega)]; rw [va_up_ne _ _ (show i + 3 ≠ i by omega)]; exact zK76
  have zK89 : zh80 (i + 4) = arR κ 1 6 (fun _ => none) := by rw [ze81]; rw [va_up_ne _ _ (show i + 4 ≠ i + 2 by omega)]; rw [va_up_ne _ _ (show i + 4 ≠ i + 1 by omega)]; rw [va_up_ne _ _ (show i + 4 ≠ i by omega)]; exact zK77
  have zK90 : zh80 (i + 5) = arR κ 2 2 (fun _ => none) := by rw [ze81]; rw [va_up_ne _ _ (show i + 5 ≠ i + 2 by omega)]; rw [va_up_ne _ _ (show i + 5 ≠ i + 1 by omega)]; rw [va_up_ne _ _ (show i + 5 ≠ i by omega)]; exact zK78
  have zl91 : ∀ zq : Nat, zq < i → zh80 zq = h zq := by intro zq hzq; rw [ze81, va_up_ne _ _ (show zq ≠ i + 2 by omega), va_up_ne _ _ (show zq ≠ i + 1 by omega), va_up_ne _ _ (show zq ≠ i by omega)]; exact zl79 zq hzq
  refine z_vret X E dX2_init_63 (by omega) (by omega) ⟨?_, ?_, ?_, ?_, ?_, ?_, ?_, ?_, ?_⟩
  · rfl
  · rfl
  · exact zl91
  · exact zK85
  · exact (zK86).trans (congrArg (arI κ 40) ini_w)
  · exact (zK87).trans (congrArg (arI κ 40) ini_s)
  · exact zK88
  · exact zK89
  · exact zK90
set_option maxHeartbeats 4000000 in
set_option maxRecDepth 100000 in
theorem c_Kept_init {κ : Wc} {l : Launch} {h : Mm} {k : Nat} (K0 : h k = some (.inr (3, [.null, .null, .null, .null, .int 0])))  : Con κ l yX3_init cX3_init 1 none 3 12 201 [.ref k] h (k + 1) (fun q h' n' => q = none ∧ n' = k + 13 ∧ (∀ zq : Nat, zq < k → h' zq = h zq) ∧ h' k = some (.inr (3, [.ref (k + 1), .ref (k + 7), .ref (k + 9), .ref (k + 11), .int (dIni 13)])) ∧ h' (k + 1) = some (.inr (2, [.ref (k + 2), .ref (k + 3), .ref (k + 4), .ref (k + 5), .ref (k + 6), .int (nI 1), .int (dIni 0), .int (dIni 2), .int (dIni 3), .int (nI 0), .int (dIni 10), .int 0, .int 0])) ∧ h' (k + 2) = arI κ 40 (win 100 40 dIni) ∧ h' (k + 3) = arI κ 40 (win 140 40 dIni) ∧ h' (k + 4) = arI κ 6 (win 4 6 dIni) ∧ h' (k + 5) = arR κ 1 6 (fun _ => none) ∧ h' (k + 6) = arR κ 2 2 (fun _ => none) ∧ h' (k + 7) = some (.inr (6, [.ref (k + 7 + 1), .int (nI 0), .int 32])) ∧ h' (k + 8) = arI κ 50 (fun _ => 0) ∧ h' (k + 9) = some (.inr (6, [.ref (k + 9 + 1), .int (nI 0), .int 32])) ∧ h' (k + 10) = arI κ 20 (fun _ => 0) ∧ h' (k + 11) = some (.inr (6, [.ref (k + 11 + 1), .int (nI (3 * 0)), .int 32])) ∧ h' (k + 12) = arI κ 15 (fun _ => 0)) := by
  refine Con.of mk_X3_init (Nat.le_of_ble_eq_true rfl) (fun G hG X E => ?_)
  subst hG
  refine z_ls (ls' := [(0, .ref k)]) rfl ?_
  refine z_aload_n X 0 dX3_init_0 rfl ?_
  refine z_objInit X dX3_init_1 wd_87 wd_80 wd_81 (Nat.le_of_ble_eq_true rfl) (Nat.le_of_ble_eq_true rfl) ?_
  refine z_aload_n X 0 dX3_init_4 rfl ?_
  refine z_new X fn_X2 dX3_init_5 wd_88 (by omega) (by omega) ?_
  obtain ⟨zh1, ze2⟩ : ∃ z : Mm, z = va_up h (k + 1) (some (.inr (2, [.null, .null, .null, .null, .null, .int 0, .int 0, .int 0, .int 0, .int 0, .int 0, .int 0, .int 0]))) := ⟨_, rfl⟩
  refine z_heap (h' := zh1) ze2.symm ?_
  have zK3 := up_off ze2 (show k ≠ k + 1 by omega) K0
  have zK4 := up_at ze2
  have zl5 : ∀ zq : Nat, zq < k → zh1 zq = h zq := by intro zq hzq; rw [ze2, va_up_ne _ _ (show zq ≠ k + 1 by omega)]; try rfl
  refine z_dup X dX3_init_8 rfl ?_
  refine z_callI X (c_Icicle_init (κ := κ) (i := (k + 1)) zK4 ) mk_X2_init dX3_init_9 wd_90 wd_91 rfl rfl rfl (Nat.le_of_ble_eq_true rfl) (Nat.le_of_ble_eq_true rfl) (Nat.le_of_ble_eq_true rfl) (by omega) (by omega) (fun q zh6 zm8 zp9 => ?_)
  obtain ⟨rfl, zn10, zf11, zK12, zK13, zK14, zK15, zK16, zK17⟩ := zp9
  subst zm8
  refine z_st (st' := [.ref (k + 1), .ref k]) rfl ?_
  have zK18 : zh6 k = some (.inr (3, [.null, .null, .null, .null, .int 0])) := (zf11 k (by omega)).trans zK3
  have zl19 : ∀ zq : Nat, zq < k → zh6 zq = h zq := by intro zq hzq; rw [zf11 zq (by omega)]; exact zl5 zq hzq
  refine z_putF X E fp_X3_12_3 dX3_init_12 zK18 (by first | rfl | decide) (by first | rfl | decide) (Nat.le_of_ble_eq_true rfl) rfl ?_
  obtain ⟨zh20, ze21⟩ : ∃ z : Mm, z = va_up zh6 k (some (.inr (3, [.ref (k + 1), .null, .null, .null, .int 0]))) := ⟨_, rfl⟩
  refine z_heap (h' := zh20) ze21.symm ?_
  have zK22 := up_at ze21
  have zK23 := up_off ze21 (show k + 1 ≠ k by omega) zK12
  have zK24 := up_off ze21 (show k + 2 ≠ k by omega) zK13
  have zK25 := up_off ze21 (show k + 3 ≠ k by omega) zK14
  have zK26 := up_off ze21 (show k + 4 ≠ k by omega) zK15
  have zK27 := up_off ze21 (show k + 5 ≠ k by omega) zK16
  have zK28 := up_off ze21 (show k + 6 ≠ k by omega) zK17
  have zl29 : ∀ zq : Nat, zq < k → zh20 zq = h zq := by intro zq hzq; rw [ze21, va_up_ne _ _ (show zq ≠ k by omega)]; exact zl19 zq hzq
  refine z_aload_n X 0 dX3_init_15 rfl ?_
  refine z_new X fn_X6 dX3_init_16 wd_166 (by omega) (by omega) ?_
  obtain ⟨zh30, ze31⟩ : ∃ z : Mm, z = va_up zh20 (k + 7) (some (.inr (6, [.null, .int 0, .int 0]))) := ⟨_, rfl⟩
  refine z_heap (h' := zh30) ze31.symm ?_
  have zK32 := up_off ze31 (show k ≠ k + 7 by omega) zK22
  have zK33 := up_off ze31 (show k + 1 ≠ k + 7 by omega) zK23
  have zK34 := up_off ze31 (show k + 2 ≠ k + 7 by omega) zK24
  have zK35 := up_off ze31 (show k + 3 ≠ k + 7 by omega) zK25
  have zK36 := up_off ze31 (show k + 4 ≠ k + 7 by omega) zK26
  have zK37 := up_off ze31 (show k + 5 ≠ k + 7 by omega) zK27
  have zK38 := up_off ze31 (show k + 6 ≠ k + 7 by omega) zK28
  have zK39 := up_at ze31
  have zl40 : ∀ zq : Nat, zq < k → zh30 zq = h zq := by intro zq hzq; rw [ze31, va_up_ne _ _ (show zq ≠ k + 7 by omega)]; exact zl29 zq hzq
  refine z_dup X dX3_init_19 rfl ?_
  refine z_bipush (v := 50) X dX3_init_20 (by decide) ?_
  refine z_bipush (v := 32) X dX3_init_22 (by decide) ?_
  refine z_callI X (c_Row_init (κ := κ) (r := (k + 7)) (b := (32)) (N := (50)) zK39 (by decide)) mk_X6_init dX3_init_24 wd_168 wd_169 rfl rfl rfl (Nat.le_of_ble_eq_true rfl) (Nat.le_of_ble_eq_true rfl) (Nat.le_of_ble_eq_true rfl) (by omega) (by omega) (fun q zh41 zm43 zp44 => ?_)
  obtain ⟨rfl, ze42, zn45⟩ := zp44
  subst zm43
  refine z_st (st' := [.ref (k + 7), .ref k]) rfl ?_
  have zK46 : zh41 k = some (.inr (3, [.ref (k + 1), .null, .null, .null, .int 0])) := by rw [ze42]; rw [va_up_ne _ _ (show k ≠ k + 8 by omega)]; rw [va_up_ne _ _ (show k ≠ k + 7 by omega)]; exact zK32
  have zK47 : zh41 (k + 1) = some (.inr (2, [.ref (k + 2), .ref (k + 3), .ref (k + 4), .ref (k + 5), .ref (k + 6), .int (nI 1), .int (dIni 0), .int (dIni 2), .int (dIni 3), .int (nI 0), .int (dIni 10), .int 0, .int 0])) := by rw [ze42]; rw [va_up_ne _ _ (show k + 1 ≠ k + 8 by omega)]; rw [va_up_ne _ _ (show k + 1 ≠ k + 7 by omega)]; exact zK33
  have zK48 : zh41 (k + 2) = arI κ 40 (win 100 40 dIni) := by rw [ze42]; rw [va_up_ne _ _ (show k + 2 ≠ k + 8 by omega)]; rw [va_up_ne _ _ (show k + 2 ≠ k + 7 by omega)]; exact zK34
  have zK49 : zh41 (k + 3) = arI κ 40 (win 140 40 dIni) := by rw [ze42]; rw [va_up_ne _ _ (show k + 3 ≠ k + 8 by omega)]; rw [va_up_ne _ _ (show k + 3 ≠ k + 7 by omega)]; exact zK35
  have zK50 : zh41 (k + 4) = arI κ 6 (win 4 6 dIni) := by rw [ze42]; rw [va_up_ne _ _ (show k + 4 ≠ k + 8 by omega)]; rw [va_up_ne _ _ (show k + 4 ≠ k + 7 by omega)]; exact zK36
  have zK51 : zh41 (k + 5) = arR κ 1 6 (fun _ => none) := by rw [ze42]; rw [va_up_ne _ _ (show k + 5 ≠ k + 8 by omega)]; rw [va_up_ne _ _ (show k + 5 ≠ k + 7 by omega)]; exact zK37
  have zK52 : zh41 (k + 6) = arR κ 2 2 (fun _ => none) := by rw [ze42]; rw [va_up_ne _ _ (show k + 6 ≠ k + 8 by omega)]; rw [va_up_ne _ _ (show k + 6 ≠ k + 7 by omega)]; exact zK38
  have zK53 : zh41 (k + 7) = some (.inr (6, [.ref ((k + 7) + 1), .int 0, .int 32])) := by rw [ze42]; rw [va_up_ne _ _ (show k + 7 ≠ k + 8 by omega)]; exact va_up_self _ _ _
  have zK54 : zh41 (k + 8) = arI κ 50 (fun _ => 0) := by rw [ze42]; exact va_up_self _ _ _
  have zl55 : ∀ zq : Nat, zq < k → zh41 zq = h zq := by intro zq hzq; rw [ze42, va_up_ne _ _ (show zq ≠ k + 8 by omega), va_up_ne _ _ (show zq ≠ k + 7 by omega)]; exact zl40 zq hzq
  refine z_putF X E fp_X3_23_3 dX3_init_27 zK46 (by first | rfl | decide) (by first | rfl | decide) (Nat.le_of_ble_eq_true rfl) rfl ?_
  obtain ⟨zh56, ze57⟩ : ∃ z : Mm, z = va_up zh41 k (some (.inr (3, [.ref (k + 1), .ref (k + 7), .null, .null, .int 0]))) := ⟨_, rfl⟩
  refine z_heap (h' := zh56) ze57.symm ?_
  have zK58 := up_at ze57
  have zK59 := up_off ze57 (show k + 1 ≠ k by omega) zK47
  have zK60 := up_off ze57 (show k + 2 ≠ k by omega) zK48
  have zK61 := up_off ze57 (show k + 3 ≠ k by omega) zK49
  have zK62 := up_off ze57 (show k + 4 ≠ k by omega) zK50
  have zK63 := up_off ze57 (show k + 5 ≠ k by omega) zK51
  have zK64 := up_off ze57 (show k + 6 ≠ k by omega) zK52
  have zK65 := up_off ze57 (show k + 7 ≠ k by omega) zK53
  have zK66 := up_off ze57 (show k + 8 ≠ k by omega) zK54
  have zl67 : ∀ zq : Nat, zq < k → zh56 zq = h zq := by intro zq hzq; rw [ze57, va_up_ne _ _ (show zq ≠ k by omega)]; exact zl55 zq hzq
  refine z_aload_n X 0 dX3_init_30 rfl ?_
  refine z_new X fn_X6 dX3_init_31 wd_166 (by omega) (by omega) ?_
  obtain ⟨zh68, ze69⟩ : ∃ z : Mm, z = va_up zh56 (k + 9) (some (.inr (6, [.null, .int 0, .int 0]))) := ⟨_, rfl⟩
  refine z_heap (h' := zh68) ze69.symm ?_
  have zK70 := up_off ze69 (show k ≠ k + 9 by omega) zK58
  have zK71 := up_off ze69 (show k + 1 ≠ k + 9 by omega) zK59
  have zK72 := up_off ze69 (show k + 2 ≠ k + 9 by omega) zK60
  have zK73 := up_off ze69 (show k + 3 ≠ k + 9 by omega) zK61
  have zK74 := up_off ze69 (show k + 4 ≠ k + 9 by omega) zK62
  have zK75 := up_off ze69 (show k + 5 ≠ k + 9 by omega) zK63
  have zK76 := up_off ze69 (show k + 6 ≠ k + 9 by omega) zK64
  have zK77 := up_off ze69 (show k + 7 ≠ k + 9 by omega) zK65
  have zK78 := up_off ze69 (show k + 8 ≠ k + 9 by omega) zK66
  have zK79 := up_at ze69
  have zl80 : ∀ zq : Nat, zq < k → zh68 zq = h zq := by intro zq hzq; rw [ze69, va_up_ne _ _ (show zq ≠ k + 9 by omega)]; exact zl67 zq hzq
  refine z_dup X dX3_init_34 rfl ?_
  refine z_bipush (v := 20) X dX3_init_35 (by decide) ?_
  refine z_bipush (v := 32) X dX3_init_37 (by decide) ?_
  refine z_callI X (c_Row_init (κ := κ) (r := (k + 9)) (b := (32)) (N := (20)) zK79 (by decide)) mk_X6_init dX3_init_39 wd_168 wd_169 rfl rfl rfl (Nat.le_of_ble_eq_true rfl) (Nat.le_of_ble_eq_true rfl) (Nat.le_of_ble_eq_true rfl) (by omega) (by omega) (fun q zh81 zm83 zp84 => ?_)
  obtain ⟨rfl, ze82, zn85⟩ := zp84
  subst zm83
  refine z_st (st' := [.ref (k + 9), .ref k]) rfl ?_
  have zK86 : zh81 k = some (.inr (3, [.ref (k + 1), .ref (k + 7), .null, .null, .int 0])) := by rw [ze82]; rw [va_up_ne _ _ (show k ≠ k + 10 by omega)]; rw [va_up_ne _ _ (show k ≠ k + 9 by omega)]; exact zK70
  have zK87 : zh81 (k + 1) = some (.inr (2, [.ref (k + 2), .ref (k + 3), .ref (k + 4), .ref (k + 5), .ref (k + 6), .int (nI 1), .int (dIni 0), .int (dIni 2), .int (dIni 3), .int (nI 0), .int (dIni 10), .int 0, .int 0])) := by rw [ze82]; rw [va_up_ne _ _ (show k + 1 ≠ k + 10 by omega)]; rw [va_up_ne _ _ (show k + 1 ≠ k + 9 by omega)]; exact zK71
  have zK88 : zh81 (k + 2) = arI κ 40 (win 100 40 dIni) := by rw [ze82]; rw [va_up_ne _ _ (show k + 2 ≠ k + 10 by omega)]; rw [va_up_ne _ _ (show k + 2 ≠ k + 9 by omega)]; exact zK72
  have zK89 : zh81 (k + 3) = arI κ 40 (win 140 40 dIni) := by rw [ze82]; rw [va_up_ne _ _ (show k + 3 ≠ k + 10 by omega)]; rw [va_up_ne _ _ (show k + 3 ≠ k + 9 by omega)]; exact zK73
  have zK90 : zh81 (k + 4) = arI κ 6 (win 4 6 dIni) := by rw [ze82]; rw [va_up_ne _ _ (show k + 4 ≠ k + 10 by omega)]; rw [va_up_ne _ _ (show k + 4 ≠ k + 9 by omega)]; exact zK74
  have zK91 : zh81 (k + 5) = arR κ 1 6 (fun _ => none) := by rw [ze82]; rw [va_up_ne _ _ (show k + 5 ≠ k + 10 by omega)]; rw [va_up_ne _ _ (show k + 5 ≠ k + 9 by omega)]; exact zK75
  have zK92 : zh81 (k + 6) = arR κ 2 2 (fun _ => none) := by rw [ze82]; rw [va_up_ne _ _ (show k + 6 ≠ k + 10 by omega)]; rw [va_up_ne _ _ (show k + 6 ≠ k + 9 by omega)]; exact zK76
  have zK93 : zh81 (k + 7) = some (.inr (6, [.ref ((k + 7) + 1), .int 0, .int 32])) := by rw [ze82]; rw [va_up_ne _ _ (show k + 7 ≠ k + 10 by omega)]; rw [va_up_ne _ _ (show k + 7 ≠ k + 9 by omega)]; exact zK77
  have zK94 : zh81 (k + 8) = arI κ 50 (fun _ => 0) := by rw [ze82]; rw [va_up_ne _ _ (show k + 8 ≠ k + 10 by omega)]; rw [va_up_ne _ _ (show k + 8 ≠ k + 9 by omega)]; exact zK78
  have zK95 : zh81 (k + 9) = some (.inr (6, [.ref ((k + 9) + 1), .int 0, .int 32])) := by rw [ze82]; rw [va_up_ne _ _ (show k + 9 ≠ k + 10 by omega)]; exact va_up_self _ _ _
  have zK96 : zh81 (k + 10) = arI κ 20 (fun _ => 0) := by rw [ze82]; exact va_up_self _ _ _
  have zl97 : ∀ zq : Nat, zq < k → zh81 zq = h zq := by intro zq hzq; rw [ze82, va_up_ne _ _ (show zq ≠ k + 10 by omega), va_up_ne _ _ (show zq ≠ k + 9 by omega)]; exact zl80 zq hzq
  refine z_putF X E fp_X3_27_3 dX3_init_42 zK86 (by first | rfl | decide) (by first | rfl | decide) (Nat.le_of_ble_eq_true rfl) rfl ?_
  obtain ⟨zh98, ze99⟩ : ∃ z : Mm, z = va_up zh81 k (some (.inr (3, [.ref (k + 1), .ref (k + 7), .ref (k + 9), .null, .int 0]))) := ⟨_, rfl⟩
  refine z_heap (h' := zh98) ze99.symm ?_
  have zK100 := up_at ze99
  have zK101 := up_off ze99 (show k + 1 ≠ k by omega) zK87
  have zK102 := up_off ze99 (show k + 2 ≠ k by omega) zK88
  have zK103 := up_off ze99 (show k + 3 ≠ k by omega) zK89
  have zK104 := up_off ze99 (show k + 4 ≠ k by omega) zK90
  have zK105 := up_off ze99 (show k + 5 ≠ k by omega) zK91
  have zK106 := up_off ze99 (show k + 6 ≠ k by omega) zK92
  have zK107 := up_off ze99 (show k + 7 ≠ k by omega) zK93
  have zK108 := up_off ze99 (show k + 8 ≠ k by omega) zK94
  have zK109 := up_off ze99 (show k + 9 ≠ k by omega) zK95
  have zK110 := up_off ze99 (show k + 10 ≠ k by omega) zK96
  have zl111 : ∀ zq : Nat, zq < k → zh98 zq = h zq := by intro zq hzq; rw [ze99, va_up_ne _ _ (show zq ≠ k by omega)]; exact zl97 zq hzq
  refine z_aload_n X 0 dX3_init_45 rfl ?_
  refine z_new X fn_X6 dX3_init_46 wd_166 (by omega) (by omega) ?_
  obtain ⟨zh112, ze113⟩ : ∃ z : Mm, z = va_up zh98 (k + 11) (some (.inr (6, [.null, .int 0, .int 0]))) := ⟨_, rfl⟩
  refine z_heap (h' := zh112) ze113.symm ?_
  have zK114 := up_off ze113 (show k ≠ k + 11 by omega) zK100
  have zK115 := up_off ze113 (show k + 1 ≠ k + 11 by omega) zK101
  have zK116 := up_off ze113 (show k + 2 ≠ k + 11 by omega) zK102
  have zK117 := up_off ze113 (show k + 3 ≠ k + 11 by omega) zK103
  have zK118 := up_off ze113 (show k + 4 ≠ k + 11 by omega) zK104
  have zK119 := up_off ze113 (show k + 5 ≠ k + 11 by omega) zK105
  have zK120 := up_off ze113 (show k + 6 ≠ k + 11 by omega) zK106
  have zK121 := up_off ze113 (show k + 7 ≠ k + 11 by omega) zK107
  have zK122 := up_off ze113 (show k + 8 ≠ k + 11 by omega) zK108
  have zK123 := up_off ze113 (show k + 9 ≠ k + 11 by omega) zK109
  have zK124 := up_off ze113 (show k + 10 ≠ k + 11 by omega) zK110
  have zK125 := up_at ze113
  have zl126 : ∀ zq : Nat, zq < k → zh112 zq = h zq := by intro zq hzq; rw [ze113, va_up_ne _ _ (show zq ≠ k + 11 by omega)]; exact zl111 zq hzq
  refine z_dup X dX3_init_49 rfl ?_
  refine z_bipush (v := 15) X dX3_init_50 (by decide) ?_
  refine z_bipush (v := 32) X dX3_init_52 (by decide) ?_
  refine z_callI X (c_Row_init (κ := κ) (r := (k + 11)) (b := (32)) (N := (15)) zK125 (by decide)) mk_X6_init dX3_init_54 wd_168 wd_169 rfl rfl rfl (Nat.le_of_ble_eq_true rfl) (Nat.le_of_ble_eq_true rfl) (Nat.le_of_ble_eq_true rfl) (by omega) (by omega) (fun q zh127 zm129 zp130 => ?_)
  obtain ⟨rfl, ze128, zn131⟩ := zp130
  subst zm129
  refine z_st (st' := [.ref (k + 11), .ref k]) rfl ?_
  have zK132 : zh127 k = some (.inr (3, [.ref (k + 1), .ref (k + 7), .ref (k + 9), .null, .int 0])) := by rw [ze128]; rw [va_up_ne _ _ (show k ≠ k + 12 by omega)]; rw [va_up_ne _ _ (show k ≠ k + 11 by omega)]; exact zK114
  have zK133 : zh127 (k + 1) = some (.inr (2, [.ref (k + 2), .ref (k + 3), .ref (k + 4), .ref (k + 5), .ref (k + 6), .int (nI 1), .int (dIni 0), .int (dIni 2), .int (dIni 3), .int (nI 0), .int (dIni 10), .int 0, .int 0])) := by rw [ze128]; rw [va_up_ne _ _ (show k + 1 ≠ k + 12 by omega)]; rw [va_up_ne _ _ (show k + 1 ≠ k + 11 by omega)]; exact zK115
  have zK134 : zh127 (k + 2) = arI κ 40 (win 100 40 dIni) := by rw [ze128]; rw [va_up_ne _ _ (show k + 2 ≠ k + 12 by omega)]; rw [va_up_ne _ _ (show k + 2 ≠ k + 11 by omega)]; exact zK116
  have zK135 : zh127 (k + 3) = arI κ 40 (win 140 40 dIni) := by rw [ze128]; rw [va_up_ne _ _ (show k + 3 ≠ k + 12 by omega)]; rw [va_up_ne _ _ (show k + 3 ≠ k + 11 by omega)]; exact zK117
  have zK136 : zh127 (k + 4) = arI κ 6 (win 4 6 dIni) := by rw [ze128]; rw [va_up_ne _ _ (show k + 4 ≠ k + 12 by omega)]; rw [va_up_ne _ _ (show k + 4 ≠ k + 11 by omega)]; exact zK118
  have zK137 : zh127 (k + 5) = arR κ 1 6 (fun _ => none) := by rw [ze128]; rw [va_up_ne _ _ (show k + 5 ≠ k + 12 by omega)]; rw [va_up_ne _ _ (show k + 5 ≠ k + 11 by omega)]; exact zK119
  have zK138 : zh127 (k + 6) = arR κ 2 2 (fun _ => none) := by rw [ze128]; rw [va_up_ne _ _ (show k + 6 ≠ k + 12 by omega)]; rw [va_up_ne _ _ (show k + 6 ≠ k + 11 by omega)]; exact zK120
  have zK139 : zh127 (k + 7) = some (.inr (6, [.ref ((k + 7) + 1), .int 0, .int 32])) := by rw [ze128]; rw [va_up_ne _ _ (show k + 7 ≠ k + 12 by omega)]; rw [va_up_ne _ _ (show k + 7 ≠ k + 11 by omega)]; exact zK121
  have zK140 : zh127 (k + 8) = arI κ 50 (fun _ => 0) := by rw [ze128]; rw [va_up_ne _ _ (show k + 8 ≠ k + 12 by omega)]; rw [va_up_ne _ _ (show k + 8 ≠ k + 11 by omega)]; exact zK122
  have zK141 : zh127 (k + 9) = some (.inr (6, [.ref ((k + 9) + 1), .int 0, .int 32])) := by rw [ze128]; rw [va_up_ne _ _ (show k + 9 ≠ k + 12 by omega)]; rw [va_up_ne _ _ (show k + 9 ≠ k + 11 by omega)]; exact zK123
  have zK142 : zh127 (k + 10) = arI κ 20 (fun _ => 0) := by rw [ze128]; rw [va_up_ne _ _ (show k + 10 ≠ k + 12 by omega)]; rw [va_up_ne _ _ (show k + 10 ≠ k + 11 by omega)]; exact zK124
  have zK143 : zh127 (k + 11) = some (.inr (6, [.ref ((k + 11) + 1), .int 0, .int 32])) := by rw [ze128]; rw [va_up_ne _ _ (show k + 11 ≠ k + 12 by omega)]; exact va_up_self _ _ _
  have zK144 : zh127 (k + 12) = arI κ 15 (fun _ => 0) := by rw [ze128]; exact va_up_self _ _ _
  have zl145 : ∀ zq : Nat, zq < k → zh127 zq = h zq := by intro zq hzq; rw [ze128, va_up_ne _ _ (show zq ≠ k + 12 by omega), va_up_ne _ _ (show zq ≠ k + 11 by omega)]; exact zl126 zq hzq
  refine z_putF X E fp_X3_30_3 dX3_init_57 zK132 (by first | rfl | decide) (by first | rfl | decide) (Nat.le_of_ble_eq_true rfl) rfl ?_
  obtain ⟨zh146, ze147⟩ : ∃ z : Mm, z = va_up zh127 k (some (.inr (3, [.ref (k + 1), .ref (k + 7), .ref (k + 9), .ref (k + 11), .int 0]))) := ⟨_, rfl⟩
  refine z_heap (h' := zh146) ze147.symm ?_
  have zK148 := up_at ze147
  have zK149 := up_off ze147 (show k + 1 ≠ k by omega) zK133
  have zK150 := up_off ze147 (show k + 2 ≠ k by omega) zK134
  have zK151 := up_off ze147 (show k + 3 ≠ k by omega) zK135
  have zK152 := up_off ze147 (show k + 4 ≠ k by omega) zK136
  have zK153 := up_off ze147 (show k + 5 ≠ k by omega) zK137
  have zK154 := up_off ze147 (show k + 6 ≠ k by omega) zK138
  have zK155 := up_off ze147 (show k + 7 ≠ k by omega) zK139
  have zK156 := up_off ze147 (show k + 8 ≠ k by omega) zK140
  have zK157 := up_off ze147 (show k + 9 ≠ k by omega) zK141
  have zK158 := up_off ze147 (show k + 10 ≠ k by omega) zK142
  have zK159 := up_off ze147 (show k + 11 ≠ k by omega) zK143
  have zK160 := up_off ze147 (show k + 12 ≠ k by omega) zK144
  have zl161 : ∀ zq : Nat, zq < k → zh146 zq = h zq := by intro zq hzq; rw [ze147, va_up_ne _ _ (show zq ≠ k by omega)]; exact zl145 zq hzq
  refine z_aload_n X 0 dX3_init_60 rfl ?_
  refine z_iconst (v := 1) X dX3_init_61 (by decide) ?_
  refine z_put X fp_X3_33_3 dX3_init_62 zK148 (by first | rfl | decide) (by first | rfl | decide) (Nat.le_of_ble_eq_true rfl) rfl ?_
  obtain ⟨zh162, ze163⟩ : ∃ z : Mm, z = va_up zh146 k (some (.inr (3, [.ref (k + 1), .ref (k + 7), .ref (k + 9), .ref (k + 11), .int 1]))) := ⟨_, rfl⟩
  refine z_heap (h' := zh162) ze163.symm ?_
  have zK164 := up_at ze163
  have zK165 := up_off ze163 (show k + 1 ≠ k by omega) zK149
  have zK166 := up_off ze163 (show k + 2 ≠ k by omega) zK150
  have zK167 := up_off ze163 (show k + 3 ≠ k by omega) zK151
  have zK168 := up_off ze163 (show k + 4 ≠ k by omega) zK152
  have zK169 := up_off ze163 (show k + 5 ≠ k by omega) zK153
  have zK170 := up_off ze163 (show k + 6 ≠ k by omega) zK154
  have zK171 := up_off ze163 (show k + 7 ≠ k by omega) zK155
  have zK172 := up_off ze163 (show k + 8 ≠ k by omega) zK156
  have zK173 := up_off ze163 (show k + 9 ≠ k by omega) zK157
  have zK174 := up_off ze163 (show k + 10 ≠ k by omega) zK158
  have zK175 := up_off ze163 (show k + 11 ≠ k by omega) zK159
  have zK176 := up_off ze163 (show k + 12 ≠ k by omega) zK160
  have zl177 : ∀ zq : Nat, zq < k → zh162 zq = h zq := by intro zq hzq; rw [ze163, va_up_ne _ _ (show zq ≠ k by omega)]; exact zl161 zq hzq
  refine z_vret X E dX3_init_65 (by omega) (by omega) ⟨?_, ?_, ?_, ?_, ?_, ?_, ?_, ?_, ?_, ?_, ?_, ?_, ?_, ?_, ?_, ?_⟩
  · rfl
  · rfl
  · exact zl177
  · exact zK164
  · exact zK165
  · exact zK166
  · exact zK167
  · exact zK168
  · exact zK169
  · exact zK170
  · exact zK171
  · exact zK172
  · exact zK173
  · exact zK174
  · exact zK175
  · exact zK176
