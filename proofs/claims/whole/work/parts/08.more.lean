section ZM
variable {κ : Wc} {G : Gm} {cc : ByteArray} {nL d mc ms : Nat} {own : String} {pc : Nat} {ls : Lc} {st : List Value} {h : Mm} {n ca sl : Nat}
theorem z_copy (X : Ok κ G cc nL own d mc ms) {idx a0 a n0 n1 : Nat} {f g : Nat → Int32} {sp dp z : Int32} (hd : decode cc pc = .ok (.invokestatic idx, 3)) (hlk : Cond.methodLink own idx arraycopyName ∈ gtbl) (w1 : Cond.native arraycopyName ∈ gtbl) (w2 : Cond.static arraycopyName ∈ gtbl) (w3 : Cond.initialized "java/lang/System" ∈ gtbl) (he0 : h a0 = some (.inl (κ.2.1 0, n0, .inl f))) (he1 : h a = some (.inl (κ.2.1 0, n1, .inl g))) (h1 : ¬ sp < 0) (h2 : ¬ dp < 0) (h3 : ¬ z < 0) (h4 : sp.toNatClampNeg + z.toNatClampNeg ≤ n0) (h5 : dp.toNatClampNeg + z.toNatClampNeg ≤ n1) (hdd : 1 ≤ d) (hrm : (st.map fun v => v.category).sum ≤ 8) {h' : Mm} (hh : va_up h a (some (.inl (κ.2.1 0, n1, .inl (va_cpy f g sp.toNatClampNeg dp.toNatClampNeg z.toNatClampNeg)))) = h') (kk : Z κ G nL (pc + 3) ls st h' n ca sl) : Z κ G nL pc ls (.int z :: .int dp :: .ref a :: .int sp :: .ref a0 :: st) h n ca sl := by
  subst hh
  obtain ⟨p, l, e, R, s, m, args, below, meth, c, Q⟩ := G
  obtain ⟨hx, hb, hml, hown, hts, hK, hB, hR1, hR2, hR3, hR4⟩ := X
  intro H locs la hF hS hl
  have nn : ∀ z : Int32, ¬ z < 0 → z.toInt = (z.toNatClampNeg : Int) := by
    intro z hz
    have hz0 : (0 : Int) ≤ z.toInt := by
      have := Int32.not_lt.mp hz
      simpa using Int32.le_iff_toInt_le.mp this
    show z.toInt = ((z.toInt.toNat : Nat) : Int)
    omega
  intro T hT Y
  obtain ⟨hB0, hc0⟩ := hF.2.2 a0 _ he0
  obtain ⟨hB1, hc1⟩ := hF.2.2 a _ he1
  have hc0 : H[a0]? = some (vp_cell (κ.2.1 0) (n0, .inl f)) := hc0
  have hc1 : H[a]? = some (vp_cell (κ.2.1 0) (n1, .inl g)) := hc1
  obtain ⟨-, k0, hk0, cm0, hkk0⟩ := (hK.1.2 0 (κ.2.1 0, .int) rfl).1 n0 (fun j => .int (f j))
  obtain ⟨-, k1, hk1, cm1, hkk1⟩ := (hK.1.2 0 (κ.2.1 0, .int) rfl).1 n1 (fun j => .int (g j))
  have hlo : (st.map fun v => v.category).sum + (nativeFrameWords "java/lang/System" "arraycopy" 5 + 11) ≤ R.locals := by
    have e0 : nativeFrameWords "java/lang/System" "arraycopy" 5 ≤ 40 := by decide +kernel
    omega
  obtain ⟨vm', Y', step⟩ := Y.arraycopy hx hown (hts _ hlk) (hts _ w1) (hts _ w2) (hts _ w3) (src := a0) (dst := a) (cs := vp_cell (κ.2.1 0) (n0, .inl f)) (cd := vp_cell (κ.2.1 0) (n1, .inl g)) (srcPos := sp) (destPos := dp) (n := z) (by rw [hT]; exact hc0) (by rw [hT]; exact hc1)
    (fun _ h => by cases h) (fun _ h => by cases h) (fun h => by cases h) (fun h => by cases h) hk0 hk1 hkk0 hkk1 (by simp [refKind]) h1 h2 h3
    (by rw [nn sp h1, nn z h3]; show ¬ _ > ((arrV (κ.2.1 0) n0 (fun j => .int (f j))).slots.size : Int); rw [arrV_size]; omega)
    (by rw [nn dp h2, nn z h3]; show ¬ _ > ((arrV (κ.2.1 0) n1 (fun j => .int (g j))).slots.size : Int); rw [arrV_size]; omega)
    (fun vm₁ _ i hi => by
      have e : (vp_cell (κ.2.1 0) (n0, .inl f)).slots.getD (sp.toNatClampNeg + i) .null = .int (f (sp.toNatClampNeg + i)) := by
        show (arrV (κ.2.1 0) n0 (fun j => .int (f j))).slots.getD _ _ = _
        rw [Array.getD_eq_getD_getElem?, arrV_read _ _ (by omega)]
        rfl
      refine ⟨?_, ?_⟩
      · rw [e]
        rfl
      · rw [e]
        exact trivial)
    (g := F0 m pc la (.int z :: .int dp :: .ref a :: .int sp :: .ref a0 :: st)) rfl (by rw [hml]; exact hl.1) (rest := st) rfl (by rw [hb]; exact hd) (Nat.le_trans hdd hR1) (by show 2 * 0 + _ + _ ≤ _; omega)
  have e1 : copied (vp_cell (κ.2.1 0) (n0, .inl f)) (vp_cell (κ.2.1 0) (n1, .inl g)) sp dp z = vp_cell (κ.2.1 0) (n1, .inl (va_cpy f g sp.toNatClampNeg dp.toNatClampNeg z.toNatClampNeg)) := va_copied (fun z => .int z) (κ.2.1 0) (κ.2.1 0) f g h4
  rw [e1] at Y' step
  have hla : a < H.size := (Array.getElem?_eq_some_iff.mp hc1).1
  have hheap : ((T.setVm vm').setCell a (vp_cell (κ.2.1 0) (n1, .inl (va_cpy f g sp.toNatClampNeg dp.toNatClampNeg z.toNatClampNeg)))).heap = H.setIfInBounds a (vp_cell (κ.2.1 0) (n1, .inl (va_cpy f g sp.toNatClampNeg dp.toNatClampNeg z.toNatClampNeg))) := by rw [← hT]; rfl
  have oq : ∀ q : Nat, q ≠ a → (H.setIfInBounds a (vp_cell (κ.2.1 0) (n1, .inl (va_cpy f g sp.toNatClampNeg dp.toNatClampNeg z.toNatClampNeg))))[q]? = H[q]? := fun q hq => by simp [Array.getElem?_setIfInBounds, Ne.symm hq]
  obtain ⟨t, a1, b1⟩ := kk _ _ la (hF.put he1 (show (H.setIfInBounds a _)[a]? = some _ by simp [Array.getElem?_setIfInBounds, hla]) (by simp) oq) ⟨by simp; exact hS.1, fun q g1 g2 => by
      rw [oq q (fun e => g2 (by rw [e]; exact hB1))]
      exact hS.2.1 q g1 g2, fun q hq => by
      rcases List.mem_append.mp hq with h | h
      · exact hS.2.2 q h
      · obtain ⟨z, -, hz⟩ := List.mem_map.mp h
        rw [← hz]
        exact hB1⟩ hl _ hheap Y'
  exact ⟨t, step t a1, b1⟩
/-- a reference into a row of references: the object's class may lie in it -/
theorem z_aast (X : Ok κ G cc nL own d mc ms) {a t N v ci M : Nat} {C E : String} {T : u_T} {vs : List Value} {f : Nat → Option Nat} {i : Int32} (hd : decode cc pc = .ok (.aastore, 1)) (he : h a = some (.inl (κ.2.1 t, N, .inr (.inr (.inr (.inr f)))))) (ht : (wT κ)[t]? = some (κ.2.1 t, .object E)) (hv : h v = some (.inr (ci, vs))) (hc : vwCl[ci]? = some (C, T, M)) (hca : C = E ∨ Cond.castable C E ∈ nwL) (hi : vp_in i N) {h' : Mm} (hh : va_up h a (some (.inl (κ.2.1 t, N, .inr (.inr (.inr (.inr (va_up f i.toNatClampNeg (some v)))))))) = h') (kk : Z κ G nL (pc + 1) ls st h' n ca sl) : Z κ G nL pc ls (.ref v :: .int i :: .ref a :: st) h n ca sl := by
  subst hh
  obtain ⟨p, l, e, R, s, m, args, below, meth, c, Q⟩ := G
  obtain ⟨hx, hb, hml, hown, hts, hK, hB, hR1, hR2, hR3, hR4⟩ := X
  intro H locs la hF hS hl
  obtain ⟨hB1, hat⟩ := hF.2.2 a _ he
  have hlt : i.toNatClampNeg < N := Nat.not_le.mp fun q => hi (Or.inr q)
  have h0 : ¬ i < 0 := fun q => hi (Or.inl q)
  obtain ⟨cellV, g1, g3, g4⟩ := z_recv hK hF hv hc
  obtain ⟨kC, hkC, -⟩ := Vm.findClass_spec g4
  obtain ⟨kA, comp, k1, k2, k3, -⟩ := (hK.1.2 t _ ht).2
  obtain ⟨kE, hkE, -⟩ := Vm.findClass_spec k3
  have hasg : s.vm.assignable cellV.cls comp = true := by
    rcases hca with rfl | hca
    · have hA := (hK.1.1 ci _ hc).2
      have e1 : comp = cellV.cls := Option.some.inj (k3.symm.trans g4)
      have e2 : cellV.cls = κ.1.1 ci := Option.some.inj (g4.symm.trans hA.1)
      rw [e1, e2]
      exact va_assign hA
    · obtain ⟨c0, t0, f1, f2, f3⟩ := Cond.castable_spec (va_Nw.use (A := args) rfl (hK.2.2.1 _ hca))
      cases g4.symm.trans f1
      cases k3.symm.trans f2
      exact f3
  refine W.aast hx hb hat (fun q h => by cases h) (fun h => by cases h) k1 k2 rfl hkE ⟨h0, by show _ < (arrV _ _ _).slots.size; rw [arrV_size]; exact hlt⟩ g1 (fun q h => by rw [h] at g3; cases g3) hkC hasg rfl rfl hd fun H1 e z oq => ?_
  refine kk H1 _ la (hF.put he ?_ z oq) (hS.put z oq hB1) hl
  show H1[a]? = some (vp_cell _ _)
  rw [e]
  rw [vp_cell_q, vp_cell_q, arrV_store]
  congr 2
  funext q
  by_cases hq : q = i.toNatClampNeg
  · subst hq
    simp [updV, va_up, va_rf]
  · simp [updV, va_up, hq]
theorem z_aastN (X : Ok κ G cc nL own d mc ms) {a t N : Nat} {E : String} {f : Nat → Option Nat} {i : Int32} (hd : decode cc pc = .ok (.aastore, 1)) (he : h a = some (.inl (κ.2.1 t, N, .inr (.inr (.inr (.inr f)))))) (ht : (wT κ)[t]? = some (κ.2.1 t, .object E)) (hi : vp_in i N) {h' : Mm} (hh : va_up h a (some (.inl (κ.2.1 t, N, .inr (.inr (.inr (.inr (va_up f i.toNatClampNeg none))))))) = h') (kk : Z κ G nL (pc + 1) ls st h' n ca sl) : Z κ G nL pc ls (.null :: .int i :: .ref a :: st) h n ca sl := by
  subst hh
  obtain ⟨p, l, e, R, s, m, args, below, meth, c, Q⟩ := G
  obtain ⟨hx, hb, hml, hown, hts, hK, hB, hR1, hR2, hR3, hR4⟩ := X
  intro H locs la hF hS hl
  obtain ⟨hB1, hat⟩ := hF.2.2 a _ he
  refine va_WaastN (C := E) hx hb hat ((hK.1.2 t _ ht).1 N (fun j => va_rf (f j))) (fun h => by cases h) (by show ¬ (i < 0 ∨ (arrV _ _ _).slots.size ≤ _); rw [arrV_size]; exact hi) rfl rfl hd fun H1 e z oq => ?_
  refine kk H1 _ la (hF.put he ?_ z oq) (hS.put z oq hB1) hl
  show H1[a]? = some (vp_cell _ _)
  rw [e]
  rw [vp_cell_q, vp_cell_q, arrV_store]
  congr 2
  funext q
  by_cases hq : q = i.toNatClampNeg
  · subst hq
    simp [updV, va_up, va_rf]
  · simp [updV, va_up, hq]
theorem z_instY (X : Ok κ G cc nL own d mc ms) {idx b ci M : Nat} {C nm : String} {T : u_T} {vs : List Value} (hd : decode cc pc = .ok (.instanceof idx, 3)) (hlk : Cond.classLink own idx nm ∈ gtbl) (hv : h b = some (.inr (ci, vs))) (hc : vwCl[ci]? = some (C, T, M)) (hca : C = nm ∨ Cond.castable C nm ∈ nwL) (kk : Z κ G nL (pc + 3) ls (.int 1 :: st) h n ca sl) : Z κ G nL pc ls (.ref b :: st) h n ca sl := by
  obtain ⟨p, l, e, R, s, m, args, below, meth, c, Q⟩ := G
  obtain ⟨hx, hb, hml, hown, hts, hK, hB, hR1, hR2, hR3, hR4⟩ := X
  intro H locs la hF hS hl
  rcases hca with rfl | hca
  · exact va_instS hx hb hown (hts _ hlk) (hK.1.1 ci _ hc).2 (z_recv hK hF hv hc) hd (kk H locs la hF hS hl)
  · exact va_instY hx hb hown (hts _ hlk) (hK.2.2.1 _ hca) (z_recv hK hF hv hc) hd (kk H locs la hF hS hl)
theorem z_instNo (X : Ok κ G cc nL own d mc ms) {idx b ci M : Nat} {C nm : String} {T : u_T} {vs : List Value} (hd : decode cc pc = .ok (.instanceof idx, 3)) (hlk : Cond.classLink own idx nm ∈ gtbl) (hv : h b = some (.inr (ci, vs))) (hc : vwCl[ci]? = some (C, T, M)) (hca : (C, nm) ∈ ncL) (kk : Z κ G nL (pc + 3) ls (.int 0 :: st) h n ca sl) : Z κ G nL pc ls (.ref b :: st) h n ca sl := by
  obtain ⟨p, l, e, R, s, m, args, below, meth, c, Q⟩ := G
  obtain ⟨hx, hb, hml, hown, hts, hK, hB, hR1, hR2, hR3, hR4⟩ := X
  intro H locs la hF hS hl
  exact va_instNo hx hb hown (hts _ hlk) (hK.2.2.2.1 _ hca) (z_recv hK hF hv hc) hd (kk H locs la hF hS hl)
end ZM
