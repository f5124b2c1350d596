/-! a super call of a method that the superclass itself inherits -/
theorem sb_one {vm : Vm} {c p : Nat} {k : Class} (hk : vm.classes[c]? = some k) (hs : k.super = some p) : vm.isSubclass c p = true := by
  have hc : c < vm.classes.size := (Array.getElem?_eq_some_iff.mp hk).1
  obtain ⟨j, hj⟩ : ∃ j, vm.classes.size = j + 1 := ⟨vm.classes.size - 1, by omega⟩
  unfold Vm.isSubclass
  rw [hj]
  simp [Vm.isSubclassAux, hk, hs]
theorem sb_two {vm : Vm} {c p t : Nat} {k k2 kt : Class} (hk : vm.classes[c]? = some k) (hs : k.super = some p) (hk2 : vm.classes[p]? = some k2) (hs2 : k2.super = some t) (hkt : vm.classes[t]? = some kt) : vm.isSubclass c t = true := by
  have hc : c < vm.classes.size := (Array.getElem?_eq_some_iff.mp hk).1
  have ht : t < vm.classes.size := (Array.getElem?_eq_some_iff.mp hkt).1
  unfold Vm.isSubclass
  by_cases h1 : vm.classes.size = 1
  · have : c = t := by omega
    subst this
    rw [h1]
    simp [Vm.isSubclassAux]
  · obtain ⟨j, hj⟩ : ∃ j, vm.classes.size = j + 2 := ⟨vm.classes.size - 2, by omega⟩
    rw [hj]
    simp [Vm.isSubclassAux, hk, hs, hk2, hs2]
section SX
variable {p : Program} {l : Launch} {e : Env} {R : Room} {s : State} {m : MethodId} {args : Array Value} {below : List Frame} {meth : Method} {c : Code}
theorem sx_call {T : State} {locs : List Loc} {cells slots : Nat} (X : Stand p l e R s m args below meth c T locs cells slots) (hexec : p.tables.exec = Jvm.exec) {own owner : String} {index : Nat} {x : MethodName} {bytes : ByteArray} {maxL : Nat} {ret : Option FieldType}
    (hown : s.vm.findClass own = some m.cls) (hlink : (Cond.methodLink own index x).before args s = true) (hsame : (Cond.sameMethod x.cls owner x.name x.desc).before args s = true) (hsup : (Cond.superclass own x.cls).before args s = true)
    (hsb : ∀ cn t, s.vm.findClass x.cls = some cn → s.vm.findClass owner = some t → s.vm.isSubclass cn t = true)
    (hinst : (Cond.instanceMethod ⟨owner, x.name, x.desc⟩).before args s = true) (hcode : (Cond.code ⟨owner, x.name, x.desc⟩ bytes maxL ret).before args s = true) (hno : x.name ≠ "<init>")
    {W : Nat} {Pre : Pt → Array Value → Prop} {Post : Pt → Array Value → Option Value → Pt → Prop} (hK : Back l R p e below s args ⟨owner, x.name, x.desc⟩ 3 W Pre Post)
    {b : Addr} {cellB : Cell} {kB : Class} (hcell : T.heap[b]? = some cellB) (hobj : cellB.vm.isStatics = false) (hkB : s.vm.classes[cellB.cls]? = some kB)
    {g : JFrame} (hg : g.method = m) (hsize : g.locals.size = c.maxLocals) {argsL rest : List Value} (hlen : ∀ sig, parseMethodDescriptor x.desc = some sig → argsL.length = sig.parameters.length)
    (hstack : g.stack = argsL.reverse ++ .ref b :: rest) (hW : 2 * g.monitorRoom + (rest.map fun v => v.category).sum ≤ W) (hdg : decode c.code g.pc = .ok (.invokespecial index, 3))
    (hpre : ∀ vm₁, s.WarmedH vm₁ → Pre ⟨T.setVm vm₁, locs, cells, slots⟩ (Value.ref b :: argsL).toArray) :
    ∃ (v : Option Value) (vm₁ : Vm) (B : Pt), s.WarmedH vm₁ ∧ Stand p l e R s m args below meth c B.U B.locs B.cells B.slots ∧ Post ⟨T.setVm vm₁, locs, cells, slots⟩ (Value.ref b :: argsL).toArray v B ∧
      ∀ target, Steps p.tables e below (B.U.setTop { g with pc := g.pc + 3, stack := v.toList ++ rest }) target → Steps p.tables e below (T.setTop g) target := by
  obtain ⟨mk, methM, hnamed, hmethM, hstM, habM⟩ := Cond.instanceMethod_spec hinst
  obtain ⟨methM', cM, hmethM', -, -, -, -, -, -, hsigM⟩ := Cond.code_spec hnamed hcode
  cases hmethM.symm.trans hmethM'
  obtain ⟨ps, dk, kp, hps, hdk, hkp, hsuper, -, -, hnid⟩ := Cond.superclass_spec hown hsup
  have hsub : s.vm.isSubclass ps mk.cls = true := hsb ps mk.cls hps (findClass_of_methodNamed hnamed)
  obtain ⟨vm₁, X₁, hstep₁⟩ := X.invokespecialUp hexec hown hlink hsame hnamed hmethM hstM habM hno hdk hnid hps hsuper hsub (a := b) (cell := cellB) hcell
    (fun z h => by rw [h] at hobj; cases hobj) hkB (g := g) hg (argsL := argsL) (rest := rest) (hlen _ hsigM) hstack hdg
  obtain ⟨v, B, X', hpost, hsteps⟩ := hK m meth c ⟨T.setVm vm₁, locs, cells, slots⟩ { g with stack := rest } (.invokespecial index) mk (Value.ref b :: argsL).toArray X₁ hg hsize hdg hW (X₁.named hnamed) (hpre vm₁ X₁.warmed)
  exact ⟨v, vm₁, B, X₁.warmed, X', hpost, fun target h => hstep₁ _ (by rw [doInvoke_state]; exact hsteps.trans h)⟩
end SX
section SY
variable {κ : Wc} {G : Gm} {cc : ByteArray} {nL d mc ms : Nat} {own : String} {pc : Nat} {ls : Lc} {st : List Value} {h : Mm} {n ca sl : Nat}
/-- x: the link's method; y: the method of the owner above x's class that it inherits; via: the classes between -/
theorem z_callSX (X : Ok κ G cc nL own d mc ms) {x y : MethodName} {bt : ByteArray} {mL : Nat} {ret : Option FieldType} {nP d' mc' ms' idx b ci N : Nat} {C mid : String} {T : u_T} {fs As rest : List Value} {Post : Pst} (hM : Con κ (gL G) y bt mL ret d' mc' ms' (.ref b :: As) h n Post) (hmk : MK y bt mL ret nP) (hd : decode cc pc = .ok (.invokespecial idx, 3)) (hlk : Cond.methodLink own idx x ∈ gtbl) (hy0 : y = ⟨y.cls, x.name, x.desc⟩) (hsm : Cond.sameMethod x.cls y.cls x.name x.desc ∈ gtbl) (hsu : Cond.superclass own x.cls ∈ gtbl)
    (hup : Cond.superclass x.cls y.cls ∈ gtbl ∨ (Cond.superclass x.cls mid ∈ gtbl ∧ Cond.superclass mid y.cls ∈ gtbl)) (hin : Cond.instanceMethod y ∈ gtbl) (hy : x.name ≠ "<init>") (hr : h b = some (.inr (ci, fs))) (hc : vwCl[ci]? = some (C, T, N)) (hn : As.length = nP) (hst : st = As.reverse ++ .ref b :: rest) (hrm : (rest.map fun v => v.category).sum ≤ 8) (hdd : d' + 1 ≤ d) (hmL : mL ≤ 45) (hca : ca + mc' ≤ mc) (hsl : sl + ms' ≤ ms)
    (kk : ∀ (r : Option Value) (h' : Mm) (n' : Nat), Post r h' n' → Z κ G nL (pc + 3) ls (r.toList ++ rest) h' n' (ca + mc') (sl + ms')) : Z κ G nL pc ls st h n ca sl := by
  subst hst
  obtain ⟨p, l, e, R, s, m, args, below, meth, c, Q⟩ := G
  obtain ⟨hx, hb, hml, hown, hts, hK, hB, hR1, hR2, hR3, hR4⟩ := X
  intro H locs la hF hS hl
  obtain ⟨k1, k2, k3, k4⟩ := hmk
  obtain ⟨yc, yn, yd⟩ := y
  cases hy0
  have hsb : ∀ cn t, s.vm.findClass x.cls = some cn → s.vm.findClass yc = some t → s.vm.isSubclass cn t = true := by
    intro cn t h1 h2
    rcases hup with h3 | ⟨h3, h4⟩
    · obtain ⟨p1, q1, q2, e1, e2, e3, e4, -⟩ := Cond.superclass_spec h1 (hts _ h3)
      cases e1.symm.trans h2
      exact sb_one e2 e4
    · obtain ⟨p1, q1, q2, e1, e2, e3, e4, -⟩ := Cond.superclass_spec h1 (hts _ h3)
      obtain ⟨p2, q3, q4, e5, e6, e7, e8, -⟩ := Cond.superclass_spec e1 (hts _ h4)
      cases e5.symm.trans h2
      exact sb_two e2 e4 e6 e8 e7
  have hG : GoodIn gtbl (Cond.code ⟨yc, x.name, x.desc⟩ bt mL ret :: gtbl) := g_good (g_cons k1 g_self)
  have hrun : va_Run p l e R s m args below meth c H locs ca sl mc' ms' (F0 m pc la (As.reverse ++ .ref b :: rest)) rest (PostF κ Post (Value.ref b :: As).toArray) (fun q => wB κ ≤ q) := by
    have hws := pay_in hts hG
    have hKb : Back l R p e below s args ⟨yc, x.name, x.desc⟩ 3 8 (PreOf R mc' ms' (PreF κ (.ref b :: As) h n)) (PostOf (PostF κ Post) mc' ms' (fun q => wB κ ≤ q)) := back_of (bytes := bt) (maxL := mL) (ret := ret) hM PreF.blind rfl rfl (Nat.le_trans hdd hR1) (show 8 + (mL + 11) + 64 * d' ≤ R.locals by omega) hws List.mem_cons_self (fun a' U hW => word_at hW (Or.inl (by first | rfl | simp [Cond.onTables, Cond.keeps, Cond.steady])) (hts _ k2))
    obtain ⟨cellB, hcB, hoB, hclB⟩ := z_recv hK hF hr hc
    obtain ⟨hfc, kB, hkB, -⟩ := (hK.1.1 ci _ hc).2
    have hcl := Option.some.inj (hfc.symm.trans hclB)
    rw [hcl] at hkB
    intro T0 hT X0
    obtain ⟨v, vm₁, ⟨U', l2, c2, s2⟩, hW₁, X', ⟨g', mk, t, L, e1, e2, hq, h1, hL, h2, h3⟩, stp⟩ := sx_call X0 hx (bytes := bt) (maxL := mL) (ret := ret) hown (hts _ hlk) (hts _ hsm) (hts _ hsu) hsb (hts _ hin) (hts _ k1) hy hKb (by rw [hT]; exact hcB) hoB hkB rfl (hl.1.trans hml.symm) (argsL := As) (rest := rest) (fun sig hh => by have h2 := k3.2.2; rw [hh] at h2; exact hn.trans (Option.some.inj h2).symm) rfl (lv_room hrm) (by rw [hb]; exact hd)
      (fun vm₁ hW₁ => ⟨Nat.le_trans hca hR3, Nat.le_trans hsl hR4, z_pre hK hF hS (T0.setVm vm₁) hT hW₁⟩)
    dsimp only [Pt.U, Pt.locs, Pt.cells, Pt.slots] at X' e1 e2 h1 h2 h3 stp
    subst h1; subst h2; subst h3
    exact ⟨v, (T0.setVm vm₁).calling g' mk (Value.ref b :: As).toArray, t, U', L, hT, X', hL, e1, e2, hq, stp⟩
  exact z_back hrun hB hS (fun r h' n' H1 locs1 hp hF1 hS1 => kk r h' n' hp H1 locs1 la hF1 hS1 hl)
/-- a known cell lies below the heap's end -/
theorem z_lts (k : (∀ (a : Nat) (c : va_E), h a = some c → a < n) → Z κ G nL pc ls st h n ca sl) : Z κ G nL pc ls st h n ca sl := by
  obtain ⟨p, l, e, R, s, m, args, below, meth, c, Q⟩ := G
  intro H locs la hF hS hl
  refine k (fun a c hc => ?_) H locs la hF hS hl
  have h1 := (hF.2.2 a c hc).2.lt
  rw [hF.1] at h1
  exact h1
end SY
