theorem PreF.blind {κ : Wc} {av : List Value} {h : Mm} {n : Nat} : FrameBlind (PreF κ av h n) := fun a U g mk q => ⟨q.1, q.2.1, KK.calling g mk a q.2.2⟩
section ZC
variable {κ : Wc} {G : Gm} {cc : ByteArray} {nL d mc ms : Nat} {own : String} {pc : Nat} {ls : Lc} {st : List Value} {h : Mm} {n ca sl : Nat}
/-- back from a call -/
theorem z_back {p : Program} {l : Launch} {e : Env} {R : Room} {s : State} {m : MethodId} {args : Array Value} {below : List Frame} {meth : Method} {c : Code} {Q : State → Prop} {H : Heap} {locs : List Loc} {mc' ms' : Nat} {la : Array Slot} {st0 rest : List Value} {Post : Pst} {a : Array Value} (hr : va_Run p l e R s m args below meth c H locs ca sl mc' ms' (F0 m pc la st0) rest (PostF κ Post a) (fun q => wB κ ≤ q)) (hB : wB κ ≤ s.heap.size) (hS : va_S (fun q => wB κ ≤ q) s.heap H locs)
    (kk : ∀ (r : Option Value) (h' : Mm) (n' : Nat) (H1 : Heap) (locs1 : List Loc), Post r h' n' → Fl κ h' n' H1 → va_S (fun q => wB κ ≤ q) s.heap H1 locs1 → W p l e R s m args below meth c H1 locs1 (ca + mc') (sl + ms') Q (F0 m (pc + 3) la (r.toList ++ rest))) : W p l e R s m args below meth c H locs ca sl Q (F0 m pc la st0) := by
  intro T hT X
  obtain ⟨v, st₀, t, T', L, h0, X', hL, e1, e2, ⟨r, h', n', hv, hp, hF, hz, hk⟩, stp⟩ := hr T hT X
  cases hv
  rw [h0] at hz hk
  have hS2 : va_S (fun q => wB κ ≤ q) s.heap T'.heap (locs ++ L) := ⟨Nat.le_trans hS.1 (by rw [e1]; exact hz), fun q h1 h2 => by rw [e1, hk q (Nat.not_le.mp h2)]; exact hS.2.1 q h1 h2, fun q hq => by
    rcases List.mem_append.mp hq with h | h
    · exact hS.2.2 q h
    · exact hL q h⟩
  obtain ⟨t2, a1, b1⟩ := kk v h' n' T'.heap (locs ++ L) hp (by rw [e1]; exact hF) hS2 T' rfl X'
  exact ⟨t2, stp t2 a1, b1⟩
theorem z_pre {s : State} {H : Heap} {locs : List Loc} {av : List Value} (hK : KK κ s s.heap) (hF : Fl κ h n H) (hS : va_S (fun q => wB κ ≤ q) s.heap H locs) : ∀ U : State, U.heap = H → s.WarmedH U.vm → PreF κ av h n av.toArray U := fun U hU hW => ⟨rfl, by rw [hU]; exact hF, hK.warm hW (fun a h1 h2 => by rw [hU]; exact hS.2.1 a h1 h2)⟩
theorem z_recv {s : State} {H : Heap} {b ci N : Nat} {C : String} {T : u_T} {fs : List Value} (hK : KK κ s s.heap) (hF : Fl κ h n H) (hr : h b = some (.inr (ci, fs))) (hc : vwCl[ci]? = some (C, T, N)) : ∃ cell : Cell, H[b]? = some cell ∧ cell.vm.isStatics = false ∧ s.vm.findClass C = some cell.cls := by
  have hP : va_P κ.1 vwCl [(b, .inr (ci, fs))] H := fun i q hq => by
    match i, hq with
    | 0, hq => cases hq; exact (hF.2.2 b _ hr).2
    | i + 1, hq => simp at hq
  exact va_recv (q0 := 0) (fs := fs) hK.1 hP hc rfl
theorem z_callV (X : Ok κ G cc nL own d mc ms) {y : MethodName} {bt : ByteArray} {mL : Nat} {ret : Option FieldType} {nP d' mc' ms' idx b ci N : Nat} {C : String} {T : u_T} {fs As rest : List Value} {Post : Pst} (hM : Con κ (gL G) y bt mL ret d' mc' ms' (.ref b :: As) h n Post) (hmk : MK y bt mL ret nP) (hd : decode cc pc = .ok (.invokevirtual idx, 3)) (hlk : Cond.methodLink own idx y ∈ gtbl) (hin : Cond.instanceMethod y ∈ gtbl) (hsel : Cond.selects C y y ∈ gtbl) (hC : y.cls = C) (hr : h b = some (.inr (ci, fs))) (hc : vwCl[ci]? = some (C, T, N)) (hn : As.length = nP) (hst : st = As.reverse ++ .ref b :: rest) (hrm : (rest.map fun v => v.category).sum ≤ 8) (hdd : d' + 1 ≤ d) (hmL : mL ≤ 45) (hca : ca + mc' ≤ mc) (hsl : sl + ms' ≤ ms)
    (kk : ∀ (r : Option Value) (h' : Mm) (n' : Nat), Post r h' n' → Z κ G nL (pc + 3) ls (r.toList ++ rest) h' n' (ca + mc') (sl + ms')) : Z κ G nL pc ls st h n ca sl := by
  subst hst
  obtain ⟨p, l, e, R, s, m, args, below, meth, c, Q⟩ := G
  obtain ⟨hx, hb, hml, hown, hts, hK, hB, hR1, hR2, hR3, hR4⟩ := X
  intro H locs la hF hS hl
  obtain ⟨k1, k2, k3, k4⟩ := hmk
  have hG : GoodIn gtbl (wsV own idx C y (Cond.code y bt mL ret :: gtbl)) := g_good (g_cons hlk (g_cons hin (g_cons hsel (g_cons (by rw [← hC]; exact k2) (g_cons k1 g_self)))))
  refine z_back (va_runV (As := As) (rest := rest) ⟨hx, hb, hml, hown, hts⟩ hM (cwV nP hts hG rfl rfl rfl ⟨hC, k3⟩ ⟨Nat.le_trans hdd hR1, ?_⟩) ⟨PreF.blind, z_recv hK hF hr hc, z_pre hK hF hS⟩ rfl hn hl.1 rfl (lv_room hrm) hd ⟨Nat.le_trans hca hR3, Nat.le_trans hsl hR4⟩) hB hS (fun r h' n' H1 locs1 hp hF1 hS1 => kk r h' n' hp H1 locs1 la hF1 hS1 hl)
  show 8 + (mL + 11) + 64 * d' ≤ R.locals
  omega
/-- a call whose named method x is inherited or overridden -/
theorem z_callU (X : Ok κ G cc nL own d mc ms) {x y : MethodName} {bt : ByteArray} {mL : Nat} {ret : Option FieldType} {nP d' mc' ms' idx b ci N : Nat} {C : String} {T : u_T} {fs As rest : List Value} {Post : Pst} {owner : String} (hM : Con κ (gL G) y bt mL ret d' mc' ms' (.ref b :: As) h n Post) (hmk : MK y bt mL ret nP) (hd : decode cc pc = .ok (.invokevirtual idx, 3)) (hlk : Cond.methodLink own idx x ∈ gtbl) (hsm : Cond.sameMethod x.cls owner x.name x.desc ∈ gtbl) (hi0 : Cond.instanceMethod ⟨owner, x.name, x.desc⟩ ∈ gtbl) {b0 : ByteArray} {m0 : Nat} {r0 : Option FieldType} (h0 : Cond.code ⟨owner, x.name, x.desc⟩ b0 m0 r0 ∈ gtbl) (hin : Cond.instanceMethod y ∈ gtbl) (hsel : Cond.selects C x y ∈ gtbl) (ho : owner ≠ "java/lang/invoke/MethodHandle" ∧ owner ≠ "java/lang/invoke/VarHandle") (hxy : x.desc = y.desc) (hr : h b = some (.inr (ci, fs))) (hc : vwCl[ci]? = some (C, T, N)) (hn : As.length = nP) (hst : st = As.reverse ++ .ref b :: rest) (hrm : (rest.map fun v => v.category).sum ≤ 8) (hdd : d' + 1 ≤ d) (hmL : mL ≤ 45) (hca : ca + mc' ≤ mc) (hsl : sl + ms' ≤ ms)
    (kk : ∀ (r : Option Value) (h' : Mm) (n' : Nat), Post r h' n' → Z κ G nL (pc + 3) ls (r.toList ++ rest) h' n' (ca + mc') (sl + ms')) : Z κ G nL pc ls st h n ca sl := by
  subst hst
  obtain ⟨p, l, e, R, s, m, args, below, meth, c, Q⟩ := G
  obtain ⟨hx, hb, hml, hown, hts, hK, hB, hR1, hR2, hR3, hR4⟩ := X
  intro H locs la hF hS hl
  obtain ⟨k1, k2, k3, k4⟩ := hmk
  have hG : GoodIn gtbl (va_wsO own idx C owner x y (Cond.code y bt mL ret :: gtbl)) := g_good (g_cons hlk (g_cons hsm (g_cons hi0 (g_cons hsel (g_cons hin (g_cons k2 (g_cons k1 g_self)))))))
  refine z_back (va_runU (As := As) (rest := rest) ⟨hx, hb, hml, hown, hts⟩ hM (va_cwO nP hts hG rfl rfl rfl h0 ⟨ho.1, ho.2, by rw [hxy]; exact k3.2.2⟩ ⟨Nat.le_trans hdd hR1, ?_⟩) ⟨PreF.blind, z_recv hK hF hr hc, z_pre hK hF hS⟩ rfl hn hl.1 rfl (lv_room hrm) hd ⟨Nat.le_trans hca hR3, Nat.le_trans hsl hR4⟩) hB hS (fun r h' n' H1 locs1 hp hF1 hS1 => kk r h' n' hp H1 locs1 la hF1 hS1 hl)
  show 8 + (mL + 11) + 64 * d' ≤ R.locals
  omega
theorem z_callS (X : Ok κ G cc nL own d mc ms) {y : MethodName} {bt : ByteArray} {mL : Nat} {ret : Option FieldType} {nP d' mc' ms' idx : Nat} {As rest : List Value} {Post : Pst} (hM : Con κ (gL G) y bt mL ret d' mc' ms' As h n Post) (hmk : MK y bt mL ret nP) (hd : decode cc pc = .ok (.invokestatic idx, 3)) (hlk : Cond.methodLink own idx y ∈ gtbl) (hsta : Cond.static y ∈ gtbl) (hn : As.length = nP) (hst : st = As.reverse ++ rest) (hrm : (rest.map fun v => v.category).sum ≤ 8) (hdd : d' + 1 ≤ d) (hmL : mL ≤ 45) (hca : ca + mc' ≤ mc) (hsl : sl + ms' ≤ ms)
    (kk : ∀ (r : Option Value) (h' : Mm) (n' : Nat), Post r h' n' → Z κ G nL (pc + 3) ls (r.toList ++ rest) h' n' (ca + mc') (sl + ms')) : Z κ G nL pc ls st h n ca sl := by
  subst hst
  obtain ⟨p, l, e, R, s, m, args, below, meth, c, Q⟩ := G
  obtain ⟨hx, hb, hml, hown, hts, hK, hB, hR1, hR2, hR3, hR4⟩ := X
  intro H locs la hF hS hl
  obtain ⟨k1, k2, k3, k4⟩ := hmk
  have hG : GoodIn gtbl (va_wsS own idx y (Cond.code y bt mL ret :: gtbl)) := g_good (g_cons hlk (g_cons hsta (g_cons k2 (g_cons k1 g_self))))
  refine z_back (va_runS (As := As) (rest := rest) ⟨hx, hb, hml, hown, hts⟩ hM (va_cwS nP hts hG rfl rfl rfl k3 ⟨Nat.le_trans hdd hR1, ?_⟩) ⟨PreF.blind, z_pre hK hF hS⟩ rfl hn hl.1 rfl (lv_room hrm) hd ⟨Nat.le_trans hca hR3, Nat.le_trans hsl hR4⟩) hB hS (fun r h' n' H1 locs1 hp hF1 hS1 => kk r h' n' hp H1 locs1 la hF1 hS1 hl)
  show 8 + (mL + 11) + 64 * d' ≤ R.locals
  omega
/-- a private static of a nest mate -/
theorem z_callSN (X : Ok κ G cc nL own d mc ms) {y : MethodName} {host : String} {bt : ByteArray} {mL : Nat} {ret : Option FieldType} {nP d' mc' ms' idx : Nat} {As rest : List Value} {Post : Pst} (hM : Con κ (gL G) y bt mL ret d' mc' ms' As h n Post) (hmk : MK y bt mL ret nP) (hd : decode cc pc = .ok (.invokestatic idx, 3)) (hlk : Cond.methodLinkNest own idx y host ∈ nwL) (hsta : Cond.static y ∈ gtbl) (hn : As.length = nP) (hst : st = As.reverse ++ rest) (hrm : (rest.map fun v => v.category).sum ≤ 8) (hdd : d' + 1 ≤ d) (hmL : mL ≤ 45) (hca : ca + mc' ≤ mc) (hsl : sl + ms' ≤ ms)
    (kk : ∀ (r : Option Value) (h' : Mm) (n' : Nat), Post r h' n' → Z κ G nL (pc + 3) ls (r.toList ++ rest) h' n' (ca + mc') (sl + ms')) : Z κ G nL pc ls st h n ca sl := by
  subst hst
  obtain ⟨p, l, e, R, s, m, args, below, meth, c, Q⟩ := G
  obtain ⟨hx, hb, hml, hown, hts, hK, hB, hR1, hR2, hR3, hR4⟩ := X
  intro H locs la hF hS hl
  obtain ⟨k1, k2, k3, k4⟩ := hmk
  refine z_back (va_runSN (As := As) (rest := rest) ⟨hx, hb, hml, hown, hts⟩ hM ⟨va_cnB nP hts (g_good (g_cons k1 g_self)) rfl rfl rfl (hK.2.2.1 _ hlk) (hts _ k2) k3 ⟨Nat.le_trans hdd hR1, ?_⟩, hts _ hsta, trivial⟩ ⟨PreF.blind, z_pre hK hF hS⟩ rfl hn hl.1 rfl (lv_room hrm) hd ⟨Nat.le_trans hca hR3, Nat.le_trans hsl hR4⟩) hB hS (fun r h' n' H1 locs1 hp hF1 hS1 => kk r h' n' hp H1 locs1 la hF1 hS1 hl)
  show 8 + (mL + 11) + 64 * d' ≤ R.locals
  omega
theorem z_callI (X : Ok κ G cc nL own d mc ms) {y : MethodName} {bt : ByteArray} {mL nP d' mc' ms' idx b : Nat} {As rest : List Value} {Post : Pst} (hM : Con κ (gL G) y bt mL none d' mc' ms' (.ref b :: As) h n Post) (hmk : MK y bt mL none nP) (hd : decode cc pc = .ok (.invokespecial idx, 3)) (hlk : Cond.methodLink own idx y ∈ gtbl) (hin : Cond.instanceMethod y ∈ gtbl) (hy : y.name = "<init>") (hn : As.length = nP) (hst : st = As.reverse ++ .ref b :: rest) (hrm : (rest.map fun v => v.category).sum ≤ 8) (hdd : d' + 1 ≤ d) (hmL : mL ≤ 45) (hca : ca + mc' ≤ mc) (hsl : sl + ms' ≤ ms)
    (kk : ∀ (r : Option Value) (h' : Mm) (n' : Nat), Post r h' n' → Z κ G nL (pc + 3) ls (r.toList ++ rest) h' n' (ca + mc') (sl + ms')) : Z κ G nL pc ls st h n ca sl := by
  subst hst
  obtain ⟨p, l, e, R, s, m, args, below, meth, c, Q⟩ := G
  obtain ⟨hx, hb, hml, hown, hts, hK, hB, hR1, hR2, hR3, hR4⟩ := X
  intro H locs la hF hS hl
  obtain ⟨k1, k2, k3, k4⟩ := hmk
  refine z_back (va_runI (As := As) (rest := rest) ⟨hx, hb, hml, hown, hts⟩ hM (cwI nP hts (g_good (g_cons k1 g_self)) rfl rfl rfl (hts _ k2) (hts _ hlk) (hts _ hin) hy k3 ⟨Nat.le_trans hdd hR1, ?_⟩) ⟨PreF.blind, z_pre hK hF hS⟩ rfl hn hl.1 rfl (lv_room hrm) hd ⟨Nat.le_trans hca hR3, Nat.le_trans hsl hR4⟩) hB hS (fun r h' n' H1 locs1 hp hF1 hS1 => kk r h' n' hp H1 locs1 la hF1 hS1 hl)
  show 8 + (mL + 11) + 64 * d' ≤ R.locals
  omega
theorem z_callIN (X : Ok κ G cc nL own d mc ms) {y : MethodName} {host : String} {bt : ByteArray} {mL nP d' mc' ms' idx b : Nat} {As rest : List Value} {Post : Pst} (hM : Con κ (gL G) y bt mL none d' mc' ms' (.ref b :: As) h n Post) (hmk : MK y bt mL none nP) (hd : decode cc pc = .ok (.invokespecial idx, 3)) (hlk : Cond.methodLinkNest own idx y host ∈ nwL) (hin : Cond.instanceMethod y ∈ gtbl) (hy : y.name = "<init>") (hn : As.length = nP) (hst : st = As.reverse ++ .ref b :: rest) (hrm : (rest.map fun v => v.category).sum ≤ 8) (hdd : d' + 1 ≤ d) (hmL : mL ≤ 45) (hca : ca + mc' ≤ mc) (hsl : sl + ms' ≤ ms)
    (kk : ∀ (r : Option Value) (h' : Mm) (n' : Nat), Post r h' n' → Z κ G nL (pc + 3) ls (r.toList ++ rest) h' n' (ca + mc') (sl + ms')) : Z κ G nL pc ls st h n ca sl := by
  subst hst
  obtain ⟨p, l, e, R, s, m, args, below, meth, c, Q⟩ := G
  obtain ⟨hx, hb, hml, hown, hts, hK, hB, hR1, hR2, hR3, hR4⟩ := X
  intro H locs la hF hS hl
  obtain ⟨k1, k2, k3, k4⟩ := hmk
  refine z_back (va_runIN (As := As) (rest := rest) ⟨hx, hb, hml, hown, hts⟩ hM ⟨va_cnB nP hts (g_good (g_cons k1 g_self)) rfl rfl rfl (hK.2.2.1 _ hlk) (hts _ k2) k3 ⟨Nat.le_trans hdd hR1, ?_⟩, hy, hts _ hin⟩ ⟨PreF.blind, z_pre hK hF hS⟩ rfl hn hl.1 rfl (lv_room hrm) hd ⟨Nat.le_trans hca hR3, Nat.le_trans hsl hR4⟩) hB hS (fun r h' n' H1 locs1 hp hF1 hS1 => kk r h' n' hp H1 locs1 la hF1 hS1 hl)
  show 8 + (mL + 11) + 64 * d' ≤ R.locals
  omega
/-- super.method() -/
theorem z_callSU (X : Ok κ G cc nL own d mc ms) {y : MethodName} {bt : ByteArray} {mL : Nat} {ret : Option FieldType} {nP d' mc' ms' idx b ci N : Nat} {C : String} {T : u_T} {fs As rest : List Value} {Post : Pst} (hM : Con κ (gL G) y bt mL ret d' mc' ms' (.ref b :: As) h n Post) (hmk : MK y bt mL ret nP) (hd : decode cc pc = .ok (.invokespecial idx, 3)) (hlk : Cond.methodLink own idx y ∈ gtbl) (hsm : Cond.sameMethod y.cls y.cls y.name y.desc ∈ gtbl) (hsu : Cond.superclass own y.cls ∈ gtbl) (hin : Cond.instanceMethod y ∈ gtbl) (hy : y.name ≠ "<init>") (hr : h b = some (.inr (ci, fs))) (hc : vwCl[ci]? = some (C, T, N)) (hn : As.length = nP) (hst : st = As.reverse ++ .ref b :: rest) (hrm : (rest.map fun v => v.category).sum ≤ 8) (hdd : d' + 1 ≤ d) (hmL : mL ≤ 45) (hca : ca + mc' ≤ mc) (hsl : sl + ms' ≤ ms)
    (kk : ∀ (r : Option Value) (h' : Mm) (n' : Nat), Post r h' n' → Z κ G nL (pc + 3) ls (r.toList ++ rest) h' n' (ca + mc') (sl + ms')) : Z κ G nL pc ls st h n ca sl := by
  subst hst
  obtain ⟨p, l, e, R, s, m, args, below, meth, c, Q⟩ := G
  obtain ⟨hx, hb, hml, hown, hts, hK, hB, hR1, hR2, hR3, hR4⟩ := X
  intro H locs la hF hS hl
  obtain ⟨k1, k2, k3, k4⟩ := hmk
  have hG : GoodIn gtbl (va_wsSU own idx y (Cond.code y bt mL ret :: gtbl)) := g_good (g_cons hlk (g_cons hsm (g_cons hsu (g_cons hin (g_cons k2 (g_cons k1 g_self))))))
  refine z_back (va_runSU (As := As) (rest := rest) (hK.1.1 ci _ hc).2 ⟨hx, hb, hml, hown, hts⟩ hM (va_cwSU nP hts hG rfl rfl rfl ⟨hy, k3.2.2⟩ ⟨Nat.le_trans hdd hR1, ?_⟩) ⟨PreF.blind, z_recv hK hF hr hc, z_pre hK hF hS⟩ rfl hn hl.1 rfl (lv_room hrm) hd ⟨Nat.le_trans hca hR3, Nat.le_trans hsl hR4⟩) hB hS (fun r h' n' H1 locs1 hp hF1 hS1 => kk r h' n' hp H1 locs1 la hF1 hS1 hl)
  show 8 + (mL + 11) + 64 * d' ≤ R.locals
  omega
theorem z_objInit (X : Ok κ G cc nL own d mc ms) {idx a : Nat} (hd : decode cc pc = .ok (.invokespecial idx, 3)) (hlk : Cond.methodLink own idx Lib.objectInit ∈ gtbl) (hi : Cond.instanceMethod Lib.objectInit ∈ gtbl) (hc : Cond.code Lib.objectInit ⟨#[0xb1]⟩ 1 none ∈ gtbl) (hdd : 1 ≤ d) (hrm : (st.map fun v => v.category).sum ≤ 8) (k : Z κ G nL (pc + 3) ls st h n ca sl) : Z κ G nL pc ls (.ref a :: st) h n ca sl := by
  obtain ⟨p, l, e, R, s, m, args, below, meth, c, Q⟩ := G
  obtain ⟨hx, hb, hml, hown, hts, hK, hB, hR1, hR2, hR3, hR4⟩ := X
  intro H locs la hF hS hl
  refine W.objInit hx hb hown (hts _ hlk) (hts _ hi) (hts _ hc) rfl (by rw [hml]; exact hl.1) rfl hd (Nat.le_trans hdd hR1) (by show 2 * 0 + _ + 12 ≤ _; omega) (k H locs la hF hS hl)
-- ends
theorem z_end {s t : State} {H : Heap} {locs : List Loc} {av : Array Value} {Post : Pst} {r : Option Value} (hF : Fl κ h n H) (hS : va_S (fun q => wB κ ≤ q) s.heap H locs) (hB : wB κ ≤ s.heap.size) (hp : Post r h n) (ht : t.heap = H) : PostF κ Post av s (.returned r) t := ⟨r, h, n, rfl, hp, by rw [ht]; exact hF, by rw [ht]; exact hS.1, fun q hq => by rw [ht]; exact hS.2.1 q (Nat.lt_of_lt_of_le hq hB) (Nat.not_le.mpr hq)⟩
theorem z_iret (X : Ok κ G cc nL own d mc ms) {nm : String} {mc' ms' : Nat} {Post : Pst} (E : Re κ G (some .int) nm mc' ms' Post) {v : Int32} (hd : decode cc pc = .ok (.ireturn, 1)) (hca : ca ≤ mc') (hsl : sl ≤ ms') (hp : Post (some (.int v)) h n) : Z κ G nL pc ls [.int v] h n ca sl := by
  obtain ⟨p, l, e, R, s, m, args, below, meth, c, Q⟩ := G
  obtain ⟨hx, hb, hml, hown, hts, hK, hB, hR1, hR2, hR3, hR4⟩ := X
  obtain ⟨hr, hlk, -, rfl⟩ := E
  intro H locs la hF hS hl
  exact W.widen hca hsl (W.iret hx hb hr (fun t ht _ => z_end hF hS hB hp ht) hS.2.2 hd hlk)
theorem z_zret (X : Ok κ G cc nL own d mc ms) {nm : String} {mc' ms' : Nat} {Post : Pst} (E : Re κ G (some .boolean) nm mc' ms' Post) {v : Int32} (hd : decode cc pc = .ok (.ireturn, 1)) (hn : narrow .boolean (.int v) = .int v) (hca : ca ≤ mc') (hsl : sl ≤ ms') (hp : Post (some (.int v)) h n) : Z κ G nL pc ls [.int v] h n ca sl := by
  obtain ⟨p, l, e, R, s, m, args, below, meth, c, Q⟩ := G
  obtain ⟨hx, hb, hml, hown, hts, hK, hB, hR1, hR2, hR3, hR4⟩ := X
  obtain ⟨hr, hlk, -, rfl⟩ := E
  intro H locs la hF hS hl
  exact W.widen hca hsl (W.zret hx hb hr hn (fun t ht _ => z_end hF hS hB hp ht) hS.2.2 hd hlk)
theorem z_vret (X : Ok κ G cc nL own d mc ms) {nm : String} {mc' ms' : Nat} {Post : Pst} (E : Re κ G none nm mc' ms' Post) (hd : decode cc pc = .ok (.return_, 1)) (hca : ca ≤ mc') (hsl : sl ≤ ms') (hp : Post none h n) : Z κ G nL pc ls [] h n ca sl := by
  obtain ⟨p, l, e, R, s, m, args, below, meth, c, Q⟩ := G
  obtain ⟨hx, hb, hml, hown, hts, hK, hB, hR1, hR2, hR3, hR4⟩ := X
  obtain ⟨hr, hlk, -, rfl⟩ := E
  intro H locs la hF hS hl
  exact W.widen hca hsl (W.vret hx hb hr (fun t ht _ => z_end hF hS hB hp ht) hS.2.2 hd hlk)
theorem z_aret (X : Ok κ G cc nL own d mc ms) {nm C : String} {mc' ms' : Nat} {Post : Pst} (E : Re κ G (some (.object C)) nm mc' ms' Post) {v : Value} (hv : v = .null ∨ ∃ a, v = .ref a) (hd : decode cc pc = .ok (.areturn, 1)) (hca : ca ≤ mc') (hsl : sl ≤ ms') (hp : Post (some v) h n) : Z κ G nL pc ls [v] h n ca sl := by
  obtain ⟨p, l, e, R, s, m, args, below, meth, c, Q⟩ := G
  obtain ⟨hx, hb, hml, hown, hts, hK, hB, hR1, hR2, hR3, hR4⟩ := X
  obtain ⟨hr, hlk, -, rfl⟩ := E
  intro H locs la hF hS hl
  exact W.widen hca hsl (W.aret hx hb hr (Or.inl ⟨_, rfl⟩) hv (fun t ht _ => z_end hF hS hB hp ht) hS.2.2 hd hlk)
-- statics
theorem z_gets (X : Ok κ G cc nL own d mc ms) {idx t N : Nat} {nm : String} {f : Nat → Value} (j : Nat) (hj : (stL κ)[j]? = some (nm, t, N, f)) (hd : decode cc pc = .ok (.getstatic idx, 3)) (hlk : Cond.fieldLink own idx "IcicleRings" nm "[I" ∈ gtbl) (k : Z κ G nL (pc + 3) ls (.ref t :: st) h n ca sl) : Z κ G nL pc ls st h n ca sl := by
  obtain ⟨p, l, e, R, s, m, args, below, meth, c, Q⟩ := G
  obtain ⟨hx, hb, hml, hown, hts, hK, hB, hR1, hR2, hR3, hR4⟩ := X
  intro H locs la hF hS hl
  exact va_gets hx hb (hK.2.2.2.2 _ (List.mem_of_getElem? hj)).1 hS hown (hts _ hlk) (fun _ q => q) hd (k H locs la hF hS hl)
theorem z_getsN (X : Ok κ G cc nL own d mc ms) {idx t N : Nat} {nm host : String} {f : Nat → Value} (j : Nat) (hj : (stL κ)[j]? = some (nm, t, N, f)) (hd : decode cc pc = .ok (.getstatic idx, 3)) (hlk : Cond.fieldLinkNest own idx "IcicleRings" nm "[I" host ∈ nwL) (k : Z κ G nL (pc + 3) ls (.ref t :: st) h n ca sl) : Z κ G nL pc ls st h n ca sl := by
  obtain ⟨p, l, e, R, s, m, args, below, meth, c, Q⟩ := G
  obtain ⟨hx, hb, hml, hown, hts, hK, hB, hR1, hR2, hR3, hR4⟩ := X
  intro H locs la hF hS hl
  exact va_getsN hx hb (hK.2.2.2.2 _ (List.mem_of_getElem? hj)).1 hS hown (va_Nw.use rfl (hK.2.2.1 _ hlk)) (fun _ q => q) hd (k H locs la hF hS hl)
theorem z_ti (X : Ok κ G cc nL own d mc ms) {t N : Nat} {nm : String} {f : Nat → Value} {i : Int32} {v : Value} (j : Nat) (hj : (stL κ)[j]? = some (nm, t, N, f)) (hd : decode cc pc = .ok (.iaload, 1)) (hi : vp_in i N) (hv : f i.toNatClampNeg = v) (k : Z κ G nL (pc + 1) ls (v :: st) h n ca sl) : Z κ G nL pc ls (.int i :: .ref t :: st) h n ca sl := by
  obtain ⟨p, l, e, R, s, m, args, below, meth, c, Q⟩ := G
  obtain ⟨hx, hb, hml, hown, hts, hK, hB, hR1, hR2, hR3, hR4⟩ := X
  intro H locs la hF hS hl
  exact va_ti hx hb (hK.2.2.2.2 _ (List.mem_of_getElem? hj)).2 hS hi hv hd (k H locs la hF hS hl)
-- Math
theorem z_mmax (X : Ok κ G cc nL own d mc ms) {idx : Nat} {x y : Int32} (hd : decode cc pc = .ok (.invokestatic idx, 3)) (hlk : Cond.methodLink own idx Lib.Math.max.name ∈ gtbl) (h1 : Cond.static Lib.Math.max.name ∈ gtbl) (h2 : Cond.initialized "java/lang/Math" ∈ gtbl) (h3 : Cond.code Lib.Math.max.name Lib.Math.max.code 2 (some .int) ∈ gtbl) (hdd : 1 ≤ d) (hrm : (st.map fun v => v.category).sum ≤ 8) (hca : ca ≤ mc) (hsl : sl ≤ ms) (k : Z κ G nL (pc + 3) ls (.int (if x < y then y else x) :: st) h n ca sl) : Z κ G nL pc ls (.int y :: .int x :: st) h n ca sl := by
  obtain ⟨p, l, e, R, s, m, args, below, meth, c, Q⟩ := G
  obtain ⟨hx, hb, hml, hown, hts, hK, hB, hR1, hR2, hR3, hR4⟩ := X
  intro H locs la hF hS hl
  exact va_mmax hx hb (by rw [hml]; exact hl.1.symm) hown (hts _ hlk) (hts _ h1) (hts _ h2) (hts _ h3) (Nat.le_trans hdd hR1) (by omega) (Nat.le_trans hca hR3) (Nat.le_trans hsl hR4) hd (k H locs la hF hS hl)
theorem z_mmin (X : Ok κ G cc nL own d mc ms) {idx : Nat} {x y : Int32} (hd : decode cc pc = .ok (.invokestatic idx, 3)) (hlk : Cond.methodLink own idx Lib.Math.min.name ∈ gtbl) (h1 : Cond.static Lib.Math.min.name ∈ gtbl) (h2 : Cond.initialized "java/lang/Math" ∈ gtbl) (h3 : Cond.code Lib.Math.min.name Lib.Math.min.code 2 (some .int) ∈ gtbl) (hdd : 1 ≤ d) (hrm : (st.map fun v => v.category).sum ≤ 8) (hca : ca ≤ mc) (hsl : sl ≤ ms) (k : Z κ G nL (pc + 3) ls (.int (if y < x then y else x) :: st) h n ca sl) : Z κ G nL pc ls (.int y :: .int x :: st) h n ca sl := by
  obtain ⟨p, l, e, R, s, m, args, below, meth, c, Q⟩ := G
  obtain ⟨hx, hb, hml, hown, hts, hK, hB, hR1, hR2, hR3, hR4⟩ := X
  intro H locs la hF hS hl
  exact va_mmin hx hb (by rw [hml]; exact hl.1.symm) hown (hts _ hlk) (hts _ h1) (hts _ h2) (hts _ h3) (Nat.le_trans hdd hR1) (by omega) (Nat.le_trans hca hR3) (Nat.le_trans hsl hR4) hd (k H locs la hF hS hl)
theorem z_mminl (X : Ok κ G cc nL own d mc ms) {idx : Nat} {x y : Int64} (hd : decode cc pc = .ok (.invokestatic idx, 3)) (hlk : Cond.methodLink own idx Lib.MathLoose.min_long.x ∈ gtbl) (h1 : Cond.static Lib.MathLoose.min_long.x ∈ gtbl) (h2 : Cond.initialized "java/lang/Math" ∈ gtbl) (h3 : Cond.code Lib.MathLoose.min_long.x Lib.MathLoose.min_long.code 4 (some .long) ∈ gtbl) (hdd : 1 ≤ d) (hrm : (st.map fun v => v.category).sum ≤ 8) (hca : ca ≤ mc) (hsl : sl ≤ ms) (k : Z κ G nL (pc + 3) ls (.long (if y < x then y else x) :: st) h n ca sl) : Z κ G nL pc ls (.long y :: .long x :: st) h n ca sl := by
  obtain ⟨p, l, e, R, s, m, args, below, meth, c, Q⟩ := G
  obtain ⟨hx, hb, hml, hown, hts, hK, hB, hR1, hR2, hR3, hR4⟩ := X
  intro H locs la hF hS hl
  exact va_mmin_long hx hb (by rw [hml]; exact hl.1.symm) hown (hts _ hlk) (hts _ h1) (hts _ h2) (hts _ h3) (Nat.le_trans hdd hR1) (by omega) (Nat.le_trans hca hR3) (Nat.le_trans hsl hR4) hd (k H locs la hF hS hl)
theorem z_mabsl (X : Ok κ G cc nL own d mc ms) {idx : Nat} {x : Int64} (hd : decode cc pc = .ok (.invokestatic idx, 3)) (hlk : Cond.methodLink own idx Lib.MathLoose.abs_long.x ∈ gtbl) (h1 : Cond.static Lib.MathLoose.abs_long.x ∈ gtbl) (h2 : Cond.initialized "java/lang/Math" ∈ gtbl) (h3 : Cond.code Lib.MathLoose.abs_long.x Lib.MathLoose.abs_long.code 2 (some .long) ∈ gtbl) (hdd : 1 ≤ d) (hrm : (st.map fun v => v.category).sum ≤ 8) (hca : ca ≤ mc) (hsl : sl ≤ ms) (k : Z κ G nL (pc + 3) ls (.long (if 0 < x then x else -x) :: st) h n ca sl) : Z κ G nL pc ls (.long x :: st) h n ca sl := by
  obtain ⟨p, l, e, R, s, m, args, below, meth, c, Q⟩ := G
  obtain ⟨hx, hb, hml, hown, hts, hK, hB, hR1, hR2, hR3, hR4⟩ := X
  intro H locs la hF hS hl
  exact va_mabs_long hx hb (by rw [hml]; exact hl.1.symm) hown (hts _ hlk) (hts _ h1) (hts _ h2) (hts _ h3) (Nat.le_trans hdd hR1) (by omega) (Nat.le_trans hca hR3) (Nat.le_trans hsl hR4) hd (k H locs la hF hS hl)
end ZC
