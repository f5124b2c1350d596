def nwL : List Cond := [
  (Jvm.Cond.methodLinkNest "IcicleRings" (9 : Nat) ({ cls := "IcicleRings$Kept", name := "<init>", desc := "()V" } : Jvm.MethodName) "IcicleRings"),
  (Jvm.Cond.fieldLinkNest "IcicleRings$Icicle" (33 : Nat) "IcicleRings" "SETTING_FIRST" "[I" "IcicleRings"),
  (Jvm.Cond.methodLinkNest "IcicleRings$Icicle" (64 : Nat) ({ cls := "IcicleRings", name := "within", desc := "(III)Z" } : Jvm.MethodName) "IcicleRings"),
  (Jvm.Cond.methodLinkNest "IcicleRings$Row" (26 : Nat) ({ cls := "IcicleRings", name := "within", desc := "(III)Z" } : Jvm.MethodName) "IcicleRings"),
  (Jvm.Cond.fieldLinkNest "IcicleRings$Icicle" (72 : Nat) "IcicleRings" "USE_SETTING" "[I" "IcicleRings"),
  (Jvm.Cond.fieldLinkNest "IcicleRings$Icicle" (75 : Nat) "IcicleRings" "SETTING_LEAST" "[I" "IcicleRings"),
  (Jvm.Cond.fieldLinkNest "IcicleRings$Icicle" (82 : Nat) "IcicleRings" "SETTING_MOST" "[I" "IcicleRings"),
  (Jvm.Cond.methodLinkNest "IcicleRings" (166 : Nat) ({ cls := "IcicleRings$Text", name := "<init>", desc := "()V" } : Jvm.MethodName) "IcicleRings"),
  (Jvm.Cond.methodLinkNest "IcicleRings$Text" (75 : Nat) ({ cls := "IcicleRings", name := "within", desc := "(III)Z" } : Jvm.MethodName) "IcicleRings"),
  (Jvm.Cond.declares ({ cls := "IcicleRings$Cause", name := "moves", desc := "(ILIcicleRings$Row;)I" } : Jvm.MethodName)),
  (Jvm.Cond.declares ({ cls := "IcicleRings$Cause", name := "tells", desc := "(ILIcicleRings$Row;)I" } : Jvm.MethodName)),
  (Jvm.Cond.declares ({ cls := "IcicleRings$Ringed", name := "runs", desc := "(ILIcicleRings$Row;)I" } : Jvm.MethodName)),
  (Jvm.Cond.castable "IcicleRings$Forked" "IcicleRings$Tips"),
  (Jvm.Cond.castable "IcicleRings$Ringed" "IcicleRings$Side"),
  (Jvm.Cond.castable "IcicleRings$Salted" "IcicleRings$Side"),
  (Jvm.Cond.castable "IcicleRings$Salted" "IcicleRings$Ringed"),
  (Jvm.Cond.castable "IcicleRings$Tips" "IcicleRings$Cause"),
  (Jvm.Cond.castable "IcicleRings$Side" "IcicleRings$Cause"),
  (Jvm.Cond.castable "IcicleRings$Ringed" "IcicleRings$Cause"),
  (Jvm.Cond.castable "IcicleRings$Salted" "IcicleRings$Cause"),
  (Jvm.Cond.castable "IcicleRings$Leaning" "IcicleRings$Cause"),
  (Jvm.Cond.castable "IcicleRings$Forked" "IcicleRings$Cause")]
def ncL : List (String × String) := [("IcicleRings$Side", "IcicleRings$Tips"), ("IcicleRings$Ringed", "IcicleRings$Tips"), ("IcicleRings$Salted", "IcicleRings$Tips"), ("IcicleRings$Leaning", "IcicleRings$Tips"), ("IcicleRings$Cause", "IcicleRings$Tips"), ("IcicleRings$Tips", "IcicleRings$Side"), ("IcicleRings$Leaning", "IcicleRings$Side"), ("IcicleRings$Forked", "IcicleRings$Side"), ("IcicleRings$Cause", "IcicleRings$Side"), ("IcicleRings$Tips", "IcicleRings$Ringed"), ("IcicleRings$Side", "IcicleRings$Ringed"), ("IcicleRings$Leaning", "IcicleRings$Ringed"), ("IcicleRings$Forked", "IcicleRings$Ringed"), ("IcicleRings$Cause", "IcicleRings$Ringed"), ("IcicleRings$Tips", "IcicleRings$Salted"), ("IcicleRings$Side", "IcicleRings$Salted"), ("IcicleRings$Ringed", "IcicleRings$Salted"), ("IcicleRings$Leaning", "IcicleRings$Salted"), ("IcicleRings$Forked", "IcicleRings$Salted"), ("IcicleRings$Cause", "IcicleRings$Salted"), ("IcicleRings$Tips", "IcicleRings$Leaning"), ("IcicleRings$Side", "IcicleRings$Leaning"), ("IcicleRings$Ringed", "IcicleRings$Leaning"), ("IcicleRings$Salted", "IcicleRings$Leaning"), ("IcicleRings$Forked", "IcicleRings$Leaning"), ("IcicleRings$Cause", "IcicleRings$Leaning"), ("IcicleRings$Tips", "IcicleRings$Forked"), ("IcicleRings$Side", "IcicleRings$Forked"), ("IcicleRings$Ringed", "IcicleRings$Forked"), ("IcicleRings$Salted", "IcicleRings$Forked"), ("IcicleRings$Leaning", "IcicleRings$Forked"), ("IcicleRings$Cause", "IcicleRings$Forked")]
theorem nw_tab : ∀ w ∈ nwL, w.onTables = true := by decide +kernel
theorem nw_warm (w : Cond) (hw : w ∈ nwL) {s U : State} (hW : s.WarmedH U.vm) (h : va_Nw w s) : va_Nw w U := by
  simp only [nwL, List.mem_cons, List.not_mem_nil, or_false] at hw
  rcases hw with rfl | rfl | rfl | rfl | rfl | rfl | rfl | rfl | rfl | rfl | rfl | rfl | rfl | rfl | rfl | rfl | rfl | rfl | rfl | rfl | rfl | rfl
  · exact va_Nw.warmM hW h
  · exact va_Nw.warmF hW h
  · exact va_Nw.warmM hW h
  · exact va_Nw.warmM hW h
  · exact va_Nw.warmF hW h
  · exact va_Nw.warmF hW h
  · exact va_Nw.warmF hW h
  · exact va_Nw.warmM hW h
  · exact va_Nw.warmM hW h
  · exact va_Nw.warmD hW h
  · exact va_Nw.warmD hW h
  · exact va_Nw.warmD hW h
  · exact va_Nw.warmC hW h
  · exact va_Nw.warmC hW h
  · exact va_Nw.warmC hW h
  · exact va_Nw.warmC hW h
  · exact va_Nw.warmC hW h
  · exact va_Nw.warmC hW h
  · exact va_Nw.warmC hW h
  · exact va_Nw.warmC hW h
  · exact va_Nw.warmC hW h
  · exact va_Nw.warmC hW h
/-! The flat world: memory is a partial function from addresses to cells; one judgement Z for a walk, one form Con for a contract. -/
abbrev Gm : Type := Program × Launch × Env × Room × State × MethodId × Array Value × List Frame × Method × Code × (State → Prop)
abbrev Wc : Type := va_G × (Nat → ClassId) × Nat × (Nat → Nat)
abbrev Mm : Type := Nat → Option va_E
abbrev wB (κ : Wc) : Nat := κ.2.2.1
abbrev Lc : Type := List (Nat × Value)
abbrev Pst : Type := Option Value → Mm → Nat → Prop
def gtbl : List Cond := lw_tbl.filter goodWord
theorem g_mem {w : Cond} (i : Nat) (h : lw_tbl[i]? = some w) (hg : goodWord w = true) : w ∈ gtbl := List.mem_filter.mpr ⟨List.mem_of_getElem? h, hg⟩
theorem g_good {ws : List Cond} (h : ∀ w ∈ ws, w ∈ gtbl) : GoodIn gtbl ws := fun w hw => ⟨h w hw, good_of_word (List.mem_filter.mp (h w hw)).2⟩
theorem g_cons {w : Cond} {ws : List Cond} (h : w ∈ gtbl) (hs : ∀ v ∈ ws, v ∈ gtbl) : ∀ v ∈ w :: ws, v ∈ gtbl := List.forall_mem_cons.mpr ⟨h, hs⟩
theorem g_self : ∀ w ∈ gtbl, w ∈ gtbl := fun _ h => h
def wT (κ : Wc) : List (ClassId × FieldType) := [(κ.2.1 0, .int), (κ.2.1 1, .object "IcicleRings$Cause"), (κ.2.1 2, .object "IcicleRings$Text"), (κ.2.1 3, .object "IcicleRings$Row")]
def aoL : List String := ["IcicleRings$Cause", "IcicleRings$Text", "IcicleRings$Row"]
def iv (l : List Int32) : Nat → Value := fun k => .int (l.getD k 0)
def stL (κ : Wc) : List (String × Nat × Nat × (Nat → Value)) := [("SETTING_LEAST", κ.2.2.2 0, 6, iv [0, 0, -50, 0, 1, 0]), ("SETTING_MOST", κ.2.2.2 1, 6, iv [9999, 99, 99, 99, 999, 9999999]), ("SETTING_FIRST", κ.2.2.2 2, 6, iv [200, 0, 20, 0, 50, 100000]), ("USE_SETTING", κ.2.2.2 3, 2, iv [0, 2]), ("BOX_SETTING", κ.2.2.2 4, 3, iv [2, 3, 1])]
def KK (κ : Wc) (U : State) (H : Heap) : Prop :=
  va_K κ.1 vwCl (wT κ) U ∧ (∀ C ∈ aoL, va_AO C U) ∧ (∀ w ∈ nwL, va_Nw w U) ∧ (∀ q ∈ ncL, va_Nc q.1 q.2 U) ∧ ∀ q ∈ stL κ, va_Z "IcicleRings" q.1 "[I" (.ref q.2.1) (fun a => wB κ ≤ a) U H ∧ va_T .int q.2.1 q.2.2.1 q.2.2.2 (fun a => wB κ ≤ a) U H
theorem KK.warm {κ : Wc} {s U : State} {H : Heap} (h : KK κ s s.heap) (hW : s.WarmedH U.vm) (hk : ∀ a : Nat, a < s.heap.size → ¬ wB κ ≤ a → H[a]? = s.heap[a]?) : KK κ U H := by
  obtain ⟨h1, h2, h3, h4, h5⟩ := h
  exact ⟨va_K.moved hW.alike h1, fun C hC => va_AO.moved hW.alike (h2 C hC), fun w hw => nw_warm w hw hW (h3 w hw), fun q hq => va_Nc.moved hW.alike (h4 q hq), fun q hq => ⟨va_Z.kept (va_Z.moved hW.alike (h5 q hq).1) hk, va_T.kept (va_T.moved hW.alike (h5 q hq).2) hk⟩⟩
theorem KK.calling {κ : Wc} {U : State} {H : Heap} (g : JFrame) (mk : MethodId) (a : Array Value) (h : KK κ U H) : KK κ (U.calling g mk a) H := by
  obtain ⟨h1, h2, h3, h4, h5⟩ := h
  exact ⟨va_K.moved (u := U) (U := U.calling g mk a) (Vm.Alike.refl U.vm) h1, fun C hC => va_AO.moved (u := U) (U := U.calling g mk a) (Vm.Alike.refl U.vm) (h2 C hC), fun w hw => va_Nw.same (u := U) (U := U.calling g mk a) (nw_tab w hw) rfl (h3 w hw), fun q hq => va_Nc.moved (u := U) (U := U.calling g mk a) (Vm.Alike.refl U.vm) (h4 q hq), fun q hq => ⟨va_Z.moved (u := U) (U := U.calling g mk a) (Vm.Alike.refl U.vm) (h5 q hq).1, va_T.moved (u := U) (U := U.calling g mk a) (Vm.Alike.refl U.vm) (h5 q hq).2⟩⟩
def Fl (κ : Wc) (h : Mm) (n : Nat) (H : Heap) : Prop := H.size = n ∧ wB κ ≤ n ∧ ∀ (a : Nat) (c : va_E), h a = some c → wB κ ≤ a ∧ va_at κ.1 vwCl (a, c) H
theorem Fl.put {κ : Wc} {h : Mm} {n : Nat} {H H1 : Heap} {a : Nat} {c c0 : va_E} (hF : Fl κ h n H) (h0 : h a = some c0) (hc : va_at κ.1 vwCl (a, c) H1) (z : H1.size = H.size) (oq : ∀ q : Nat, q ≠ a → H1[q]? = H[q]?) : Fl κ (va_up h a (some c)) n H1 := by
  refine ⟨z.trans hF.1, hF.2.1, fun b d hb => ?_⟩
  by_cases e : b = a
  · subst e
    rw [va_up_self] at hb
    cases hb
    exact ⟨(hF.2.2 b c0 h0).1, hc⟩
  · rw [va_up_ne _ _ e] at hb
    obtain ⟨g1, g2⟩ := hF.2.2 b d hb
    exact ⟨g1, va_at.kept g2 (oq b e)⟩
theorem Fl.push {κ : Wc} {h : Mm} {n : Nat} {H H1 : Heap} {c : va_E} (hF : Fl κ h n H) (hc : va_at κ.1 vwCl (n, c) H1) (z : H1.size = n + 1) (oq : ∀ q : Nat, q < n → H1[q]? = H[q]?) : Fl κ (va_up h n (some c)) (n + 1) H1 := by
  refine ⟨z, Nat.le_succ_of_le hF.2.1, fun b d hb => ?_⟩
  by_cases e : b = n
  · subst e
    rw [va_up_self] at hb
    cases hb
    exact ⟨hF.2.1, hc⟩
  · rw [va_up_ne _ _ e] at hb
    obtain ⟨g1, g2⟩ := hF.2.2 b d hb
    have hl : b < H.size := g2.lt
    rw [hF.1] at hl
    exact ⟨g1, va_at.kept g2 (oq b hl)⟩
def rmD (d mc ms : Nat) : Room := { frames := d, cells := mc, slots := ms, locals := 64 * d }
def PreF (κ : Wc) (av : List Value) (h : Mm) (n : Nat) : Array Value → State → Prop := fun v U => v = av.toArray ∧ Fl κ h n U.heap ∧ KK κ U U.heap
def PostF (κ : Wc) (Post : Pst) : Array Value → State → Outcome → State → Prop := fun _ st o t => ∃ (r : Option Value) (h : Mm) (n : Nat), o = .returned r ∧ Post r h n ∧ Fl κ h n t.heap ∧ st.heap.size ≤ t.heap.size ∧ ∀ q : Nat, q < wB κ → t.heap[q]? = st.heap[q]?
def Con (κ : Wc) (l : Launch) (y : MethodName) (bt : ByteArray) (mL : Nat) (ret : Option FieldType) (d mc ms : Nat) (av : List Value) (h : Mm) (n : Nat) (Post : Pst) : Prop :=
  Met l y (.code y bt mL ret :: gtbl) (rmD d mc ms) (PreF κ av h n) (PostF κ Post) mc ms (fun q => wB κ ≤ q)
def Z (κ : Wc) (G : Gm) (nL pc : Nat) (ls : Lc) (st : List Value) (h : Mm) (n ca sl : Nat) : Prop := match G with
  | (p, l, e, R, s, m, args, below, meth, c, Q) => ∀ (H : Heap) (locs : List Loc) (la : Array Slot), Fl κ h n H → va_S (fun a => wB κ ≤ a) s.heap H locs → lv_has la nL ls → W p l e R s m args below meth c H locs ca sl Q (F0 m pc la st)
def Ok (κ : Wc) (G : Gm) (cc : ByteArray) (nL : Nat) (own : String) (d mc ms : Nat) : Prop := match G with
  | (p, _, _, R, s, m, args, _, _, c, _) => p.tables.exec = Jvm.exec ∧ c.code = cc ∧ c.maxLocals = nL ∧ s.vm.findClass own = some m.cls ∧ (∀ w ∈ gtbl, w.before args s = true) ∧ KK κ s s.heap ∧ wB κ ≤ s.heap.size ∧ d ≤ R.frames ∧ 64 * d ≤ R.locals ∧ mc ≤ R.cells ∧ ms ≤ R.slots
def Re (κ : Wc) (G : Gm) (ret : Option FieldType) (nm : String) (mc ms : Nat) (Post : Pst) : Prop := match G with
  | (_, _, _, _, s, _, args, below, meth, _, Q) => meth.sig.returnType = ret ∧ meth.locks = false ∧ meth.name = nm ∧ Q = MQ below (PostF κ Post) args s mc ms (fun q => wB κ ≤ q)
def MK (y : MethodName) (bt : ByteArray) (mL : Nat) (ret : Option FieldType) (nP : Nat) : Prop := Cond.code y bt mL ret ∈ gtbl ∧ Cond.initialized y.cls ∈ gtbl ∧ (y.cls ≠ "java/lang/invoke/MethodHandle" ∧ y.cls ≠ "java/lang/invoke/VarHandle" ∧ (parseMethodDescriptor y.desc).map (fun d => d.parameters.length) = some nP) ∧ plainName y.cls = true
abbrev gL (G : Gm) : Launch := G.2.1
theorem Con.of {κ : Wc} {l : Launch} {y : MethodName} {bt : ByteArray} {mL : Nat} {ret : Option FieldType} {d mc ms nP : Nat} {av : List Value} {h : Mm} {n : Nat} {Post : Pst} (hmk : MK y bt mL ret nP) (hlen : (lg_sl av).length ≤ mL)
    (body : ∀ G : Gm, gL G = l → Ok κ G bt mL y.cls d mc ms → Re κ G ret y.name mc ms Post → Z κ G mL 0 (lv_args 0 av) [] h n 0 0) : Con κ l y bt mL ret d mc ms av h n Post := by
  refine Met.ofW (cc := bt) (maxL := mL) (ret := ret) hmk.2.2.2 rfl ?_
  intro p e s m args below meth c s₁ B hml hv
  obtain ⟨rfl, hF, hK⟩ := hv
  have hts := atoms_spec (ws := Cond.code y bt mL ret :: gtbl) B.pre
  have hown : s.vm.findClass y.cls = some m.cls := findClass_of_methodNamed B.named
  have hin : meth.name = y.name := (name_of_methodNamed B.named B.method).1
  rw [lg_entry_eq]
  exact body (p, l, e, rmD d mc ms, s, m, av.toArray, below, meth, c, MQ below (PostF κ Post) av.toArray s mc ms (fun q => wB κ ≤ q)) rfl ⟨B.exec, B.bytes, hml, hown, fun w hw => hts w (List.mem_cons_of_mem _ hw), hK, by rw [hF.1]; exact hF.2.1, Nat.le_refl _, Nat.le_refl _, Nat.le_refl _, Nat.le_refl _⟩ ⟨B.returns, B.notSynchronized, hin, rfl⟩ s.heap [] _ hF va_S.rf (lv_entry av hlen)
