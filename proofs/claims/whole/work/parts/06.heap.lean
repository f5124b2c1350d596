def FL (own : String) (idx ci k : Nat) : Prop := ∃ (C : String) (T : u_T) (N : Nat) (ref : String), vwCl[ci]? = some (C, T, N) ∧ (∀ w ∈ u_ws C T N, w ∈ gtbl) ∧ k < N ∧ Cond.fieldLink own idx ref (T k).2.1 (T k).2.2.1 ∈ gtbl ∧ (ref = (T k).1 ∨ Cond.sameField ref (T k).1 (T k).2.1 (T k).2.2.1 ∈ gtbl)
def FP (own : String) (idx ci k : Nat) (ty : FieldType) (fin : Bool) : Prop := ∃ (C : String) (T : u_T) (N : Nat) (ref : String) (ty0 : Nat → FieldType), vwCl[ci]? = some (C, T, N) ∧ (∀ w ∈ u_ws C T N, w ∈ gtbl) ∧ k < N ∧ Cond.fieldLink own idx ref (T k).2.1 (T k).2.2.1 ∈ gtbl ∧ (ref = (T k).1 ∨ Cond.sameField ref (T k).1 (T k).2.1 (T k).2.2.1 ∈ gtbl) ∧ (∀ k, k < N → parseFieldDescriptor (T k).2.2.1 = some (ty0 k)) ∧ (∀ a, a < N → ∀ b, b < N → a ≠ b → (T a).2.1 ≠ (T b).2.1) ∧ (T k).2.2.2 = fin ∧ (fin = true → (T k).1 = own) ∧ ty0 k = ty
def FN (ci N : Nat) (C : String) (fs : List Value) : Prop := ∃ (T : u_T) (ty0 : Nat → FieldType), vwCl[ci]? = some (C, T, N) ∧ (∀ w ∈ u_ws C T N, w ∈ gtbl) ∧ (∀ k, k < N → parseFieldDescriptor (T k).2.2.1 = some (ty0 k)) ∧ Cond.instantiable C N ∈ gtbl ∧ Cond.initialized C ∈ gtbl ∧ ∀ j, j < N → defaultValue (ty0 j) = vp_V fs j
theorem fl_same {args : Array Value} {s : State} {ref o nm ds : String} (hts : ∀ w ∈ gtbl, w.before args s = true) (h : ref = o ∨ Cond.sameField ref o nm ds ∈ gtbl) : ∀ x, s.fieldFound? o nm ds = some x → s.fieldFound? ref nm ds = some x := by
  rcases h with h | h
  · subst h
    exact fun _ q => q
  · exact fun x q => u_same (hts _ h) x q
section ZH
variable {κ : Wc} {G : Gm} {cc : ByteArray} {nL d mc ms : Nat} {own : String} {pc : Nat} {ls : Lc} {st : List Value} {h : Mm} {n ca sl : Nat}
theorem z_get (X : Ok κ G cc nL own d mc ms) {idx ci k a : Nat} {fs : List Value} {v : Value} (hf : FL own idx ci k) (hd : decode cc pc = .ok (.getfield idx, 3)) (he : h a = some (.inr (ci, fs))) (hv : fs[k]? = some v) (kk : Z κ G nL (pc + 3) ls (v :: st) h n ca sl) : Z κ G nL pc ls (.ref a :: st) h n ca sl := by
  obtain ⟨p, l, e, R, s, m, args, below, meth, c, Q⟩ := G
  obtain ⟨hx, hb, hml, hown, hts, hK, hB, hR1, hR2, hR3, hR4⟩ := X
  intro H locs la hF hS hl
  obtain ⟨C, T, N, ref, f1, f2, f3, f4, f5⟩ := hf
  have hP : va_P κ.1 vwCl [(a, .inr (ci, fs))] H := fun i q hq => by
    match i, hq with
    | 0, hq => cases hq; exact (hF.2.2 a _ he).2
    | i + 1, hq => simp at hq
  exact va_get hx hb hts f2 hown hK.1 hP 0 rfl f1 k f3 (hts _ f4) (fl_same hts f5) hv hd (kk H locs la hF hS hl)
theorem z_put (X : Ok κ G cc nL own d mc ms) {idx ci k a : Nat} {fs : List Value} {v : Value} {ty : FieldType} (hf : FP own idx ci k ty false) (hd : decode cc pc = .ok (.putfield idx, 3)) (he : h a = some (.inr (ci, fs))) (hn : narrow ty v = v) (hfit : fits ty v = true) (hk : k < fs.length) {h' : Mm} (hh : va_up h a (some (.inr (ci, fs.set k v))) = h') (kk : Z κ G nL (pc + 3) ls st h' n ca sl) : Z κ G nL pc ls (v :: .ref a :: st) h n ca sl := by
  subst hh
  obtain ⟨p, l, e, R, s, m, args, below, meth, c, Q⟩ := G
  obtain ⟨hx, hb, hml, hown, hts, hK, hB, hR1, hR2, hR3, hR4⟩ := X
  intro H locs la hF hS hl
  obtain ⟨C, T, N, ref, ty0, f1, f2, f3, f4, f5, f6, f7, f8, -, f9⟩ := hf
  have hap := va_apart (own := own) hts f2 ty0 f6 f7 hK.1 f1
  obtain ⟨hB1, hat⟩ := hF.2.2 a _ he
  obtain ⟨r, h1, cell, q1, q2, q3, q4⟩ := id hat
  have hr : r = (C, T, N) := Option.some.inj (h1.symm.trans f1)
  subst hr
  obtain ⟨hS2, hfc, kC, hkC, hkind⟩ := hK.1.1 ci _ f1
  obtain ⟨cf, kf, fi, f, hi, hsl⟩ := hS2 k f3
  have hlay := hts _ (f2 _ (u_in_lay f3))
  unfold u_lay at hlay
  rw [if_neg (by rw [f8]; decide)] at hlay
  have hst := (u_facts hfc hkC (u_lays hts f2 f3) hi).1
  have h6 := u_store hfc hkC hkind hlay hi (by rw [f6 k f3, f9]) hn hfit
  refine W.putK hx hb (f := f) ⟨hown, hts _ f4, ⟨_, _, _, fl_same hts f5 _ hi⟩, hst⟩ (by rw [q2]; exact h6) q1 q3 (by rw [hsl]; exact k2_hasslot (q4 k f3)) rfl rfl hd fun H' e1 e2 e3 => ?_
  rw [hsl] at e1 ⊢
  exact kk H' _ la (hF.put he ⟨_, f1, t_OB.to (V := updV (vp_V fs) k v) ⟨_, e1, q2, q3, t_set q4 hap f3 v⟩ (fun j _ => vp_updV_set hk v j)⟩ e2 e3) (hS.put e2 e3 hB1) hl
theorem z_putF (X : Ok κ G cc nL own d mc ms) {ret : Option FieldType} {Post : Pst} {mc' ms' : Nat} (E : Re κ G ret "<init>" mc' ms' Post) {idx ci k a : Nat} {fs : List Value} {v : Value} {ty : FieldType} (hf : FP own idx ci k ty true) (hd : decode cc pc = .ok (.putfield idx, 3)) (he : h a = some (.inr (ci, fs))) (hn : narrow ty v = v) (hfit : fits ty v = true) (hk : k < fs.length) {h' : Mm} (hh : va_up h a (some (.inr (ci, fs.set k v))) = h') (kk : Z κ G nL (pc + 3) ls st h' n ca sl) : Z κ G nL pc ls (v :: .ref a :: st) h n ca sl := by
  subst hh
  obtain ⟨p, l, e, R, s, m, args, below, meth, c, Q⟩ := G
  obtain ⟨hx, hb, hml, hown, hts, hK, hB, hR1, hR2, hR3, hR4⟩ := X
  obtain ⟨-, -, hnm, -⟩ := E
  intro H locs la hF hS hl
  obtain ⟨C, T, N, ref, ty0, f1, f2, f3, f4, f5, f6, f7, f8, f8b, f9⟩ := hf
  have hap := va_apart (own := own) hts f2 ty0 f6 f7 hK.1 f1
  obtain ⟨hB1, hat⟩ := hF.2.2 a _ he
  obtain ⟨r, h1, cell, q1, q2, q3, q4⟩ := id hat
  have hr : r = (C, T, N) := Option.some.inj (h1.symm.trans f1)
  subst hr
  obtain ⟨hS2, hfc, kC, hkC, hkind⟩ := hK.1.1 ci _ f1
  obtain ⟨cf, kf, fi, f, hi, hsl⟩ := hS2 k f3
  have hlay := hts _ (f2 _ (u_in_lay f3))
  unfold u_lay at hlay
  rw [if_pos f8] at hlay
  have hst := (u_facts hfc hkC (u_lays hts f2 f3) hi).1
  have hcf : m.cls = cf := by
    obtain ⟨_, _, c', _, _, _, -, -, hf', -, -, -, hown2, -⟩ := Cond.laysFinal_spec hlay
    have e1 : c' = cf := by have := hi.symm.trans hf'; simp at this; exact this.1.symm
    rw [f8b rfl] at hown2
    rw [← e1]; exact Option.some.inj (hown.symm.trans hown2)
  have h6 := u_fits hfc hkC hkind (Or.inr hlay) hi (by rw [f6 k f3, f9]) hn hfit
  refine W.putFinK hx hb hown (hts _ f4) (fl_same hts f5 _ hi) hst hcf hnm (by rw [q2]; exact h6) q1 q3 (by rw [hsl]; exact k2_hasslot (q4 k f3)) rfl rfl hd fun H' e1 e2 e3 => ?_
  rw [hsl] at e1 ⊢
  exact kk H' _ la (hF.put he ⟨_, f1, t_OB.to (V := updV (vp_V fs) k v) ⟨_, e1, q2, q3, t_set q4 hap f3 v⟩ (fun j _ => vp_updV_set hk v j)⟩ e2 e3) (hS.put e2 e3 hB1) hl
theorem z_new (X : Ok κ G cc nL own d mc ms) {idx ci N : Nat} {C : String} {fs : List Value} (hf : FN ci N C fs) (hd : decode cc pc = .ok (.new idx, 3)) (hw : Cond.classLink own idx C ∈ gtbl) (hca : ca + 1 ≤ mc) (hsl : sl + N ≤ ms) (kk : Z κ G nL (pc + 3) ls (.ref n :: st) (va_up h n (some (.inr (ci, fs)))) (n + 1) (ca + 1) (sl + N)) : Z κ G nL pc ls st h n ca sl := by
  obtain ⟨p, l, e, R, s, m, args, below, meth, c, Q⟩ := G
  obtain ⟨hx, hb, hml, hown, hts, hK, hB, hR1, hR2, hR3, hR4⟩ := X
  intro H locs la hF hS hl
  obtain ⟨T, ty0, f1, f2, f3, f4, f5, f6⟩ := hf
  have hKn := hK.1.1 ci _ f1
  refine W.newcK hx hb hown (hts _ hw) (hts _ f4) (hts _ f5) rfl hd (Nat.le_trans hca hR3) (Nat.le_trans hsl hR4) hKn.2.1 hF.1 fun H1 kC hkC e1 z1 o1 => ?_
  refine kk H1 locs la (hF.push ⟨_, f1, (u_born ty0 hts f2 hKn hkC e1 f3).to f6⟩ z1 (fun q hq => o1 q hq)) ⟨Nat.le_trans hS.1 (by rw [hF.1, z1]; exact Nat.le_succ _), fun x h1 h2 => (o1 x (by have := hS.1; rw [hF.1] at this; exact Nat.lt_of_lt_of_le h1 this)).trans (hS.2.1 x h1 h2), hS.2.2⟩ hl
theorem z_newa (X : Ok κ G cc nL own d mc ms) {N : Nat} {x : Int32} (hd : decode cc pc = .ok (.newarray .int, 2)) (hw : Cond.arrayClass .int ∈ gtbl) (hn : ¬ x < 0) (hN : x.toNatClampNeg = N) (hb0 : N ≤ 1000) (hca : ca + 1 ≤ mc) (hsl : sl + N ≤ ms) (kk : Z κ G nL (pc + 2) ls (.ref n :: st) (va_up h n (some (.inl (κ.2.1 0, N, .inl (fun _ => 0))))) (n + 1) (ca + 1) (sl + N)) : Z κ G nL pc ls (.int x :: st) h n ca sl := by
  obtain ⟨p, l, e, R, s, m, args, below, meth, c, Q⟩ := G
  obtain ⟨hx, hb, hml, hown, hts, hK, hB, hR1, hR2, hR3, hR4⟩ := X
  intro H locs la hF hS hl
  refine va_newaK (atype := .int) hx hb (hts _ hw) rfl hd rfl hn hN (by show N * componentBytes .int ≤ _; simp only [componentBytes]; omega) (Nat.le_trans hca hR3) (Nat.le_trans hsl hR4) hF.1 fun H1 cA e1 z1 o1 hAr hNm => ?_
  have hcA : cA = κ.2.1 0 := by
    have h2 := (hK.1.2 0 (κ.2.1 0, .int) rfl).2
    exact Option.some.inj (hNm.symm.trans h2)
  subst hcA
  exact kk H1 locs la (hF.push (show H1[n]? = some (vp_cell _ _) from e1) z1 (fun q hq => o1 q hq)) ⟨Nat.le_trans hS.1 (by rw [hF.1, z1]; exact Nat.le_succ _), fun x h1 h2 => (o1 x (by have := hS.1; rw [hF.1] at this; exact Nat.lt_of_lt_of_le h1 this)).trans (hS.2.1 x h1 h2), hS.2.2⟩ hl
theorem z_newq (X : Ok κ G cc nL own d mc ms) {idx t N : Nat} {C : String} {x : Int32} (hd : decode cc pc = .ok (.anewarray idx, 3)) (hw : Cond.classLink own idx C ∈ gtbl) (hao : C ∈ aoL) (ht : (wT κ)[t]? = some (κ.2.1 t, .object C)) (hn : ¬ x < 0) (hN : x.toNatClampNeg = N) (hb0 : N ≤ 1000) (hca : ca + 1 ≤ mc) (hsl : sl + N ≤ ms) (kk : Z κ G nL (pc + 3) ls (.ref n :: st) (va_up h n (some (.inl (κ.2.1 t, N, .inr (.inr (.inr (.inr (fun _ => none)))))))) (n + 1) (ca + 1) (sl + N)) : Z κ G nL pc ls (.int x :: st) h n ca sl := by
  obtain ⟨p, l, e, R, s, m, args, below, meth, c, Q⟩ := G
  obtain ⟨hx, hb, hml, hown, hts, hK, hB, hR1, hR2, hR3, hR4⟩ := X
  intro H locs la hF hS hl
  subst hN
  refine W.anew hx hb hown (hts _ hw) (va_AO.use (hK.2.1 C hao)) rfl hd rfl hn (by omega) (Nat.le_trans hca hR3) (Nat.le_trans hsl hR4) fun cA kA comp f1 f2 f3 f4 => ?_
  have hcA : cA = κ.2.1 t := by
    obtain ⟨-, -, -, -, -, h2⟩ := (hK.1.2 t _ ht).2
    exact Option.some.inj (f1.symm.trans h2)
  subst hcA
  generalize hH1 : H.push ({ cls := κ.2.1 t, slots := Array.replicate x.toNatClampNeg .null, vm := .none } : Cell) = H1
  have z1 : H1.size = n + 1 := by rw [← hH1, Array.size_push, hF.1]
  have e1 : H1[n]? = some (arrV (κ.2.1 t) x.toNatClampNeg (fun _ => .null)) := by rw [← hH1, ← hF.1, Array.getElem?_push_size, ← arrV_new]
  have o1 : ∀ q : Nat, q < n → H1[q]? = H[q]? := fun q hq => by rw [← hH1, Array.getElem?_push, if_neg (by rw [hF.1]; exact Nat.ne_of_lt hq)]
  have hk := kk H1 locs la (hF.push (show H1[n]? = some (vp_cell _ _) by rw [vp_cell_q]; exact e1) z1 o1) ⟨Nat.le_trans hS.1 (by rw [hF.1, z1]; exact Nat.le_succ _), fun x h1 h2 => (o1 x (by have := hS.1; rw [hF.1] at this; exact Nat.lt_of_lt_of_le h1 this)).trans (hS.2.1 x h1 h2), hS.2.2⟩ hl
  rw [hF.1]
  exact hk
theorem z_iald (X : Ok κ G cc nL own d mc ms) {a N : Nat} {f : Nat → Int32} {i : Int32} (hd : decode cc pc = .ok (.iaload, 1)) (he : h a = some (.inl (κ.2.1 0, N, .inl f))) (hi : vp_in i N) (kk : Z κ G nL (pc + 1) ls (.int (f i.toNatClampNeg) :: st) h n ca sl) : Z κ G nL pc ls (.int i :: .ref a :: st) h n ca sl := by
  obtain ⟨p, l, e, R, s, m, args, below, meth, c, Q⟩ := G
  obtain ⟨hx, hb, hml, hown, hts, hK, hB, hR1, hR2, hR3, hR4⟩ := X
  intro H locs la hF hS hl
  have hP : va_P κ.1 vwCl [(a, .inl (κ.2.1 0, N, .inl f))] H := fun i q hq => by
    match i, hq with
    | 0, hq => cases hq; exact (hF.2.2 a _ he).2
    | i + 1, hq => simp at hq
  exact va_iald hx hb hK.1 hP 0 0 rfl rfl hi hd (kk H locs la hF hS hl)
theorem z_iast (X : Ok κ G cc nL own d mc ms) {a N : Nat} {f : Nat → Int32} {i x : Int32} (hd : decode cc pc = .ok (.iastore, 1)) (he : h a = some (.inl (κ.2.1 0, N, .inl f))) (hi : vp_in i N) {h' : Mm} (hh : va_up h a (some (.inl (κ.2.1 0, N, .inl (upd f i.toNatClampNeg x)))) = h') (kk : Z κ G nL (pc + 1) ls st h' n ca sl) : Z κ G nL pc ls (.int x :: .int i :: .ref a :: st) h n ca sl := by
  subst hh
  obtain ⟨p, l, e, R, s, m, args, below, meth, c, Q⟩ := G
  obtain ⟨hx, hb, hml, hown, hts, hK, hB, hR1, hR2, hR3, hR4⟩ := X
  intro H locs la hF hS hl
  obtain ⟨hB1, hat⟩ := hF.2.2 a _ he
  refine W.iast hx hb hat ((hK.1.2 0 (κ.2.1 0, .int) rfl).1 N (fun j => .int (f j))) (fun q => by cases q) (by show ¬ (i < 0 ∨ (arrV _ _ _).slots.size ≤ _); rw [arrV_size]; exact hi) rfl rfl hd fun H1 e z oq => ?_
  refine kk H1 _ la (hF.put he ?_ z oq) (hS.put z oq hB1) hl
  show H1[a]? = some (vp_cell _ _)
  rw [e, vp_cell_i, vp_cell_i, arrV_store]
  congr 2
  funext q
  by_cases hq : q = i.toNatClampNeg
  · subst hq
    simp [updV, upd]
  · simp [updV, upd, hq]
theorem z_alen (X : Ok κ G cc nL own d mc ms) {a t : Nat} {x : vp_A} {ty : FieldType} {v : Int32} (hd : decode cc pc = .ok (.arraylength, 1)) (he : h a = some (.inl (κ.2.1 t, x))) (ht : (wT κ)[t]? = some (κ.2.1 t, ty)) (hv : Int32.ofNat x.1 = v) (kk : Z κ G nL (pc + 1) ls (.int v :: st) h n ca sl) : Z κ G nL pc ls (.ref a :: st) h n ca sl := by
  obtain ⟨p, l, e, R, s, m, args, below, meth, c, Q⟩ := G
  obtain ⟨hx, hb, hml, hown, hts, hK, hB, hR1, hR2, hR3, hR4⟩ := X
  intro H locs la hF hS hl
  have hP : va_P κ.1 vwCl [(a, .inl (κ.2.1 t, x))] H := fun i q hq => by
    match i, hq with
    | 0, hq => cases hq; exact (hF.2.2 a _ he).2
    | i + 1, hq => simp at hq
  exact va_alen hx hb hK.1 hP 0 t rfl ht hv hd (kk H locs la hF hS hl)
theorem z_aald (X : Ok κ G cc nL own d mc ms) {a t N : Nat} {C : String} {f : Nat → Option Nat} {i : Int32} {v : Value} (hd : decode cc pc = .ok (.aaload, 1)) (he : h a = some (.inl (κ.2.1 t, N, .inr (.inr (.inr (.inr f)))))) (ht : (wT κ)[t]? = some (κ.2.1 t, .object C)) (hi : vp_in i N) (hv : va_rf (f i.toNatClampNeg) = v) (kk : Z κ G nL (pc + 1) ls (v :: st) h n ca sl) : Z κ G nL pc ls (.int i :: .ref a :: st) h n ca sl := by
  subst hv
  obtain ⟨p, l, e, R, s, m, args, below, meth, c, Q⟩ := G
  obtain ⟨hx, hb, hml, hown, hts, hK, hB, hR1, hR2, hR3, hR4⟩ := X
  intro H locs la hF hS hl
  have hP : va_P κ.1 vwCl [(a, .inl (κ.2.1 t, N, .inr (.inr (.inr (.inr f)))))] H := fun i q hq => by
    match i, hq with
    | 0, hq => cases hq; exact (hF.2.2 a _ he).2
    | i + 1, hq => simp at hq
  exact va_aldq hx hb hK.1 hP 0 t rfl ht hi hd (kk H locs la hF hS hl)
end ZH
