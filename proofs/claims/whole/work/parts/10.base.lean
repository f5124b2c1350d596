abbrev arI (κ : Wc) (N : Nat) (f : Nat → Int32) : Option va_E := some (.inl (κ.2.1 0, N, .inl f))
abbrev arR (κ : Wc) (t N : Nat) (f : Nat → Option Nat) : Option va_E := some (.inl (κ.2.1 t, N, .inr (.inr (.inr (.inr f)))))
abbrev oRow (r : Nat) (sz bt : Int32) : Option va_E := some (.inr (6, [.ref (r + 1), .int sz, .int bt]))
abbrev oIce (i : Nat) (len now dd dr cc on cold wind : Int32) : Option va_E := some (.inr (2, [.ref (i + 1), .ref (i + 2), .ref (i + 3), .ref (i + 4), .ref (i + 5), .int len, .int now, .int dd, .int dr, .int cc, .int on, .int cold, .int wind]))
abbrev oText (t : Nat) (sz pl tp : Int32) : Option va_E := some (.inr (9, [.ref (t + 1), .ref (t + 2), .int sz, .int pl, .int tp]))
abbrev oKept (k : Nat) (z : Int32) : Option va_E := some (.inr (3, [.ref (k + 1), .ref (k + 7), .ref (k + 9), .ref (k + 11), .int z]))
abbrev oRings (o : Nat) (im : Int32) : Option va_E := some (.inr (11, [.ref (o + 1), .ref (o + 14), .ref (o + 27), .ref (o + 33), .ref (o + 42), .ref (o + 55), .ref (o + 57), .ref (o + 59), .ref (o + 61), .int im]))
abbrev oMod (o : Nat) (im ba at_ sz fa op rm ti tm wh : Int32) : Option va_E := some (.inr (12, [.ref (o + 1), .ref (o + 2), .ref (o + 3), .int im, .ref (o + 4), .int ba, .int at_, .int sz, .int fa, .int op, .ref (o + 5), .ref (o + 6), .int rm, .ref (o + 7), .ref (o + 8), .int ti, .ref (o + 9), .int tm, .int wh, .ref (o + 10), .ref (o + 11), .ref (o + 12), .ref (o + 13)]))
theorem up_at {h h' : Mm} {a : Nat} {c : Option va_E} (e : h' = va_up h a c) : h' a = c := by rw [e]; exact va_up_self _ _ _
theorem up_off {h h' : Mm} {a b : Nat} {c x : Option va_E} (e : h' = va_up h a c) (hb : b ≠ a) (k : h b = x) : h' b = x := by rw [e, va_up_ne _ _ hb]; exact k
theorem up_up (h : Mm) (a : Nat) (c c' : Option va_E) : va_up (va_up h a c) a c' = va_up h a c' := by funext q; simp only [va_up]; split <;> rfl
theorem up_comm (h : Mm) {a b : Nat} (c c' : Option va_E) (hab : a ≠ b) : va_up (va_up h a c) b c' = va_up (va_up h b c') a c := by
  funext q; simp only [va_up]
  by_cases h1 : q = b
  · subst h1
    rw [if_pos rfl, if_neg (Ne.symm hab), if_pos rfl]
  · rw [if_neg h1]
    by_cases h2 : q = a
    · rw [if_pos h2, if_pos h2]
    · rw [if_neg h2, if_neg h2, if_neg h1]
theorem up_same (h : Mm) (a : Nat) {c : Option va_E} (k : h a = c) : va_up h a c = h := by
  funext q; simp only [va_up]
  split
  · rename_i e; rw [e, k]
  · rfl
