/-! what a tick's numbers keep to -/
def wfS (m : Nat → Int32) : Prop := 0 ≤ m 4 ∧ m 4 ≤ 9999 ∧ 0 ≤ m 5 ∧ m 5 ≤ 99 ∧ -50 ≤ m 6 ∧ m 6 ≤ 99
def wfC (m : Nat → Int32) : Prop := ∀ c, c < 40 → 0 ≤ (m (100 + c)).toInt ∧ (m (100 + c)).toInt ≤ 99999 ∧ 0 ≤ (m (140 + c)).toInt ∧ (m (140 + c)).toInt ≤ 999999
theorem held_b {v lo hi : Int32} (h : lo ≤ hi) : lo.toInt ≤ (held v lo hi).toInt ∧ (held v lo hi).toInt ≤ hi.toInt := by
  rw [i_le] at h
  unfold held
  by_cases h1 : v < lo
  · rw [if_pos h1]; omega
  · rw [if_neg h1]
    by_cases h2 : hi < v
    · rw [if_pos h2]; omega
    · rw [if_neg h2]; rw [i_lt] at h1 h2; omega
theorem min_held {v hi : Int32} (h : 0 ≤ v.toInt) (hh : 0 ≤ hi.toInt) : (if hi < v then hi else v) = held v 0 hi := by
  unfold held
  rw [if_neg (show ¬ v < 0 by rw [i_lt, show (0 : Int32).toInt = 0 by decide]; omega)]
theorem stays_b {w s ice : Int32} (h1 : 0 < w.toInt) (h2 : w.toInt ≤ 9999) (h3 : 0 ≤ s.toInt) (h4 : s.toInt ≤ 999999) (h5 : 0 ≤ ice.toInt) (h6 : ice.toInt ≤ w.toInt) : 0 ≤ (staysR w s ice).toInt ∧ (staysR w s ice).toInt ≤ s.toInt := by
  have hw : ¬ w = 0 := fun q => by rw [q] at h1; exact absurd h1 (by decide)
  unfold staysR
  rw [if_neg hw]
  have a1 : s.toInt * ice.toInt ≤ 999999 * 9999 := Int.mul_le_mul h4 (by omega) h5 (by omega)
  have a2 : 0 ≤ s.toInt * ice.toInt := Int.mul_nonneg h3 h5
  have a3 : s.toInt * ice.toInt ≤ s.toInt * w.toInt := Int.mul_le_mul_of_nonneg_left h6 h3
  have e1 : (s.toInt64 * ice.toInt64).toInt = s.toInt * ice.toInt := by
    rw [Int64.toInt_mul, Int32.toInt_toInt64, Int32.toInt_toInt64]
    generalize s.toInt * ice.toInt = z at *
    rw [Int.bmod_def]; omega
  have e2 : ((2 : Int64) * w.toInt64).toInt = 2 * w.toInt := by
    rw [Int64.toInt_mul, Int32.toInt_toInt64, show (2 : Int64).toInt = 2 by decide, Int.bmod_def]; omega
  have hd : (s.toInt * ice.toInt).tdiv (2 * w.toInt) = s.toInt * ice.toInt / (2 * w.toInt) := Int.tdiv_eq_ediv_of_nonneg a2
  have d1 : 0 ≤ s.toInt * ice.toInt / (2 * w.toInt) := Int.ediv_nonneg a2 (by omega)
  have d2 : s.toInt * ice.toInt / (2 * w.toInt) ≤ s.toInt := by
    refine Int.ediv_le_of_le_mul (by omega) ?_
    have : s.toInt * (2 * w.toInt) = s.toInt * w.toInt + s.toInt * w.toInt := by rw [Int.two_mul, Int.mul_add]
    have h7 : 0 ≤ s.toInt * w.toInt := Int.mul_nonneg h3 (by omega)
    omega
  have e3 : (s.toInt64 * ice.toInt64 / ((2 : Int64) * w.toInt64)).toInt = s.toInt * ice.toInt / (2 * w.toInt) := by
    rw [Int64.toInt_div, e1, e2, hd]
    generalize s.toInt * ice.toInt / (2 * w.toInt) = z at *
    rw [Int.bmod_def]; omega
  have e4 : (s.toInt64 * ice.toInt64 / ((2 : Int64) * w.toInt64)).toInt32.toInt = s.toInt * ice.toInt / (2 * w.toInt) := by
    rw [Int64.toInt_toInt32, e3]
    generalize s.toInt * ice.toInt / (2 * w.toInt) = z at *
    rw [Int.bmod_def]; omega
  rw [e4]
  exact ⟨d1, d2⟩
/-- what holds between the cells of a tick -/
def GxO (x : GX) : Prop := wfC x.1 ∧ 0 ≤ x.2.1.toInt ∧ x.2.1.toInt ≤ 9999 ∧ 0 ≤ x.2.2.toInt ∧ x.2.2.toInt ≤ 999999
theorem ice_b {v w : Int32} (h : 0 ≤ w.toInt) : 0 ≤ (held v 0 w).toInt ∧ (held v 0 w).toInt ≤ w.toInt := by
  have := held_b (v := v) (lo := 0) (hi := w) (by rw [i_le, show (0 : Int32).toInt = 0 by decide]; exact h)
  rw [show (0 : Int32).toInt = 0 by decide] at this
  exact this
theorem stays_0 {w s ice : Int32} (h : w = 0) : staysR w s ice = 0 := if_pos h
theorem stays_ok {w s ice : Int32} (h1 : 0 ≤ w.toInt) (h2 : w.toInt ≤ 9999) (h3 : 0 ≤ s.toInt) (h4 : s.toInt ≤ 999999) (h5 : 0 ≤ ice.toInt) (h6 : ice.toInt ≤ w.toInt) : 0 ≤ (staysR w s ice).toInt ∧ (staysR w s ice).toInt ≤ s.toInt := by
  by_cases h : w = 0
  · rw [stays_0 h, show (0 : Int32).toInt = 0 by decide]; omega
  · have : ¬ w.toInt = 0 := fun q => h (eq0_of q)
    exact stays_b (by omega) h2 h3 h4 h5 h6
theorem GxO_s {cold : Int32} {len nc c : Nat} {x : GX} (hc : c < 40) (h : GxO x) : GxO (gbS cold len nc c x) := by
  obtain ⟨h1, h2, h3, h4, h5⟩ := h
  have hi := ice_b (v := frT x.1 len nc c x.2.1 x.2.2 cold) h2
  generalize hI : held (frT x.1 len nc c x.2.1 x.2.2 cold) 0 x.2.1 = ice at hi
  have hs := stays_ok h2 h3 h4 h5 hi.1 hi.2
  generalize hS : staysR x.2.1 x.2.2 ice = sy at hs
  have e : gbS cold len nc c x = (upd (upd x.1 (100 + c) (held (x.1 (100 + c) + ice) 0 99999)) (140 + c) (held (x.1 (140 + c) + sy) 0 999999), x.2.1 - ice, x.2.2 - sy) := by
    unfold gbS
    rw [hI, hS]
  rw [e]
  have k1 := held_b (v := x.1 (100 + c) + ice) (lo := 0) (hi := 99999) (by decide)
  have k2 := held_b (v := x.1 (140 + c) + sy) (lo := 0) (hi := 999999) (by decide)
  rw [show (0 : Int32).toInt = 0 by decide, show (99999 : Int32).toInt = 99999 by decide] at k1
  rw [show (0 : Int32).toInt = 0 by decide, show (999999 : Int32).toInt = 999999 by decide] at k2
  refine ⟨fun z hz => ?_, ?_, ?_, ?_, ?_⟩
  · have hz1 := h1 z hz
    refine ⟨?_, ?_, ?_, ?_⟩
    · show 0 ≤ (upd (upd x.1 (100 + c) _) (140 + c) _ (100 + z)).toInt
      rw [pk_un (by omega)]
      by_cases e2 : z = c
      · rw [e2, pk_us]; exact k1.1
      · rw [pk_un (by omega)]; exact hz1.1
    · show (upd (upd x.1 (100 + c) _) (140 + c) _ (100 + z)).toInt ≤ 99999
      rw [pk_un (by omega)]
      by_cases e2 : z = c
      · rw [e2, pk_us]; exact k1.2
      · rw [pk_un (by omega)]; exact hz1.2.1
    · show 0 ≤ (upd (upd x.1 (100 + c) _) (140 + c) _ (140 + z)).toInt
      by_cases e2 : z = c
      · rw [e2, pk_us]; exact k2.1
      · rw [pk_un (by omega), pk_un (by omega)]; exact hz1.2.2.1
    · show (upd (upd x.1 (100 + c) _) (140 + c) _ (140 + z)).toInt ≤ 999999
      by_cases e2 : z = c
      · rw [e2, pk_us]; exact k2.2
      · rw [pk_un (by omega), pk_un (by omega)]; exact hz1.2.2.2
  · show 0 ≤ (x.2.1 - ice).toInt
    rw [i_sub] <;> omega
  · show (x.2.1 - ice).toInt ≤ 9999
    rw [i_sub] <;> omega
  · show 0 ≤ (x.2.2 - sy).toInt
    rw [i_sub] <;> omega
  · show (x.2.2 - sy).toInt ≤ 999999
    rw [i_sub] <;> omega
theorem GxO_L {cold : Int32} {len nc : Nat} {x : GX} (h : GxO x) : ∀ c, c ≤ 40 → GxO (gbL cold len nc c x) := by
  intro c
  induction c with
  | zero => intro _; exact h
  | succ c ih => intro hc; exact GxO_s (by omega) (ih (by omega))
theorem watR_b (T : Nat → Nat → Int32) (tx : Nat → Nat) (m : Nat → Int32) : 0 ≤ (watR T tx m).toInt ∧ (watR T tx m).toInt ≤ 9999 := by
  have := held_b (v := gv T tx 0 (m 0) (m 4) (m 6) (m 4)) (lo := 0) (hi := 9999) (by decide)
  rw [show (0 : Int32).toInt = 0 by decide, show (9999 : Int32).toInt = 9999 by decide] at this
  exact this
theorem GxO_0 {T : Nat → Nat → Int32} {tx : Nat → Nat} {m : Nat → Int32} (hs : wfS m) (hc : wfC m) : GxO (m, watR T tx m, watR T tx m * m 5) := by
  have hw := watR_b T tx m
  obtain ⟨-, -, h5, h6, -⟩ := hs
  rw [i_le, show (0 : Int32).toInt = 0 by decide] at h5
  rw [i_le, show (99 : Int32).toInt = 99 by decide] at h6
  have a1 : (watR T tx m).toInt * (m 5).toInt ≤ 9999 * 99 := Int.mul_le_mul hw.2 h6 h5 (by omega)
  have a2 : 0 ≤ (watR T tx m).toInt * (m 5).toInt := Int.mul_nonneg hw.1 h5
  have e : (watR T tx m * m 5).toInt = (watR T tx m).toInt * (m 5).toInt := i_mul (by omega) (by omega)
  refine ⟨hc, hw.1, hw.2, ?_, ?_⟩
  · show 0 ≤ (watR T tx m * m 5).toInt
    rw [e]; exact a2
  · show (watR T tx m * m 5).toInt ≤ 999999
    rw [e]; omega
theorem held_same {v hi : Int32} (h1 : 0 ≤ v.toInt) (h2 : v.toInt ≤ hi.toInt) : held (v + 0) 0 hi = v := by
  rw [Int32.add_zero]
  exact held_in (by rw [i_le, show (0 : Int32).toInt = 0 by decide]; exact h1) (by rw [i_le]; exact h2)
theorem held_00 (v : Int32) : held v 0 0 = 0 := by
  rw [i_eq]
  have := held_b (v := v) (lo := 0) (hi := 0) (by decide)
  rw [show (0 : Int32).toInt = 0 by decide] at *
  omega
theorem upd_self (m : Nat → Int32) (q : Nat) : upd m q (m q) = m := by
  funext z
  unfold upd
  by_cases h : z = q
  · rw [if_pos h, h]
  · rw [if_neg h]
theorem gbS_z {cold : Int32} {len nc c : Nat} {mm : Nat → Int32} {st : Int32} (hc : c < 40) (h : wfC mm) : gbS cold len nc c (mm, 0, st) = (mm, 0, st) := by
  have h1 := h c hc
  unfold gbS
  show (upd (upd mm (100 + c) (held (mm (100 + c) + held (frT mm len nc c 0 st cold) 0 0) 0 99999)) (140 + c) (held (mm (140 + c) + staysR 0 st (held (frT mm len nc c 0 st cold) 0 0)) 0 999999), (0 : Int32) - held (frT mm len nc c 0 st cold) 0 0, st - staysR 0 st (held (frT mm len nc c 0 st cold) 0 0)) = _
  rw [held_00, stays_0 rfl, held_same h1.1 (by rw [show (99999 : Int32).toInt = 99999 by decide]; exact h1.2.1), held_same h1.2.2.1 (by rw [show (999999 : Int32).toInt = 999999 by decide]; exact h1.2.2.2), upd_self, upd_self, Int32.sub_zero, Int32.sub_zero]
theorem gbL_z {cold : Int32} {len nc c : Nat} {x : GX} {mm : Nat → Int32} {st : Int32} (hL : gbL cold len nc c x = (mm, 0, st)) (h : wfC mm) : ∀ j, c + j ≤ 40 → gbL cold len nc (c + j) x = (mm, 0, st) := by
  intro j
  induction j with
  | zero => intro _; exact hL
  | succ j ih =>
    intro hj
    show gbS cold len nc (c + j) (gbL cold len nc (c + j) x) = _
    rw [ih (by omega), gbS_z (by omega) h]
theorem gbL_out {cold : Int32} {len nc c : Nat} {x : GX} {mm : Nat → Int32} {wt st : Int32} (hL : gbL cold len nc c x = (mm, wt, st)) (h : wfC mm) (hl : len ≤ 40) (hc : c ≤ len) (hw : c = len ∨ wt = 0) : gbL cold len nc len x = (mm, wt, st) := by
  rcases hw with rfl | rfl
  · exact hL
  · have := gbL_z hL h (len - c) (by omega)
    rw [show c + (len - c) = len by omega] at this
    exact this
theorem wfC_gby {T : Nat → Nat → Int32} {tx : Nat → Nat} {m : Nat → Int32} (hOk : lnOk m) (hs : wfS m) (hc : wfC m) : wfC (gby T tx m) := by
  have hx : GxO (gbX T tx m) := GxO_L (GxO_0 hs hc) (lnO m) hOk.2.2
  obtain ⟨h1, h2, h3, h4, h5⟩ := hx
  unfold gby
  generalize gbX T tx m = x at *
  have hb := held_b (v := x.2.2) (lo := 0) (hi := 999999) (by decide)
  rw [show (0 : Int32).toInt = 0 by decide, show (999999 : Int32).toInt = 999999 by decide] at hb
  intro c hcc
  have h1c := h1 c hcc
  rw [pk_un (by omega), pk_un (by omega)]
  unfold gbE
  split
  · rename_i hq
    by_cases e : c = lnO m
    · subst e
      have u1 : upd (upd (upd x.1 (100 + lnO m) x.2.1) (140 + lnO m) (held x.2.2 0 999999)) 1 (nI (lnO m + 1)) (100 + lnO m) = x.2.1 := (pk_un (by omega)).trans ((pk_un (by omega)).trans pk_us)
      have u2 : upd (upd (upd x.1 (100 + lnO m) x.2.1) (140 + lnO m) (held x.2.2 0 999999)) 1 (nI (lnO m + 1)) (140 + lnO m) = held x.2.2 0 999999 := (pk_un (by omega)).trans pk_us
      rw [u1, u2]
      omega
    · have u1 : upd (upd (upd x.1 (100 + lnO m) x.2.1) (140 + lnO m) (held x.2.2 0 999999)) 1 (nI (lnO m + 1)) (100 + c) = x.1 (100 + c) := (pk_un (by omega)).trans ((pk_un (by omega)).trans (pk_un (by omega)))
      have u2 : upd (upd (upd x.1 (100 + lnO m) x.2.1) (140 + lnO m) (held x.2.2 0 999999)) 1 (nI (lnO m + 1)) (140 + c) = x.1 (140 + c) := (pk_un (by omega)).trans ((pk_un (by omega)).trans (pk_un (by omega)))
      rw [u1, u2]
      exact h1c
  · split
    · rw [pk_un (by omega), pk_un (by omega), pk_un (by omega), pk_un (by omega)]
      exact h1c
    · exact h1c
theorem wfS_gby {T : Nat → Nat → Int32} {tx : Nat → Nat} {m : Nat → Int32} (hOk : lnOk m) (hs : wfS m) : wfS (gby T tx m) := by
  unfold wfS
  rw [gby_off hOk.1 hOk.2.2 (by omega), gby_off hOk.1 hOk.2.2 (by omega), gby_off hOk.1 hOk.2.2 (by omega)]
  exact hs
theorem wf_gbyN {T : Nat → Nat → Int32} {tx : Nat → Nat} {m : Nat → Int32} (hOk : lnOk m) (hs : wfS m) (hc : wfC m) : ∀ k, wfS (gbyN T tx k m) ∧ wfC (gbyN T tx k m) := by
  intro k
  induction k with
  | zero => exact ⟨hs, hc⟩
  | succ k ih => exact ⟨wfS_gby (gbyN_ok hOk k) ih.1, wfC_gby (gbyN_ok hOk k) ih.1 ih.2⟩
