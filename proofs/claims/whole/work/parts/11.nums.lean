def b2i (p : Prop) [Decidable p] : Int32 := if p then 1 else 0
theorem b2i_t {p : Prop} [Decidable p] (h : ¬ b2i p = 0) : p := by
  unfold b2i at h
  split at h
  · assumption
  · exact absurd rfl h
theorem b2i_f {p : Prop} [Decidable p] (h : b2i p = 0) : ¬ p := by
  unfold b2i at h
  split at h
  · exact absurd h (by decide)
  · assumption
theorem b2i_1 {p : Prop} [Decidable p] (h : p) : b2i p = 1 := if_pos h
theorem b2i_0 {p : Prop} [Decidable p] (h : ¬ p) : b2i p = 0 := if_neg h
theorem b2i_nar (p : Prop) [Decidable p] : narrow .boolean (.int (b2i p)) = .int (b2i p) := by
  unfold b2i
  split <;> rfl
theorem b2i_iff {p q : Prop} [Decidable p] [Decidable q] (h : p ↔ q) : b2i p = b2i q := by
  unfold b2i
  by_cases hp : p
  · rw [if_pos hp, if_pos (h.mp hp)]
  · rw [if_neg hp, if_neg (fun k => hp (h.mpr k))]
theorem i_lt {a b : Int32} : a < b ↔ a.toInt < b.toInt := Int32.lt_iff_toInt_lt
theorem i_le {a b : Int32} : a ≤ b ↔ a.toInt ≤ b.toInt := Int32.le_iff_toInt_le
theorem i_eq {a b : Int32} : a = b ↔ a.toInt = b.toInt := Int32.toInt_inj.symm
theorem i_hi (a : Int32) : a.toInt < 2147483648 := by have := Int32.toInt_lt a; omega
theorem i_lo (a : Int32) : -2147483648 ≤ a.toInt := by have := Int32.le_toInt a; omega
theorem i_add {a b : Int32} (h1 : -2147483648 ≤ a.toInt + b.toInt) (h2 : a.toInt + b.toInt < 2147483648) : (a + b).toInt = a.toInt + b.toInt := by
  rw [Int32.toInt_add, Int.bmod_def]; omega
theorem i_sub {a b : Int32} (h1 : -2147483648 ≤ a.toInt - b.toInt) (h2 : a.toInt - b.toInt < 2147483648) : (a - b).toInt = a.toInt - b.toInt := by
  rw [Int32.toInt_sub, Int.bmod_def]; omega
theorem i_mul {a b : Int32} (h1 : -2147483648 ≤ a.toInt * b.toInt) (h2 : a.toInt * b.toInt < 2147483648) : (a * b).toInt = a.toInt * b.toInt := by
  rw [Int32.toInt_mul, Int.bmod_def]
  generalize a.toInt * b.toInt = z at *
  omega
theorem i_nI {n : Nat} (h : n < 2147483648) : (nI n).toInt = (n : Int) := nI_toInt (by omega)
theorem i_clamp {x : Int32} (h : 0 ≤ x.toInt) : ((x.toNatClampNeg : Nat) : Int) = x.toInt := by
  show ((x.toInt.toNat : Nat) : Int) = x.toInt
  omega
theorem i_of {x : Int32} (h : 0 ≤ x.toInt) : x = nI x.toNatClampNeg := by
  have h2 := i_hi x
  have h3 := i_clamp h
  rw [i_eq, i_nI (by omega)]
  exact h3.symm
theorem vin_of {x : Int32} {n : Nat} (h0 : 0 ≤ x.toInt) (h1 : x.toInt < n) : vp_in x n := vp_in_iff.mpr ⟨h0, h1⟩
theorem z_iald2 {κ : Wc} {G : Gm} {cc : ByteArray} {nL d mc ms : Nat} {own : String} {pc : Nat} {ls : Lc} {st : List Value} {h : Mm} {n ca sl : Nat} (X : Ok κ G cc nL own d mc ms) {a N : Nat} {f : Nat → Int32} {i v : Int32} (hd : decode cc pc = .ok (.iaload, 1)) (he : h a = some (.inl (κ.2.1 0, N, .inl f))) (hi : vp_in i N) (hv : f i.toNatClampNeg = v) (kk : Z κ G nL (pc + 1) ls (.int v :: st) h n ca sl) : Z κ G nL pc ls (.int i :: .ref a :: st) h n ca sl := by
  subst hv
  exact z_iald X hd he hi kk
theorem z_toe {κ : Wc} {G : Gm} {nL pc : Nat} {ls : Lc} {st : List Value} {h : Mm} {n ca sl : Nat} {x y : Int32} (e : x = y) (k : Z κ G nL pc ls (.int y :: st) h n ca sl) : Z κ G nL pc ls (.int x :: st) h n ca sl := by
  subst e
  exact k
theorem z_tol {κ : Wc} {G : Gm} {nL pc : Nat} {ls : Lc} {st : List Value} {h : Mm} {n ca sl : Nat} {x y : Int64} (e : x = y) (k : Z κ G nL pc ls (.long y :: st) h n ca sl) : Z κ G nL pc ls (.long x :: st) h n ca sl := by
  subst e
  exact k
theorem vp_ext {cA : ClassId} {N : Nat} {f g : Nat → Int32} (hfg : ∀ k, k < N → f k = g k) : vp_cell cA (N, .inl f) = vp_cell cA (N, .inl g) := by
  rw [vp_cell_i, vp_cell_i]
  unfold arrV
  congr 2
  funext j
  exact congrArg Value.int (hfg j.val j.isLt)
theorem z_ext {κ : Wc} {G : Gm} {nL pc : Nat} {ls : Lc} {st : List Value} {h : Mm} {n ca sl : Nat} {a N : Nat} {f g : Nat → Int32} (he : h a = arI κ N f) (hfg : ∀ k, k < N → f k = g k) (k : Z κ G nL pc ls st (va_up h a (arI κ N g)) n ca sl) : Z κ G nL pc ls st h n ca sl := by
  obtain ⟨p, l, e, R, s, m, args, below, meth, c, Q⟩ := G
  intro H locs la hF hS hl
  refine k H locs la ⟨hF.1, hF.2.1, fun b d hb => ?_⟩ hS hl
  by_cases e : b = a
  · subst e
    rw [va_up_self] at hb
    cases hb
    obtain ⟨g1, g2⟩ := hF.2.2 b _ he
    exact ⟨g1, Eq.trans g2 (by rw [vp_ext hfg])⟩
  · rw [va_up_ne _ _ e] at hb
    exact hF.2.2 b d hb
theorem i_m1 {n : Nat} (h : n < 2147483648) : (nI n - 1).toInt = (n : Int) - 1 := by
  rw [i_sub] <;> rw [i_nI h, show (1 : Int32).toInt = 1 by decide] <;> omega
