/-- the rows in which the copies' cells are kept; those of the first i causes are as E has them -/
def GrP (κ : Wc) (o : Nat) (h : Mm) (i : Nat) (E : Nat → Nat → Int32) : Prop := ∀ j, j < 6 → ∃ (sz bt : Int32) (f : Nat → Int32), h (o + 43 + 2 * j) = oRow (o + 43 + 2 * j) sz bt ∧ h (o + 43 + 2 * j + 1) = arI κ 40 f ∧ (j < i → sz = nI (lnO (E j)) ∧ ∀ k, k < lnO (E j) → f k = E j (100 + k))
theorem GrP.same {κ : Wc} {o i : Nat} {h h1 : Mm} {E : Nat → Nat → Int32} (H : GrP κ o h i E) (e : ∀ q, o + 43 ≤ q → q < o + 55 → h1 q = h q) : GrP κ o h1 i E := by
  intro j hj
  obtain ⟨sz, bt, f, k1, k2, k3⟩ := H j hj
  exact ⟨sz, bt, f, (e _ (by omega) (by omega)).trans k1, (e _ (by omega) (by omega)).trans k2, k3⟩
theorem GrP.zero {κ : Wc} {o i : Nat} {h : Mm} {E E2 : Nat → Nat → Int32} (H : GrP κ o h i E) : GrP κ o h 0 E2 := by
  intro j hj
  obtain ⟨sz, bt, f, k1, k2, -⟩ := H j hj
  exact ⟨sz, bt, f, k1, k2, fun q => absurd q (by omega)⟩
theorem GrP.next {κ : Wc} {o i : Nat} {h h1 : Mm} {E : Nat → Nat → Int32} {bt : Int32} {f : Nat → Int32} (H : GrP κ o h i E) (e : ∀ q, o + 43 ≤ q → q < o + 55 → q ≠ o + 43 + 2 * i → q ≠ o + 43 + 2 * i + 1 → h1 q = h q) (k1 : h1 (o + 43 + 2 * i) = oRow (o + 43 + 2 * i) (nI (lnO (E i))) bt) (k2 : h1 (o + 43 + 2 * i + 1) = arI κ 40 f) (k3 : ∀ k, k < lnO (E i) → f k = E i (100 + k)) : GrP κ o h1 (i + 1) E := by
  intro j hj
  by_cases hq : j = i
  · subst hq
    exact ⟨_, bt, f, k1, k2, fun _ => ⟨rfl, k3⟩⟩
  · obtain ⟨sz, bt2, f2, j1, j2, j3⟩ := H j hj
    exact ⟨sz, bt2, f2, (e _ (by omega) (by omega) (by omega) (by omega)).trans j1, (e _ (by omega) (by omega) (by omega) (by omega)).trans j2, fun q => j3 (by omega)⟩
abbrev trM (d : Nat → Int32) (b i : Nat) : Nat → Int32 := upd (upd (upd (upd (bg2 d) 6 (d (40 + 3 * b))) 7 (d (40 + 3 * b + 1))) 5 (d (40 + 3 * b + 2))) 10 (1 <<< (nI i &&& 31))
abbrev trE (T : Nat → Nat → Int32) (tx : Nat → Nat) (d : Nat → Int32) (v b : Nat) : Nat → Nat → Int32 := fun i => gbyN T tx v (trM d b i)
section TR
variable {T : Nat → Nat → Int32} {tx : Nat → Nat} {d : Nat → Int32} {v b i nc : Nat}
theorem trM_off {q : Nat} (h : q ≠ 5 ∧ q ≠ 6 ∧ q ≠ 7 ∧ q ≠ 10) : trM d b i q = bg2 d q := (pk_un h.2.2.2).trans ((pk_un h.1).trans ((pk_un h.2.2.1).trans (pk_un h.2.1)))
theorem trM_ok : lnOk (trM d b i) := lnOk_upd (lnOk_upd (lnOk_upd (lnOk_upd (bg2_ok d) (by omega)) (by omega)) (by omega)) (by omega)
theorem trM_w : win 100 40 (bg2 d) = win 100 40 (trM d b i) := win_ext (fun k hk => (trM_off (by omega)).symm)
theorem trM_s : win 140 40 (bg2 d) = win 140 40 (trM d b i) := win_ext (fun k hk => (trM_off (by omega)).symm)
theorem trM_t : upd (upd (upd (win 4 6 d) 2 (d (40 + 3 * b))) 3 (d (40 + 3 * b + 1))) 1 (d (40 + 3 * b + 2)) = win 4 6 (trM d b i) := by
  unfold trM
  rw [win_off (by omega), win_us (b := 4) (k := 1) (by omega), win_us (b := 4) (k := 3) (by omega), win_us (b := 4) (k := 2) (by omega), ← bg2_set]
theorem trM_wf (hS : wfS d) (hC : wfC d) (hB : -50 ≤ d (40 + 3 * b) ∧ d (40 + 3 * b) ≤ 99 ∧ 0 ≤ d (40 + 3 * b + 2) ∧ d (40 + 3 * b + 2) ≤ 99) : wfS (trM d b i) ∧ wfC (trM d b i) := by
  refine ⟨wfS_upd (wfS_5 (wfS_upd (wfS_6 (wfS_bg2 hS) hB.1 hB.2.1) (by omega)) hB.2.2.1 hB.2.2.2) (by omega), fun c hc => ?_⟩
  rw [trM_off (by omega), trM_off (by omega)]
  exact wfC_bg2 hC c hc
theorem trE_Ag (i : Nat) : Ag (trE T tx d v b i) (triE T tx d v b i) := gbyN_Ag (((Ag_bg d).upd.upd).upd.upd) v
theorem pairs_eq (a z : Nat) : unlE (trE T tx d v b a) (trE T tx d v b z) = unlE (triE T tx d v b a) (triE T tx d v b z) := unlE_Ag (trE_Ag a) (trE_Ag z)
/-- two kept rows: unlike or not -/
theorem unl_un {m m2 f f2 : Nat → Int32} (h : lnOk m) (h2 : lnOk m2) (e1 : ∀ k, k < lnO m → f k = m (100 + k)) (e2 : ∀ k, k < lnO m2 → f2 k = m2 (100 + k)) : (unl f f2 (lnO m) (lnO m2) < 0) ↔ unlE m m2 = 0 := by
  have hl := h.2.2
  have hl2 := h2.2.2
  have key : (lnO m = lnO m2 ∧ ∀ c, c < lnO m → m (100 + c) = m2 (100 + c)) ↔ unl f f2 (lnO m) (lnO m2) < 0 := by
    have hle := funl_le f f2 (min (lnO m) (lnO m2)) 0
    have stop : ∀ (n i : Nat), funl f f2 i n < i + n → ¬ f (funl f f2 i n) = f2 (funl f f2 i n) := by
      intro n
      induction n with
      | zero => intro i hi; exact absurd hi (Nat.lt_irrefl _)
      | succ n ih =>
        intro i hi
        unfold funl at hi ⊢
        by_cases hq : f i = f2 i
        · rw [if_pos hq] at hi ⊢
          exact ih (i + 1) (by omega)
        · rw [if_neg hq]; exact hq
    have go : ∀ (n i : Nat), (∀ k, i ≤ k → k < i + n → f k = f2 k) → funl f f2 i n = i + n := by
      intro n
      induction n with
      | zero => intro i _; rfl
      | succ n ih =>
        intro i hk
        unfold funl
        rw [if_pos (hk i (Nat.le_refl _) (by omega)), ih (i + 1) (fun k q1 q2 => hk k (by omega) (by omega))]
        omega
    constructor
    · intro ⟨q1, q2⟩
      have e := go (min (lnO m) (lnO m2)) 0 (fun k _ hk => by rw [e1 k (by omega), e2 k (by omega), q2 k (by omega)])
      unfold unl
      rw [e, if_neg (by omega), if_pos q1]
      decide
    · intro q
      unfold unl at q
      by_cases hlt : funl f f2 0 (min (lnO m) (lnO m2)) < min (lnO m) (lnO m2)
      · rw [if_pos hlt] at q
        exact absurd q (nI_pos (by omega))
      · rw [if_neg hlt] at q
        by_cases hq : lnO m = lnO m2
        · refine ⟨hq, fun c hc => ?_⟩
          have hall : ∀ (n i : Nat), ¬ funl f f2 i n < i + n → ∀ k, i ≤ k → k < i + n → f k = f2 k := by
            intro n
            induction n with
            | zero => intro i _ k q1 q2; omega
            | succ n ih =>
              intro i hi k q1 q2
              unfold funl at hi
              by_cases hz : f i = f2 i
              · rw [if_pos hz] at hi
                by_cases hki : k = i
                · rw [hki]; exact hz
                · exact ih (i + 1) (by omega) k (by omega) (by omega)
              · rw [if_neg hz] at hi
                omega
          rw [← e1 c hc, ← e2 c (by omega)]
          exact hall (min (lnO m) (lnO m2)) 0 (by omega) c (by omega) (by omega)
        · rw [if_neg hq] at q
          exact absurd q (nI_pos (by omega))
  rw [← key]
  unfold unlE
  rw [h.1, h2.1]
  constructor
  · intro ⟨q1, q2⟩
    exact b2i_0 (fun q => q ⟨by rw [q1], q2⟩)
  · intro q
    have := Decidable.not_not.mp (b2i_f q)
    exact ⟨(nI_eq (by omega) (by omega)).mp this.1, this.2⟩
end TR
theorem gr_ne {o i zq : Nat} (hi : i < 6) (h0 : zq ≠ o + 43) (h1 : zq ≠ o + 44) (h2 : zq ≠ o + 45) (h3 : zq ≠ o + 46) (h4 : zq ≠ o + 47) (h5 : zq ≠ o + 48) (h6 : zq ≠ o + 49) (h7 : zq ≠ o + 50) (h8 : zq ≠ o + 51) (h9 : zq ≠ o + 52) (h10 : zq ≠ o + 53) (h11 : zq ≠ o + 54) : zq ≠ o + 43 + 2 * i ∧ zq ≠ o + 43 + 2 * i + 1 := by
  have h : i = 0 ∨ i = 1 ∨ i = 2 ∨ i = 3 ∨ i = 4 ∨ i = 5 := by omega
  rcases h with rfl | rfl | rfl | rfl | rfl | rfl
  · exact ⟨h0, h1⟩
  · exact ⟨h2, h3⟩
  · exact ⟨h4, h5⟩
  · exact ⟨h6, h7⟩
  · exact ⟨h8, h9⟩
  · exact ⟨h10, h11⟩
theorem box_at {bx d : Nat → Int32} {nb b j : Nat} (hn : nb ≤ 5) (hb : b < nb) (hj : j < 3) (p3 : ∀ j, j < 3 * nb → bx j = d (40 + j)) : rowAt (3 * nb) bx (nI (3 * b + j)) = d (40 + 3 * b + j) := by
  unfold rowAt
  rw [i_nI (by omega), nI_clamp (by omega), if_pos (by omega), p3 _ (by omega)]
  exact congrArg d (by omega)
theorem prs_f2 {a s : Int32} {g : Nat → Int32} {z : Nat} (h : a = s + sumN g z) (hq : g z = 0) : a + 0 = s + sumN g (z + 1) := by
  rw [Int32.add_zero, h]
  show s + sumN g z = s + (sumN g z + g z)
  rw [hq, Int32.add_zero]
set_option maxHeartbeats 4000000 in
set_option maxRecDepth 100000 in
theorem c_unlikePairs {κ : Wc} {l : Launch} {h : Mm} {n : Nat} {o : Nat} {im : Int32} {d : Nat → Int32} {len : Nat} {nc : Nat} {cold : Int32} {wind : Int32} {cs : Nat → Option Nat} {ts : Nat → Option Nat} {nb : Nat} {bx : Nat → Int32} {alen : Int32} {anow : Int32} {add : Int32} {adr : Int32} {acc : Int32} {aon : Int32} {acold : Int32} {awind : Int32} {af1 : Nat → Int32} {af2 : Nat → Int32} {af3 : Nat → Int32} {ac1 : Nat → Option Nat} {at1 : Nat → Option Nat} {tx : Nat → Nat} {b : Nat} {v : Nat} (K0 : h o = some (.inr (11, [.ref (o + 1), .ref (o + 14), .ref (o + 27), .ref (o + 33), .ref (o + 42), .ref (o + 55), .ref (o + 57), .ref (o + 59), .ref (o + 61), .int im]))) (K1 : h (o + 1) = some (.inr (3, [.ref (o + 1 + 1), .ref (o + 1 + 7), .ref (o + 1 + 9), .ref (o + 1 + 11), .int (d 13)]))) (K2 : h (o + 2) = some (.inr (2, [.ref (o + 3), .ref (o + 4), .ref (o + 5), .ref (o + 6), .ref (o + 7), .int (nI len), .int (d 0), .int (d 2), .int (d 3), .int (nI nc), .int (d 10), .int cold, .int wind]))) (K3 : h (o + 3) = arI κ 40 (win 100 40 d)) (K4 : h (o + 4) = arI κ 40 (win 140 40 d)) (K5 : h (o + 5) = arI κ 6 (win 4 6 d)) (K6 : h (o + 6) = arR κ 1 6 cs) (K7 : h (o + 7) = arR κ 2 2 ts) (K8 : h (o + 12) = some (.inr (6, [.ref (o + 12 + 1), .int (nI (3 * nb)), .int 32]))) (K9 : h (o + 13) = arI κ 15 bx) (K10 : h (o + 27) = some (.inr (2, [.ref (o + 28), .ref (o + 29), .ref (o + 30), .ref (o + 31), .ref (o + 32), .int alen, .int anow, .int add, .int adr, .int acc, .int aon, .int acold, .int awind]))) (K11 : h (o + 28) = arI κ 40 af1) (K12 : h (o + 29) = arI κ 40 af2) (K13 : h (o + 30) = arI κ 6 af3) (K14 : h (o + 31) = arR κ 1 6 ac1) (K15 : h (o + 32) = arR κ 2 2 at1) (K16 : h (o + 42) = arR κ 3 6 (grF o)) (q1 : d 1 = nI len) (q2 : 1 ≤ len) (q3 : len ≤ 40) (q4 : d 11 = nI nc) (q5 : nc ≤ 6) (hTs : TsO κ (o + 76) h ts (Tx d) tx) (hCs : CsO (o + 76) h cs d nc) (hCA : CsA (o + 76) h cs) (hS : wfS d) (hC : wfC d) (hB : ∀ b, b < nb → -50 ≤ d (40 + 3 * b) ∧ d (40 + 3 * b) ≤ 99 ∧ 0 ≤ d (40 + 3 * b + 2) ∧ d (40 + 3 * b + 2) ≤ 99) (p3 : ∀ j, j < 3 * nb → bx j = d (40 + j)) (p2 : nb ≤ 5) (q6 : v ≤ 100) (q7 : b < nb) (hG : GrP κ o h 0 (fun _ _ => 0)) : Con κ l yX11_unlikePairs cX11_unlikePairs 7 (some .int) 14 0 0 [.ref o, .int (nI b), .int (nI v)] h n (fun q h' n' => ∃ x1' : Int32, ∃ x2' : Int32, ∃ x3' : Int32, ∃ x4' : Int32, ∃ x5' : Int32, ∃ x6' : Int32, ∃ x7' : Int32, ∃ x8' : Int32, ∃ af1' : Nat → Int32, ∃ af2' : Nat → Int32, ∃ af3' : Nat → Int32, ∃ ac1' : Nat → Option Nat, ∃ at1' : Nat → Option Nat, q = some (.int (triV (Tx d) tx d v nc b)) ∧ n' = n ∧ (∀ zq : Nat, zq < (o + 76) → zq ≠ (o + 27) → zq ≠ (o + 28) → zq ≠ (o + 29) → zq ≠ (o + 30) → zq ≠ (o + 31) → zq ≠ (o + 32) → zq ≠ (o + 43) → zq ≠ (o + 44) → zq ≠ (o + 45) → zq ≠ (o + 46) → zq ≠ (o + 47) → zq ≠ (o + 48) → zq ≠ (o + 49) → zq ≠ (o + 50) → zq ≠ (o + 51) → zq ≠ (o + 52) → zq ≠ (o + 53) → zq ≠ (o + 54) → h' zq = h zq) ∧ Zr κ (o + 76) h h' ∧ h' (o + 27) = some (.inr (2, [.ref (o + 28), .ref (o + 29), .ref (o + 30), .ref (o + 31), .ref (o + 32), .int x1', .int x2', .int x3', .int x4', .int x5', .int x6', .int x7', .int x8'])) ∧ h' (o + 28) = arI κ 40 af1' ∧ h' (o + 29) = arI κ 40 af2' ∧ h' (o + 30) = arI κ 6 af3' ∧ h' (o + 31) = arR κ 1 6 ac1' ∧ h' (o + 32) = arR κ 2 2 at1' ∧ GrP κ o h' 0 (fun _ _ => 0)) := by
  refine Con.of mk_X11_unlikePairs (Nat.le_of_ble_eq_true rfl) (fun G hG X E => ?_)
  subst hG
  refine z_ls (ls' := [(0, .ref o), (1, .int (nI b)), (2, .int (nI v))]) rfl ?_
  have hOk : lnOk d := lnOk_of q1 q2 q3
  refine z_aload_n X 0 dX11_unlikePairs_0 rfl ?_
  refine z_get X fl_X11_10_11 dX11_unlikePairs_1 K0 rfl ?_
  refine z_get X fl_X11_56_3 dX11_unlikePairs_4 K1 rfl ?_
  refine z_get X fl_X11_117_2 dX11_unlikePairs_7 K2 rfl ?_
  refine z_bipush (v := 6) X dX11_unlikePairs_10 (by decide) ?_
  refine z_mmin X dX11_unlikePairs_12 wd_295 wd_296 wd_63 wd_297 (Nat.le_of_ble_eq_true rfl) (Nat.le_of_ble_eq_true rfl) (Nat.le_of_ble_eq_true rfl) (Nat.le_of_ble_eq_true rfl) ?_
  refine z_toe (y := nI nc) (if_neg (Int32.not_lt.mpr (show nI nc ≤ nI 6 from nI_le (by omega) (by omega)))) ?_
  refine z_istore_n (ls' := [(3, .int (nI nc)), (0, .ref o), (1, .int (nI b)), (2, .int (nI v))]) X dX11_unlikePairs_15 (by decide) rfl ?_
  refine z_iconst (v := 0) X dX11_unlikePairs_16 (by decide) ?_
  refine z_istore (ls' := [(4, .int 0), (3, .int (nI nc)), (0, .ref o), (1, .int (nI b)), (2, .int (nI v))]) X dX11_unlikePairs_17 (by decide) rfl ?_
  refine z_iconst (v := 0) X dX11_unlikePairs_19 (by decide) ?_
  refine z_istore (ls' := [(5, .int 0), (4, .int 0), (3, .int (nI nc)), (0, .ref o), (1, .int (nI b)), (2, .int (nI v))]) X dX11_unlikePairs_20 (by decide) rfl ?_
  have L22 : ∀ (jj : Nat) (hh22 : Mm) (i : Nat) (acc : Int32) (y1 : Int32) (y2 : Int32) (y3 : Int32) (y4 : Int32) (y5 : Int32) (y6 : Int32) (y7 : Int32) (y8 : Int32) (b1 : Nat → Int32) (b2 : Nat → Int32) (b3 : Nat → Int32) (b4 : Nat → Option Nat) (b5 : Nat → Option Nat), (nc - i < jj) → (∀ zq : Nat, zq < (o + 76) → zq ≠ (o + 27) → zq ≠ (o + 28) → zq ≠ (o + 29) → zq ≠ (o + 30) → zq ≠ (o + 31) → zq ≠ (o + 32) → zq ≠ (o + 43) → zq ≠ (o + 44) → zq ≠ (o + 45) → zq ≠ (o + 46) → zq ≠ (o + 47) → zq ≠ (o + 48) → zq ≠ (o + 49) → zq ≠ (o + 50) → zq ≠ (o + 51) → zq ≠ (o + 52) → zq ≠ (o + 53) → zq ≠ (o + 54) → hh22 zq = h zq) → Zr κ (o + 76) h hh22 → hh22 (o + 27) = some (.inr (2, [.ref (o + 28), .ref (o + 29), .ref (o + 30), .ref (o + 31), .ref (o + 32), .int y1, .int y2, .int y3, .int y4, .int y5, .int y6, .int y7, .int y8])) → hh22 (o + 28) = arI κ 40 b1 → hh22 (o + 29) = arI κ 40 b2 → hh22 (o + 30) = arI κ 6 b3 → hh22 (o + 31) = arR κ 1 6 b4 → hh22 (o + 32) = arR κ 2 2 b5 → (hi : i ≤ nc) → (hg : GrP κ o hh22 i (trE (Tx d) tx d v b)) → (hacc : acc = sumN (fun a => sumN (fun z => unlE (triE (Tx d) tx d v b a) (triE (Tx d) tx d v b z)) a) i) → Z κ G 7 22 [(0, .ref o), (1, .int (nI b)), (2, .int (nI v)), (3, .int (nI nc)), (4, .int acc), (5, .int (nI i))] [] hh22 n 0 (0) := by
    intro jj
    induction jj with
    | zero => intro hh22 i acc y1 y2 y3 y4 y5 y6 y7 y8 b1 b2 b3 b4 b5 hmu; exact absurd hmu (Nat.not_lt_zero _)
    | succ jj ih22 =>
      intro hh22 i acc y1 y2 y3 y4 y5 y6 y7 y8 b1 b2 b3 b4 b5 hmu zl_22 zr_22 zK1 zK2 zK3 zK4 zK5 zK6 hi hg hacc
      have zK7 : hh22 o = some (.inr (11, [.ref (o + 1), .ref (o + 14), .ref (o + 27), .ref (o + 33), .ref (o + 42), .ref (o + 55), .ref (o + 57), .ref (o + 59), .ref (o + 61), .int im])) := (zl_22 o (by omega) (by omega) (by omega) (by omega) (by omega) (by omega) (by omega) (by omega) (by omega) (by omega) (by omega) (by omega) (by omega) (by omega) (by omega) (by omega) (by omega) (by omega) (by omega)).trans K0
      have zK8 : hh22 (o + 1) = some (.inr (3, [.ref (o + 1 + 1), .ref (o + 1 + 7), .ref (o + 1 + 9), .ref (o + 1 + 11), .int (d 13)])) := (zl_22 (o + 1) (by omega) (by omega) (by omega) (by omega) (by omega) (by omega) (by omega) (by omega) (by omega) (by omega) (by omega) (by omega) (by omega) (by omega) (by omega) (by omega) (by omega) (by omega) (by omega)).trans K1
      have zK9 : hh22 (o + 2) = some (.inr (2, [.ref (o + 3), .ref (o + 4), .ref (o + 5), .ref (o + 6), .ref (o + 7), .int (nI len), .int (d 0), .int (d 2), .int (d 3), .int (nI nc), .int (d 10), .int cold, .int wind])) := (zl_22 (o + 2) (by omega) (by omega) (by omega) (by omega) (by omega) (by omega) (by omega) (by omega) (by omega) (by omega) (by omega) (by omega) (by omega) (by omega) (by omega) (by omega) (by omega) (by omega) (by omega)).trans K2
      have zK10 : hh22 (o + 3) = arI κ 40 (win 100 40 d) := (zl_22 (o + 3) (by omega) (by omega) (by omega) (by omega) (by omega) (by omega) (by omega) (by omega) (by omega) (by omega) (by omega) (by omega) (by omega) (by omega) (by omega) (by omega) (by omega) (by omega) (by omega)).trans K3
      have zK11 : hh22 (o + 4) = arI κ 40 (win 140 40 d) := (zl_22 (o + 4) (by omega) (by omega) (by omega) (by omega) (by omega) (by omega) (by omega) (by omega) (by omega) (by omega) (by omega) (by omega) (by omega) (by omega) (by omega) (by omega) (by omega) (by omega) (by omega)).trans K4
      have zK12 : hh22 (o + 5) = arI κ 6 (win 4 6 d) := (zl_22 (o + 5) (by omega) (by omega) (by omega) (by omega) (by omega) (by omega) (by omega) (by omega) (by omega) (by omega) (by omega) (by omega) (by omega) (by omega) (by omega) (by omega) (by omega) (by omega) (by omega)).trans K5
      have zK13 : hh22 (o + 6) = arR κ 1 6 cs := (zl_22 (o + 6) (by omega) (by omega) (by omega) (by omega) (by omega) (by omega) (by omega) (by omega) (by omega) (by omega) (by omega) (by omega) (by omega) (by omega) (by omega) (by omega) (by omega) (by omega) (by omega)).trans K6
      have zK14 : hh22 (o + 7) = arR κ 2 2 ts := (zl_22 (o + 7) (by omega) (by omega) (by omega) (by omega) (by omega) (by omega) (by omega) (by omega) (by omega) (by omega) (by omega) (by omega) (by omega) (by omega) (by omega) (by omega) (by omega) (by omega) (by omega)).trans K7
      have zK15 : hh22 (o + 12) = some (.inr (6, [.ref (o + 12 + 1), .int (nI (3 * nb)), .int 32])) := (zl_22 (o + 12) (by omega) (by omega) (by omega) (by omega) (by omega) (by omega) (by omega) (by omega) (by omega) (by omega) (by omega) (by omega) (by omega) (by omega) (by omega) (by omega) (by omega) (by omega) (by omega)).trans K8
      have zK16 : hh22 (o + 13) = arI κ 15 bx := (zl_22 (o + 13) (by omega) (by omega) (by omega) (by omega) (by omega) (by omega) (by omega) (by omega) (by omega) (by omega) (by omega) (by omega) (by omega) (by omega) (by omega) (by omega) (by omega) (by omega) (by omega)).trans K9
      have zK17 : hh22 (o + 42) = arR κ 3 6 (grF o) := (zl_22 (o + 42) (by omega) (by omega) (by omega) (by omega) (by omega) (by omega) (by omega) (by omega) (by omega) (by omega) (by omega) (by omega) (by omega) (by omega) (by omega) (by omega) (by omega) (by omega) (by omega)).trans K16
      refine z_iload X 5 dX11_unlikePairs_22 rfl ?_
      have zw0 : ∀ zq : Nat, o + 43 ≤ zq → zq < o + 55 → hh22 zq = hh22 zq := fun _ _ _ => rfl
      refine z_iload_n X 3 dX11_unlikePairs_24 rfl ?_
      refine z_icmp_ge X 162 dX11_unlikePairs_25 (by decide) (fun zc18 => ?_) (fun zc18 => ?_)
      · try replace zc18 := (nI_leI (a := nc) (b := i) (by omega) (by omega)).mp zc18
        refine z_iload X 4 dX11_unlikePairs_162 rfl ?_
        refine z_iret X E dX11_unlikePairs_164 (by omega) (by omega) ⟨y1, y2, y3, y4, y5, y6, y7, y8, b1, b2, b3, b4, b5, ?_, ?_, ?_, ?_, ?_, ?_, ?_, ?_, ?_, ?_, ?_⟩
        · rw [hacc, show i = nc by omega]; rfl
        · rfl
        · exact fun zq hzq zn0 zn1 zn2 zn3 zn4 zn5 zn6 zn7 zn8 zn9 zn10 zn11 zn12 zn13 zn14 zn15 zn16 zn17 => zl_22 zq hzq zn0 zn1 zn2 zn3 zn4 zn5 zn6 zn7 zn8 zn9 zn10 zn11 zn12 zn13 zn14 zn15 zn16 zn17
        · exact zr_22
        · exact zK1
        · exact zK2
        · exact zK3
        · exact zK4
        · exact zK5
        · exact zK6
        · exact hg.zero
      · try replace zc18 := mt (nI_leI (a := nc) (b := i) (by omega) (by omega)).mpr zc18
        refine z_aload_n X 0 dX11_unlikePairs_28 rfl ?_
        refine z_callV X (c_startAnew (κ := κ) (n := n) (o := (o)) (im := (im)) (d := (d)) (len := (len)) (nc := (nc)) (cold := (cold)) (wind := (wind)) (cs := (cs)) (ts := (ts)) (alen := (y1)) (anow := (y2)) (add := (y3)) (adr := (y4)) (acc := (y5)) (aon := (y6)) (acold := (y7)) (awind := (y8)) (af1 := (b1)) (af2 := (b2)) (af3 := (b3)) (ac1 := (b4)) (at1 := (b5)) (tx := (tx)) zK7 zK8 zK9 zK10 zK11 zK12 zK13 zK14 zK1 zK2 zK3 zK4 zK5 zK6 (TsO.mono zr_22 hTs) (CsO.mono zr_22 hCs) (CsA.mono zr_22 hCA)) mk_X11_startAnew dX11_unlikePairs_29 wd_728 wd_730 wd_21 rfl zK7 rfl rfl rfl (Nat.le_of_ble_eq_true rfl) (Nat.le_of_ble_eq_true rfl) (Nat.le_of_ble_eq_true rfl) (by omega) (by omega) (fun q zh19 zm21 zp22 => ?_)
        obtain ⟨rfl, zn23, zf24, zr25, zK26, zK27, zK28, zK29, zK30, zK31⟩ := zp22
        subst zm21
        refine z_st (st' := []) rfl ?_
        have zK32 : zh19 o = some (.inr (11, [.ref (o + 1), .ref (o + 14), .ref (o + 27), .ref (o + 33), .ref (o + 42), .ref (o + 55), .ref (o + 57), .ref (o + 59), .ref (o + 61), .int im])) := (zf24 o (by omega) (by omega) (by omega) (by omega) (by omega) (by omega) (by omega)).trans zK7
        have zK33 : zh19 (o + 1) = some (.inr (3, [.ref (o + 1 + 1), .ref (o + 1 + 7), .ref (o + 1 + 9), .ref (o + 1 + 11), .int (d 13)])) := (zf24 (o + 1) (by omega) (by omega) (by omega) (by omega) (by omega) (by omega) (by omega)).trans zK8
        have zK34 : zh19 (o + 2) = some (.inr (2, [.ref (o + 3), .ref (o + 4), .ref (o + 5), .ref (o + 6), .ref (o + 7), .int (nI len), .int (d 0), .int (d 2), .int (d 3), .int (nI nc), .int (d 10), .int cold, .int wind])) := (zf24 (o + 2) (by omega) (by omega) (by omega) (by omega) (by omega) (by omega) (by omega)).trans zK9
        have zK35 : zh19 (o + 3) = arI κ 40 (win 100 40 d) := (zf24 (o + 3) (by omega) (by omega) (by omega) (by omega) (by omega) (by omega) (by omega)).trans zK10
        have zK36 : zh19 (o + 4) = arI κ 40 (win 140 40 d) := (zf24 (o + 4) (by omega) (by omega) (by omega) (by omega) (by omega) (by omega) (by omega)).trans zK11
        have zK37 : zh19 (o + 5) = arI κ 6 (win 4 6 d) := (zf24 (o + 5) (by omega) (by omega) (by omega) (by omega) (by omega) (by omega) (by omega)).trans zK12
        have zK38 : zh19 (o + 6) = arR κ 1 6 cs := (zf24 (o + 6) (by omega) (by omega) (by omega) (by omega) (by omega) (by omega) (by omega)).trans zK13
        have zK39 : zh19 (o + 7) = arR κ 2 2 ts := (zf24 (o + 7) (by omega) (by omega) (by omega) (by omega) (by omega) (by omega) (by omega)).trans zK14
        have zK40 : zh19 (o + 12) = some (.inr (6, [.ref (o + 12 + 1), .int (nI (3 * nb)), .int 32])) := (zf24 (o + 12) (by omega) (by omega) (by omega) (by omega) (by omega) (by omega) (by omega)).trans zK15
        have zK41 : zh19 (o + 13) = arI κ 15 bx := (zf24 (o + 13) (by omega) (by omega) (by omega) (by omega) (by omega) (by omega) (by omega)).trans zK16
        have zK42 : zh19 (o + 42) = arR κ 3 6 (grF o) := (zf24 (o + 42) (by omega) (by omega) (by omega) (by omega) (by omega) (by omega) (by omega)).trans zK17
        have zl43 : ∀ zq : Nat, zq < (o + 76) → zq ≠ (o + 27) → zq ≠ (o + 28) → zq ≠ (o + 29) → zq ≠ (o + 30) → zq ≠ (o + 31) → zq ≠ (o + 32) → zq ≠ (o + 43) → zq ≠ (o + 44) → zq ≠ (o + 45) → zq ≠ (o + 46) → zq ≠ (o + 47) → zq ≠ (o + 48) → zq ≠ (o + 49) → zq ≠ (o + 50) → zq ≠ (o + 51) → zq ≠ (o + 52) → zq ≠ (o + 53) → zq ≠ (o + 54) → zh19 zq = h zq := by intro zq hzq zn0 zn1 zn2 zn3 zn4 zn5 zn6 zn7 zn8 zn9 zn10 zn11 zn12 zn13 zn14 zn15 zn16 zn17; rw [zf24 zq (by omega) (by omega) (by omega) (by omega) (by omega) (by omega) (by omega)]; exact zl_22 zq hzq zn0 zn1 zn2 zn3 zn4 zn5 zn6 zn7 zn8 zn9 zn10 zn11 zn12 zn13 zn14 zn15 zn16 zn17
        have zr44 : Zr κ (o + 76) h zh19 := (zr_22).trans zr25
        have zw45 : ∀ zq : Nat, o + 43 ≤ zq → zq < o + 55 → zh19 zq = hh22 zq := by intro zq hq1 hq2 ; rw [zf24 zq (by omega) (by omega) (by omega) (by omega) (by omega) (by omega) (by omega)]; try exact zw0 zq hq1 hq2 
        refine z_iconst (v := 0) X dX11_unlikePairs_32 (by decide) ?_
        refine z_istore (ls' := [(6, .int 0), (0, .ref o), (1, .int (nI b)), (2, .int (nI v)), (3, .int (nI nc)), (4, .int acc), (5, .int (nI i))]) X dX11_unlikePairs_33 (by decide) rfl ?_
        refine z_iload X 0 dX11_unlikePairs_35 rfl ?_
        refine z_iconst (v := 3) X dX11_unlikePairs_37 (by decide) ?_
        refine z_icmp_ge X 77 dX11_unlikePairs_38 (by decide) (fun zc46 => ?_) (fun zc46 => ?_)
        · first | exact absurd zc46 (by decide) | exact absurd (by decide) zc46
        · try replace zc46 := mt (nI_leI (a := 3) (b := 0) (by omega) (by omega)).mpr zc46
          refine z_aload_n X 1 dX11_unlikePairs_41 rfl ?_
          refine z_get X fl_X11_22_11 dX11_unlikePairs_42 zK32 rfl ?_
          refine z_get X fl_X11_114_2 dX11_unlikePairs_45 zK26 rfl ?_
          refine z_gets X 4 rfl dX11_unlikePairs_48 wd_753 ?_
          refine z_iload X 0 dX11_unlikePairs_51 rfl ?_
          refine z_ti (v := .int 2) X 4 rfl dX11_unlikePairs_53 (vp_in_nI (n := 0) (by decide) (by decide)) (rfl) ?_
          refine z_aload_n X 1 dX11_unlikePairs_54 rfl ?_
          refine z_get X fl_X11_10_11 dX11_unlikePairs_55 zK32 rfl ?_
          refine z_get X fl_X11_244_3 dX11_unlikePairs_58 zK33 rfl ?_
          refine z_iconst (v := 3) X dX11_unlikePairs_61 (by decide) ?_
          refine z_iload_n X 2 dX11_unlikePairs_62 rfl ?_
          refine z_imul X dX11_unlikePairs_63 ?_
          refine z_toe (y := nI (3 * b)) (pk_mul (3) (b)) ?_
          refine z_iload X 0 dX11_unlikePairs_64 rfl ?_
          refine z_iadd X dX11_unlikePairs_66 ?_
          refine z_toe (y := nI ((3 * b) + 0)) (nI_add (3 * b) (0)) ?_
          refine z_callV X (c_Row_at (κ := κ) (n := n) (r := (o + 1 + 11)) (k := (3 * nb)) (bt := (32)) (i := (nI ((3 * b) + 0))) (N := (15)) (f := (bx)) zK40 zK41 (by first | assumption | omega) (by first | assumption | omega)) mk_X6_at dX11_unlikePairs_67 wd_298 wd_299 wd_300 rfl zK40 rfl rfl rfl (Nat.le_of_ble_eq_true rfl) (Nat.le_of_ble_eq_true rfl) (Nat.le_of_ble_eq_true rfl) (by omega) (by omega) (fun q zh47 zm49 zp50 => ?_)
          obtain ⟨rfl, ze48, zn51⟩ := zp50
          subst zm49
          subst zh47
          refine z_st (st' := [.int (rowAt (3 * nb) bx (nI ((3 * b) + 0))), .int 2, .ref (o + 30)]) rfl ?_
          refine z_toe (y := d (40 + 3 * b)) (box_at (j := 0) p2 q7 (by omega) p3) ?_
          refine z_iast X dX11_unlikePairs_70 zK29 (vp_in_nI (n := 2) (by decide) (by decide)) (congrArg (fun z => va_up zh19 (o + 30) (arI κ 6 (upd (win 4 6 d) z (d (40 + 3 * b))))) (nI_clamp (n := 2) (by omega))) ?_
          obtain ⟨zh52, ze53⟩ : ∃ z : Mm, z = va_up zh19 (o + 30) (arI κ 6 (upd (win 4 6 d) 2 (d (40 + 3 * b)))) := ⟨_, rfl⟩
          refine z_heap (h' := zh52) ze53.symm ?_
          have zK54 := up_off ze53 (show o ≠ o + 30 by omega) zK32
          have zK55 := up_off ze53 (show o + 1 ≠ o + 30 by omega) zK33
          have zK56 := up_off ze53 (show o + 2 ≠ o + 30 by omega) zK34
          have zK57 := up_off ze53 (show o + 3 ≠ o + 30 by omega) zK35
          have zK58 := up_off ze53 (show o + 4 ≠ o + 30 by omega) zK36
          have zK59 := up_off ze53 (show o + 5 ≠ o + 30 by omega) zK37
          have zK60 := up_off ze53 (show o + 6 ≠ o + 30 by omega) zK38
          have zK61 := up_off ze53 (show o + 7 ≠ o + 30 by omega) zK39
          have zK62 := up_off ze53 (show o + 12 ≠ o + 30 by omega) zK40
          have zK63 := up_off ze53 (show o + 13 ≠ o + 30 by omega) zK41
          have zK64 := up_off ze53 (show o + 42 ≠ o + 30 by omega) zK42
          have zK65 := up_off ze53 (show o + 27 ≠ o + 30 by omega) zK26
          have zK66 := up_off ze53 (show o + 28 ≠ o + 30 by omega) zK27
          have zK67 := up_off ze53 (show o + 29 ≠ o + 30 by omega) zK28
          have zK68 := up_at ze53
          have zK69 := up_off ze53 (show o + 31 ≠ o + 30 by omega) zK30
          have zK70 := up_off ze53 (show o + 32 ≠ o + 30 by omega) zK31
          have zl71 : ∀ zq : Nat, zq < (o + 76) → zq ≠ (o + 27) → zq ≠ (o + 28) → zq ≠ (o + 29) → zq ≠ (o + 30) → zq ≠ (o + 31) → zq ≠ (o + 32) → zq ≠ (o + 43) → zq ≠ (o + 44) → zq ≠ (o + 45) → zq ≠ (o + 46) → zq ≠ (o + 47) → zq ≠ (o + 48) → zq ≠ (o + 49) → zq ≠ (o + 50) → zq ≠ (o + 51) → zq ≠ (o + 52) → zq ≠ (o + 53) → zq ≠ (o + 54) → zh52 zq = h zq := by intro zq hzq zn0 zn1 zn2 zn3 zn4 zn5 zn6 zn7 zn8 zn9 zn10 zn11 zn12 zn13 zn14 zn15 zn16 zn17; rw [ze53, va_up_ne _ _ (show zq ≠ o + 30 by omega)]; exact zl43 zq hzq zn0 zn1 zn2 zn3 zn4 zn5 zn6 zn7 zn8 zn9 zn10 zn11 zn12 zn13 zn14 zn15 zn16 zn17
          have zr72 : Zr κ (o + 76) h zh52 := (zr44).trans (Zr.same (fun zq h1 => by rw [ze53, va_up_ne _ _ (show zq ≠ o + 30 by omega)]))
          have zw73 : ∀ zq : Nat, o + 43 ≤ zq → zq < o + 55 → zh52 zq = hh22 zq := by intro zq hq1 hq2 ; rw [ze53, va_up_ne _ _ (show zq ≠ o + 30 by omega)]; try exact zw45 zq hq1 hq2 
          refine z_iinc (v := 1) (ls' := [(6, .int 1), (0, .ref o), (1, .int (nI b)), (2, .int (nI v)), (3, .int (nI nc)), (4, .int acc), (5, .int (nI i))]) X 0 dX11_unlikePairs_71 rfl rfl (by decide) rfl ?_
          refine z_goto X 35 dX11_unlikePairs_74 (by decide) ?_
          refine z_iload X 0 dX11_unlikePairs_35 rfl ?_
          refine z_iconst (v := 3) X dX11_unlikePairs_37 (by decide) ?_
          refine z_icmp_ge X 77 dX11_unlikePairs_38 (by decide) (fun zc74 => ?_) (fun zc74 => ?_)
          · first | exact absurd zc74 (by decide) | exact absurd (by decide) zc74
          · try replace zc74 := mt (nI_leI (a := 3) (b := 1) (by omega) (by omega)).mpr zc74
            refine z_aload_n X 1 dX11_unlikePairs_41 rfl ?_
            refine z_get X fl_X11_22_11 dX11_unlikePairs_42 zK54 rfl ?_
            refine z_get X fl_X11_114_2 dX11_unlikePairs_45 zK65 rfl ?_
            refine z_gets X 4 rfl dX11_unlikePairs_48 wd_753 ?_
            refine z_iload X 0 dX11_unlikePairs_51 rfl ?_
            refine z_ti (v := .int 3) X 4 rfl dX11_unlikePairs_53 (vp_in_nI (n := 1) (by decide) (by decide)) (rfl) ?_
            refine z_aload_n X 1 dX11_unlikePairs_54 rfl ?_
            refine z_get X fl_X11_10_11 dX11_unlikePairs_55 zK54 rfl ?_
            refine z_get X fl_X11_244_3 dX11_unlikePairs_58 zK55 rfl ?_
            refine z_iconst (v := 3) X dX11_unlikePairs_61 (by decide) ?_
            refine z_iload_n X 2 dX11_unlikePairs_62 rfl ?_
            refine z_imul X dX11_unlikePairs_63 ?_
            refine z_toe (y := nI (3 * b)) (pk_mul (3) (b)) ?_
            refine z_iload X 0 dX11_unlikePairs_64 rfl ?_
            refine z_iadd X dX11_unlikePairs_66 ?_
            refine z_toe (y := nI ((3 * b) + 1)) (nI_add (3 * b) (1)) ?_
            refine z_callV X (c_Row_at (κ := κ) (n := n) (r := (o + 1 + 11)) (k := (3 * nb)) (bt := (32)) (i := (nI ((3 * b) + 1))) (N := (15)) (f := (bx)) zK62 zK63 (by first | assumption | omega) (by first | assumption | omega)) mk_X6_at dX11_unlikePairs_67 wd_298 wd_299 wd_300 rfl zK62 rfl rfl rfl (Nat.le_of_ble_eq_true rfl) (Nat.le_of_ble_eq_true rfl) (Nat.le_of_ble_eq_true rfl) (by omega) (by omega) (fun q zh75 zm77 zp78 => ?_)
            obtain ⟨rfl, ze76, zn79⟩ := zp78
            subst zm77
            subst zh75
            refine z_st (st' := [.int (rowAt (3 * nb) bx (nI ((3 * b) + 1))), .int 3, .ref (o + 30)]) rfl ?_
            refine z_toe (y := d (40 + 3 * b + 1)) (box_at (j := 1) p2 q7 (by omega) p3) ?_
            refine z_iast X dX11_unlikePairs_70 zK68 (vp_in_nI (n := 3) (by decide) (by decide)) (congrArg (fun z => va_up zh52 (o + 30) (arI κ 6 (upd (upd (win 4 6 d) 2 (d (40 + 3 * b))) z (d (40 + 3 * b + 1))))) (nI_clamp (n := 3) (by omega))) ?_
            obtain ⟨zh80, ze81⟩ : ∃ z : Mm, z = va_up zh52 (o + 30) (arI κ 6 (upd (upd (win 4 6 d) 2 (d (40 + 3 * b))) 3 (d (40 + 3 * b + 1)))) := ⟨_, rfl⟩
            refine z_heap (h' := zh80) ze81.symm ?_
            have zK82 := up_off ze81 (show o ≠ o + 30 by omega) zK54
            have zK83 := up_off ze81 (show o + 1 ≠ o + 30 by omega) zK55
            have zK84 := up_off ze81 (show o + 2 ≠ o + 30 by omega) zK56
            have zK85 := up_off ze81 (show o + 3 ≠ o + 30 by omega) zK57
            have zK86 := up_off ze81 (show o + 4 ≠ o + 30 by omega) zK58
            have zK87 := up_off ze81 (show o + 5 ≠ o + 30 by omega) zK59
            have zK88 := up_off ze81 (show o + 6 ≠ o + 30 by omega) zK60
            have zK89 := up_off ze81 (show o + 7 ≠ o + 30 by omega) zK61
            have zK90 := up_off ze81 (show o + 12 ≠ o + 30 by omega) zK62
            have zK91 := up_off ze81 (show o + 13 ≠ o + 30 by omega) zK63
            have zK92 := up_off ze81 (show o + 42 ≠ o + 30 by omega) zK64
            have zK93 := up_off ze81 (show o + 27 ≠ o + 30 by omega) zK65
            have zK94 := up_off ze81 (show o + 28 ≠ o + 30 by omega) zK66
            have zK95 := up_off ze81 (show o + 29 ≠ o + 30 by omega) zK67
            have zK96 := up_at ze81
            have zK97 := up_off ze81 (show o + 31 ≠ o + 30 by omega) zK69
            have zK98 := up_off ze81 (show o + 32 ≠ o + 30 by omega) zK70
            have zl99 : ∀ zq : Nat, zq < (o + 76) → zq ≠ (o + 27) → zq ≠ (o + 28) → zq ≠ (o + 29) → zq ≠ (o + 30) → zq ≠ (o + 31) → zq ≠ (o + 32) → zq ≠ (o + 43) → zq ≠ (o + 44) → zq ≠ (o + 45) → zq ≠ (o + 46) → zq ≠ (o + 47) → zq ≠ (o + 48) → zq ≠ (o + 49) → zq ≠ (o + 50) → zq ≠ (o + 51) → zq ≠ (o + 52) → zq ≠ (o + 53) → zq ≠ (o + 54) → zh80 zq = h zq := by intro zq hzq zn0 zn1 zn2 zn3 zn4 zn5 zn6 zn7 zn8 zn9 zn10 zn11 zn12 zn13 zn14 zn15 zn16 zn17; rw [ze81, va_up_ne _ _ (show zq ≠ o + 30 by omega)]; exact zl71 zq hzq zn0 zn1 zn2 zn3 zn4 zn5 zn6 zn7 zn8 zn9 zn10 zn11 zn12 zn13 zn14 zn15 zn16 zn17
            have zr100 : Zr κ (o + 76) h zh80 := (zr72).trans (Zr.same (fun zq h1 => by rw [ze81, va_up_ne _ _ (show zq ≠ o + 30 by omega)]))
            have zw101 : ∀ zq : Nat, o + 43 ≤ zq → zq < o + 55 → zh80 zq = hh22 zq := by intro zq hq1 hq2 ; rw [ze81, va_up_ne _ _ (show zq ≠ o + 30 by omega)]; try exact zw73 zq hq1 hq2 
            refine z_iinc (v := 2) (ls' := [(6, .int 2), (0, .ref o), (1, .int (nI b)), (2, .int (nI v)), (3, .int (nI nc)), (4, .int acc), (5, .int (nI i))]) X 0 dX11_unlikePairs_71 rfl rfl (by decide) rfl ?_
            refine z_goto X 35 dX11_unlikePairs_74 (by decide) ?_
            refine z_iload X 0 dX11_unlikePairs_35 rfl ?_
            refine z_iconst (v := 3) X dX11_unlikePairs_37 (by decide) ?_
            refine z_icmp_ge X 77 dX11_unlikePairs_38 (by decide) (fun zc102 => ?_) (fun zc102 => ?_)
            · first | exact absurd zc102 (by decide) | exact absurd (by decide) zc102
            · try replace zc102 := mt (nI_leI (a := 3) (b := 2) (by omega) (by omega)).mpr zc102
              refine z_aload_n X 1 dX11_unlikePairs_41 rfl ?_
              refine z_get X fl_X11_22_11 dX11_unlikePairs_42 zK82 rfl ?_
              refine z_get X fl_X11_114_2 dX11_unlikePairs_45 zK93 rfl ?_
              refine z_gets X 4 rfl dX11_unlikePairs_48 wd_753 ?_
              refine z_iload X 0 dX11_unlikePairs_51 rfl ?_
              refine z_ti (v := .int 1) X 4 rfl dX11_unlikePairs_53 (vp_in_nI (n := 2) (by decide) (by decide)) (rfl) ?_
              refine z_aload_n X 1 dX11_unlikePairs_54 rfl ?_
              refine z_get X fl_X11_10_11 dX11_unlikePairs_55 zK82 rfl ?_
              refine z_get X fl_X11_244_3 dX11_unlikePairs_58 zK83 rfl ?_
              refine z_iconst (v := 3) X dX11_unlikePairs_61 (by decide) ?_
              refine z_iload_n X 2 dX11_unlikePairs_62 rfl ?_
              refine z_imul X dX11_unlikePairs_63 ?_
              refine z_toe (y := nI (3 * b)) (pk_mul (3) (b)) ?_
              refine z_iload X 0 dX11_unlikePairs_64 rfl ?_
              refine z_iadd X dX11_unlikePairs_66 ?_
              refine z_toe (y := nI ((3 * b) + 2)) (nI_add (3 * b) (2)) ?_
              refine z_callV X (c_Row_at (κ := κ) (n := n) (r := (o + 1 + 11)) (k := (3 * nb)) (bt := (32)) (i := (nI ((3 * b) + 2))) (N := (15)) (f := (bx)) zK90 zK91 (by first | assumption | omega) (by first | assumption | omega)) mk_X6_at dX11_unlikePairs_67 wd_298 wd_299 wd_300 rfl zK90 rfl rfl rfl (Nat.le_of_ble_eq_true rfl) (Nat.le_of_ble_eq_true rfl) (Nat.le_of_ble_eq_true rfl) (by omega) (by omega) (fun q zh103 zm105 zp106 => ?_)
              obtain ⟨rfl, ze104, zn107⟩ := zp106
              subst zm105
              subst zh103
              refine z_st (st' := [.int (rowAt (3 * nb) bx (nI ((3 * b) + 2))), .int 1, .ref (o + 30)]) rfl ?_
              refine z_toe (y := d (40 + 3 * b + 2)) (box_at (j := 2) p2 q7 (by omega) p3) ?_
              refine z_iast X dX11_unlikePairs_70 zK96 (vp_in_nI (n := 1) (by decide) (by decide)) (congrArg (fun z => va_up zh80 (o + 30) (arI κ 6 (upd (upd (upd (win 4 6 d) 2 (d (40 + 3 * b))) 3 (d (40 + 3 * b + 1))) z (d (40 + 3 * b + 2))))) (nI_clamp (n := 1) (by omega))) ?_
              obtain ⟨zh108, ze109⟩ : ∃ z : Mm, z = va_up zh80 (o + 30) (arI κ 6 (upd (upd (upd (win 4 6 d) 2 (d (40 + 3 * b))) 3 (d (40 + 3 * b + 1))) 1 (d (40 + 3 * b + 2)))) := ⟨_, rfl⟩
              refine z_heap (h' := zh108) ze109.symm ?_
              have zK110 := up_off ze109 (show o ≠ o + 30 by omega) zK82
              have zK111 := up_off ze109 (show o + 1 ≠ o + 30 by omega) zK83
              have zK112 := up_off ze109 (show o + 2 ≠ o + 30 by omega) zK84
              have zK113 := up_off ze109 (show o + 3 ≠ o + 30 by omega) zK85
              have zK114 := up_off ze109 (show o + 4 ≠ o + 30 by omega) zK86
              have zK115 := up_off ze109 (show o + 5 ≠ o + 30 by omega) zK87
              have zK116 := up_off ze109 (show o + 6 ≠ o + 30 by omega) zK88
              have zK117 := up_off ze109 (show o + 7 ≠ o + 30 by omega) zK89
              have zK118 := up_off ze109 (show o + 12 ≠ o + 30 by omega) zK90
              have zK119 := up_off ze109 (show o + 13 ≠ o + 30 by omega) zK91
              have zK120 := up_off ze109 (show o + 42 ≠ o + 30 by omega) zK92
              have zK121 := up_off ze109 (show o + 27 ≠ o + 30 by omega) zK93
              have zK122 := up_off ze109 (show o + 28 ≠ o + 30 by omega) zK94
              have zK123 := up_off ze109 (show o + 29 ≠ o + 30 by omega) zK95
              have zK124 := up_at ze109
              have zK125 := up_off ze109 (show o + 31 ≠ o + 30 by omega) zK97
              have zK126 := up_off ze109 (show o + 32 ≠ o + 30 by omega) zK98
              have zl127 : ∀ zq : Nat, zq < (o + 76) → zq ≠ (o + 27) → zq ≠ (o + 28) → zq ≠ (o + 29) → zq ≠ (o + 30) → zq ≠ (o + 31) → zq ≠ (o + 32) → zq ≠ (o + 43) → zq ≠ (o + 44) → zq ≠ (o + 45) → zq ≠ (o + 46) → zq ≠ (o + 47) → zq ≠ (o + 48) → zq ≠ (o + 49) → zq ≠ (o + 50) → zq ≠ (o + 51) → zq ≠ (o + 52) → zq ≠ (o + 53) → zq ≠ (o + 54) → zh108 zq = h zq := by intro zq hzq zn0 zn1 zn2 zn3 zn4 zn5 zn6 zn7 zn8 zn9 zn10 zn11 zn12 zn13 zn14 zn15 zn16 zn17; rw [ze109, va_up_ne _ _ (show zq ≠ o + 30 by omega)]; exact zl99 zq hzq zn0 zn1 zn2 zn3 zn4 zn5 zn6 zn7 zn8 zn9 zn10 zn11 zn12 zn13 zn14 zn15 zn16 zn17
              have zr128 : Zr κ (o + 76) h zh108 := (zr100).trans (Zr.same (fun zq h1 => by rw [ze109, va_up_ne _ _ (show zq ≠ o + 30 by omega)]))
              have zw129 : ∀ zq : Nat, o + 43 ≤ zq → zq < o + 55 → zh108 zq = hh22 zq := by intro zq hq1 hq2 ; rw [ze109, va_up_ne _ _ (show zq ≠ o + 30 by omega)]; try exact zw101 zq hq1 hq2 
              refine z_iinc (v := 3) (ls' := [(6, .int 3), (0, .ref o), (1, .int (nI b)), (2, .int (nI v)), (3, .int (nI nc)), (4, .int acc), (5, .int (nI i))]) X 0 dX11_unlikePairs_71 rfl rfl (by decide) rfl ?_
              refine z_goto X 35 dX11_unlikePairs_74 (by decide) ?_
              refine z_iload X 0 dX11_unlikePairs_35 rfl ?_
              refine z_iconst (v := 3) X dX11_unlikePairs_37 (by decide) ?_
              refine z_icmp_ge X 77 dX11_unlikePairs_38 (by decide) (fun zc130 => ?_) (fun zc130 => ?_)
              · try replace zc130 := (nI_leI (a := 3) (b := 3) (by omega) (by omega)).mp zc130
                refine z_aload_n X 1 dX11_unlikePairs_77 rfl ?_
                refine z_get X fl_X11_22_11 dX11_unlikePairs_78 zK110 rfl ?_
                refine z_iconst (v := 1) X dX11_unlikePairs_81 (by decide) ?_
                refine z_iload X 6 dX11_unlikePairs_82 rfl ?_
                refine z_ishl X dX11_unlikePairs_84 ?_
                refine z_put X fp_X11_128_2 dX11_unlikePairs_85 zK121 (by first | rfl | decide) (by first | rfl | decide) (Nat.le_of_ble_eq_true rfl) rfl ?_
                obtain ⟨zh131, ze132⟩ : ∃ z : Mm, z = va_up zh108 (o + 27) (some (.inr (2, [.ref (o + 28), .ref (o + 29), .ref (o + 30), .ref (o + 31), .ref (o + 32), .int (nI 1), .int ((bg2 d) 0), .int ((bg2 d) 2), .int ((bg2 d) 3), .int (nI nc), .int (1 <<< ((nI i) &&& 31)), .int y7, .int y8]))) := ⟨_, rfl⟩
                refine z_heap (h' := zh131) ze132.symm ?_
                have zK133 := up_off ze132 (show o ≠ o + 27 by omega) zK110
                have zK134 := up_off ze132 (show o + 1 ≠ o + 27 by omega) zK111
                have zK135 := up_off ze132 (show o + 2 ≠ o + 27 by omega) zK112
                have zK136 := up_off ze132 (show o + 3 ≠ o + 27 by omega) zK113
                have zK137 := up_off ze132 (show o + 4 ≠ o + 27 by omega) zK114
                have zK138 := up_off ze132 (show o + 5 ≠ o + 27 by omega) zK115
                have zK139 := up_off ze132 (show o + 6 ≠ o + 27 by omega) zK116
                have zK140 := up_off ze132 (show o + 7 ≠ o + 27 by omega) zK117
                have zK141 := up_off ze132 (show o + 12 ≠ o + 27 by omega) zK118
                have zK142 := up_off ze132 (show o + 13 ≠ o + 27 by omega) zK119
                have zK143 := up_off ze132 (show o + 42 ≠ o + 27 by omega) zK120
                have zK144 := up_at ze132
                have zK145 := up_off ze132 (show o + 28 ≠ o + 27 by omega) zK122
                have zK146 := up_off ze132 (show o + 29 ≠ o + 27 by omega) zK123
                have zK147 := up_off ze132 (show o + 30 ≠ o + 27 by omega) zK124
                have zK148 := up_off ze132 (show o + 31 ≠ o + 27 by omega) zK125
                have zK149 := up_off ze132 (show o + 32 ≠ o + 27 by omega) zK126
                have zl150 : ∀ zq : Nat, zq < (o + 76) → zq ≠ (o + 27) → zq ≠ (o + 28) → zq ≠ (o + 29) → zq ≠ (o + 30) → zq ≠ (o + 31) → zq ≠ (o + 32) → zq ≠ (o + 43) → zq ≠ (o + 44) → zq ≠ (o + 45) → zq ≠ (o + 46) → zq ≠ (o + 47) → zq ≠ (o + 48) → zq ≠ (o + 49) → zq ≠ (o + 50) → zq ≠ (o + 51) → zq ≠ (o + 52) → zq ≠ (o + 53) → zq ≠ (o + 54) → zh131 zq = h zq := by intro zq hzq zn0 zn1 zn2 zn3 zn4 zn5 zn6 zn7 zn8 zn9 zn10 zn11 zn12 zn13 zn14 zn15 zn16 zn17; rw [ze132, va_up_ne _ _ (show zq ≠ o + 27 by omega)]; exact zl127 zq hzq zn0 zn1 zn2 zn3 zn4 zn5 zn6 zn7 zn8 zn9 zn10 zn11 zn12 zn13 zn14 zn15 zn16 zn17
                have zr151 : Zr κ (o + 76) h zh131 := (zr128).trans (Zr.same (fun zq h1 => by rw [ze132, va_up_ne _ _ (show zq ≠ o + 27 by omega)]))
                have zw152 : ∀ zq : Nat, o + 43 ≤ zq → zq < o + 55 → zh131 zq = hh22 zq := by intro zq hq1 hq2 ; rw [ze132, va_up_ne _ _ (show zq ≠ o + 27 by omega)]; try exact zw129 zq hq1 hq2 
                refine z_aload_n X 1 dX11_unlikePairs_88 rfl ?_
                refine z_get X fl_X11_22_11 dX11_unlikePairs_89 zK133 rfl ?_
                refine z_iload_n X 3 dX11_unlikePairs_92 rfl ?_
                refine z_callV X (c_go (κ := κ) (n := n) (i := (o + 27)) (len := (1)) (nc := (nc)) (v := (v)) (m := (trM d b i)) (ts := (ts)) (cs := (cs)) (T := (Tx d)) (tx := (tx)) (cold := (y7)) (wind := (y8)) (zK144) ((zK145).trans (congrArg (arI κ 40) trM_w)) ((zK146).trans (congrArg (arI κ 40) trM_s)) ((zK147).trans (congrArg (arI κ 6) trM_t)) zK148 zK149 (by first | assumption | omega) (TsO.mono zr151 hTs) ((CsO.mono zr151 hCs).row (fun z h1 h2 => (trM_off (by omega)).trans (bg2_off (by omega))) q5) ((trM_off (by omega)).trans (bg2_1 d)) (by first | assumption | omega) (by first | assumption | omega) ((trM_off (by omega)).trans ((bg2_off (by omega)).trans q4)) (by first | assumption | omega) ((trM_wf hS hC (hB b q7)).1) ((trM_wf hS hC (hB b q7)).2) (by first | assumption | omega)) mk_X2_go dX11_unlikePairs_93 wd_596 wd_597 wd_598 rfl zK144 rfl rfl rfl (Nat.le_of_ble_eq_true rfl) (Nat.le_of_ble_eq_true rfl) (Nat.le_of_ble_eq_true rfl) (by omega) (by omega) (fun q zh155 zm157 zp158 => ?_)
                obtain ⟨cold'153, wind'154, rfl, zn159, zf160, zr161, zK162, zK163, zK164⟩ := zp158
                subst zm157
                refine z_st (st' := []) rfl ?_
                have zK165 : zh155 o = some (.inr (11, [.ref (o + 1), .ref (o + 14), .ref (o + 27), .ref (o + 33), .ref (o + 42), .ref (o + 55), .ref (o + 57), .ref (o + 59), .ref (o + 61), .int im])) := (zf160 o (by omega) (by omega) (by omega) (by omega)).trans zK133
                have zK166 : zh155 (o + 1) = some (.inr (3, [.ref (o + 1 + 1), .ref (o + 1 + 7), .ref (o + 1 + 9), .ref (o + 1 + 11), .int (d 13)])) := (zf160 (o + 1) (by omega) (by omega) (by omega) (by omega)).trans zK134
                have zK167 : zh155 (o + 2) = some (.inr (2, [.ref (o + 3), .ref (o + 4), .ref (o + 5), .ref (o + 6), .ref (o + 7), .int (nI len), .int (d 0), .int (d 2), .int (d 3), .int (nI nc), .int (d 10), .int cold, .int wind])) := (zf160 (o + 2) (by omega) (by omega) (by omega) (by omega)).trans zK135
                have zK168 : zh155 (o + 3) = arI κ 40 (win 100 40 d) := (zf160 (o + 3) (by omega) (by omega) (by omega) (by omega)).trans zK136
                have zK169 : zh155 (o + 4) = arI κ 40 (win 140 40 d) := (zf160 (o + 4) (by omega) (by omega) (by omega) (by omega)).trans zK137
                have zK170 : zh155 (o + 5) = arI κ 6 (win 4 6 d) := (zf160 (o + 5) (by omega) (by omega) (by omega) (by omega)).trans zK138
                have zK171 : zh155 (o + 6) = arR κ 1 6 cs := (zf160 (o + 6) (by omega) (by omega) (by omega) (by omega)).trans zK139
                have zK172 : zh155 (o + 7) = arR κ 2 2 ts := (zf160 (o + 7) (by omega) (by omega) (by omega) (by omega)).trans zK140
                have zK173 : zh155 (o + 12) = some (.inr (6, [.ref (o + 12 + 1), .int (nI (3 * nb)), .int 32])) := (zf160 (o + 12) (by omega) (by omega) (by omega) (by omega)).trans zK141
                have zK174 : zh155 (o + 13) = arI κ 15 bx := (zf160 (o + 13) (by omega) (by omega) (by omega) (by omega)).trans zK142
                have zK175 : zh155 (o + 42) = arR κ 3 6 (grF o) := (zf160 (o + 42) (by omega) (by omega) (by omega) (by omega)).trans zK143
                have zK176 : zh155 (o + 30) = arI κ 6 (upd (upd (upd (win 4 6 d) 2 (d (40 + 3 * b))) 3 (d (40 + 3 * b + 1))) 1 (d (40 + 3 * b + 2))) := (zf160 (o + 30) (by omega) (by omega) (by omega) (by omega)).trans zK147
                have zK177 : zh155 (o + 31) = arR κ 1 6 cs := (zf160 (o + 31) (by omega) (by omega) (by omega) (by omega)).trans zK148
                have zK178 : zh155 (o + 32) = arR κ 2 2 ts := (zf160 (o + 32) (by omega) (by omega) (by omega) (by omega)).trans zK149
                have zl179 : ∀ zq : Nat, zq < (o + 76) → zq ≠ (o + 27) → zq ≠ (o + 28) → zq ≠ (o + 29) → zq ≠ (o + 30) → zq ≠ (o + 31) → zq ≠ (o + 32) → zq ≠ (o + 43) → zq ≠ (o + 44) → zq ≠ (o + 45) → zq ≠ (o + 46) → zq ≠ (o + 47) → zq ≠ (o + 48) → zq ≠ (o + 49) → zq ≠ (o + 50) → zq ≠ (o + 51) → zq ≠ (o + 52) → zq ≠ (o + 53) → zq ≠ (o + 54) → zh155 zq = h zq := by intro zq hzq zn0 zn1 zn2 zn3 zn4 zn5 zn6 zn7 zn8 zn9 zn10 zn11 zn12 zn13 zn14 zn15 zn16 zn17; rw [zf160 zq (by omega) (by omega) (by omega) (by omega)]; exact zl150 zq hzq zn0 zn1 zn2 zn3 zn4 zn5 zn6 zn7 zn8 zn9 zn10 zn11 zn12 zn13 zn14 zn15 zn16 zn17
                have zr180 : Zr κ (o + 76) h zh155 := (zr151).trans zr161
                have zw181 : ∀ zq : Nat, o + 43 ≤ zq → zq < o + 55 → zh155 zq = hh22 zq := by intro zq hq1 hq2 ; rw [zf160 zq (by omega) (by omega) (by omega) (by omega)]; try exact zw152 zq hq1 hq2 
                refine z_aload_n X 1 dX11_unlikePairs_96 rfl ?_
                refine z_get X fl_X11_22_11 dX11_unlikePairs_97 zK165 rfl ?_
                refine z_aload_n X 1 dX11_unlikePairs_100 rfl ?_
                refine z_get X fl_X11_35_11 dX11_unlikePairs_101 zK165 rfl ?_
                refine z_iload X 6 dX11_unlikePairs_104 rfl ?_
                obtain ⟨szA, btA, fA, hrA1, hrA2, hrA3⟩ := (hg.same zw181) i (by omega)
                refine z_aald (t := 3) (v := .ref (o + 43 + 2 * i)) X dX11_unlikePairs_106 zK175 rfl (vp_in_nI (n := i) (by omega) (by omega)) (by rw [nI_clamp (by omega)]; rfl) ?_
                refine z_callV X (c_widesInto (κ := κ) (n := n) (i := (o + 27)) (len := (lnO (trE (Tx d) tx d v b i))) (m := (trE (Tx d) tx d v b i)) (now := ((gbyN (Tx d) tx v (trM d b i)) 0)) (dd := ((gbyN (Tx d) tx v (trM d b i)) 2)) (dr := ((gbyN (Tx d) tx v (trM d b i)) 3)) (cc := (nI nc)) (on := ((trM d b i) 10)) (cold := (cold'153)) (wind := (wind'154)) (r := (o + 43 + 2 * i)) (rs := (szA)) (bt := (btA)) (g := (fA)) zK162 zK163 hrA1 hrA2 ((gbyN_ok (T := Tx d) (tx := tx) (trM_ok (d := d) (b := b) (i := i)) v).2.2) (by omega)) mk_X2_widesInto dX11_unlikePairs_107 wd_755 wd_756 wd_757 rfl zK162 rfl rfl rfl (Nat.le_of_ble_eq_true rfl) (Nat.le_of_ble_eq_true rfl) (Nat.le_of_ble_eq_true rfl) (by omega) (by omega) (fun q zh183 zm185 zp186 => ?_)
                obtain ⟨g'182, rfl, ze184, zn188, zf187⟩ := zp186
                subst zm185
                refine z_st (st' := []) rfl ?_
                have zK189 : zh183 o = some (.inr (11, [.ref (o + 1), .ref (o + 14), .ref (o + 27), .ref (o + 33), .ref (o + 42), .ref (o + 55), .ref (o + 57), .ref (o + 59), .ref (o + 61), .int im])) := by rw [ze184]; rw [va_up_ne _ _ (show o ≠ o + 43 + 2 * i + 1 by omega)]; rw [va_up_ne _ _ (show o ≠ o + 43 + 2 * i by omega)]; exact zK165
                have zK190 : zh183 (o + 1) = some (.inr (3, [.ref (o + 1 + 1), .ref (o + 1 + 7), .ref (o + 1 + 9), .ref (o + 1 + 11), .int (d 13)])) := by rw [ze184]; rw [va_up_ne _ _ (show o + 1 ≠ o + 43 + 2 * i + 1 by omega)]; rw [va_up_ne _ _ (show o + 1 ≠ o + 43 + 2 * i by omega)]; exact zK166
                have zK191 : zh183 (o + 2) = some (.inr (2, [.ref (o + 3), .ref (o + 4), .ref (o + 5), .ref (o + 6), .ref (o + 7), .int (nI len), .int (d 0), .int (d 2), .int (d 3), .int (nI nc), .int (d 10), .int cold, .int wind])) := by rw [ze184]; rw [va_up_ne _ _ (show o + 2 ≠ o + 43 + 2 * i + 1 by omega)]; rw [va_up_ne _ _ (show o + 2 ≠ o + 43 + 2 * i by omega)]; exact zK167
                have zK192 : zh183 (o + 3) = arI κ 40 (win 100 40 d) := by rw [ze184]; rw [va_up_ne _ _ (show o + 3 ≠ o + 43 + 2 * i + 1 by omega)]; rw [va_up_ne _ _ (show o + 3 ≠ o + 43 + 2 * i by omega)]; exact zK168
                have zK193 : zh183 (o + 4) = arI κ 40 (win 140 40 d) := by rw [ze184]; rw [va_up_ne _ _ (show o + 4 ≠ o + 43 + 2 * i + 1 by omega)]; rw [va_up_ne _ _ (show o + 4 ≠ o + 43 + 2 * i by omega)]; exact zK169
                have zK194 : zh183 (o + 5) = arI κ 6 (win 4 6 d) := by rw [ze184]; rw [va_up_ne _ _ (show o + 5 ≠ o + 43 + 2 * i + 1 by omega)]; rw [va_up_ne _ _ (show o + 5 ≠ o + 43 + 2 * i by omega)]; exact zK170
                have zK195 : zh183 (o + 6) = arR κ 1 6 cs := by rw [ze184]; rw [va_up_ne _ _ (show o + 6 ≠ o + 43 + 2 * i + 1 by omega)]; rw [va_up_ne _ _ (show o + 6 ≠ o + 43 + 2 * i by omega)]; exact zK171
                have zK196 : zh183 (o + 7) = arR κ 2 2 ts := by rw [ze184]; rw [va_up_ne _ _ (show o + 7 ≠ o + 43 + 2 * i + 1 by omega)]; rw [va_up_ne _ _ (show o + 7 ≠ o + 43 + 2 * i by omega)]; exact zK172
                have zK197 : zh183 (o + 12) = some (.inr (6, [.ref (o + 12 + 1), .int (nI (3 * nb)), .int 32])) := by rw [ze184]; rw [va_up_ne _ _ (show o + 12 ≠ o + 43 + 2 * i + 1 by omega)]; rw [va_up_ne _ _ (show o + 12 ≠ o + 43 + 2 * i by omega)]; exact zK173
                have zK198 : zh183 (o + 13) = arI κ 15 bx := by rw [ze184]; rw [va_up_ne _ _ (show o + 13 ≠ o + 43 + 2 * i + 1 by omega)]; rw [va_up_ne _ _ (show o + 13 ≠ o + 43 + 2 * i by omega)]; exact zK174
                have zK199 : zh183 (o + 42) = arR κ 3 6 (grF o) := by rw [ze184]; rw [va_up_ne _ _ (show o + 42 ≠ o + 43 + 2 * i + 1 by omega)]; rw [va_up_ne _ _ (show o + 42 ≠ o + 43 + 2 * i by omega)]; exact zK175
                have zK200 : zh183 (o + 30) = arI κ 6 (upd (upd (upd (win 4 6 d) 2 (d (40 + 3 * b))) 3 (d (40 + 3 * b + 1))) 1 (d (40 + 3 * b + 2))) := by rw [ze184]; rw [va_up_ne _ _ (show o + 30 ≠ o + 43 + 2 * i + 1 by omega)]; rw [va_up_ne _ _ (show o + 30 ≠ o + 43 + 2 * i by omega)]; exact zK176
                have zK201 : zh183 (o + 31) = arR κ 1 6 cs := by rw [ze184]; rw [va_up_ne _ _ (show o + 31 ≠ o + 43 + 2 * i + 1 by omega)]; rw [va_up_ne _ _ (show o + 31 ≠ o + 43 + 2 * i by omega)]; exact zK177
                have zK202 : zh183 (o + 32) = arR κ 2 2 ts := by rw [ze184]; rw [va_up_ne _ _ (show o + 32 ≠ o + 43 + 2 * i + 1 by omega)]; rw [va_up_ne _ _ (show o + 32 ≠ o + 43 + 2 * i by omega)]; exact zK178
                have zK203 : zh183 (o + 27) = some (.inr (2, [.ref ((o + 27) + 1), .ref ((o + 27) + 2), .ref ((o + 27) + 3), .ref ((o + 27) + 4), .ref ((o + 27) + 5), .int (nI (lnO (gbyN (Tx d) tx v (trM d b i)))), .int ((gbyN (Tx d) tx v (trM d b i)) 0), .int ((gbyN (Tx d) tx v (trM d b i)) 2), .int ((gbyN (Tx d) tx v (trM d b i)) 3), .int (nI nc), .int ((trM d b i) 10), .int cold'153, .int wind'154])) := by rw [ze184]; rw [va_up_ne _ _ (show o + 27 ≠ o + 43 + 2 * i + 1 by omega)]; rw [va_up_ne _ _ (show o + 27 ≠ o + 43 + 2 * i by omega)]; exact zK162
                have zK204 : zh183 (o + 28) = arI κ 40 (win 100 40 (gbyN (Tx d) tx v (trM d b i))) := by rw [ze184]; rw [va_up_ne _ _ (show o + 28 ≠ o + 43 + 2 * i + 1 by omega)]; rw [va_up_ne _ _ (show o + 28 ≠ o + 43 + 2 * i by omega)]; exact zK163
                have zK205 : zh183 (o + 29) = arI κ 40 (win 140 40 (gbyN (Tx d) tx v (trM d b i))) := by rw [ze184]; rw [va_up_ne _ _ (show o + 29 ≠ o + 43 + 2 * i + 1 by omega)]; rw [va_up_ne _ _ (show o + 29 ≠ o + 43 + 2 * i by omega)]; exact zK164
                have zK206 : zh183 (o + 43 + 2 * i) = some (.inr (6, [.ref ((o + 43 + 2 * i) + 1), .int (nI (lnO (trE (Tx d) tx d v b i))), .int btA])) := by rw [ze184]; rw [va_up_ne _ _ (show o + 43 + 2 * i ≠ o + 43 + 2 * i + 1 by omega)]; exact va_up_self _ _ _
                have zK207 : zh183 (o + 43 + 2 * i + 1) = arI κ 40 g'182 := by rw [ze184]; exact va_up_self _ _ _
                have zl208 : ∀ zq : Nat, zq < (o + 76) → zq ≠ (o + 27) → zq ≠ (o + 28) → zq ≠ (o + 29) → zq ≠ (o + 30) → zq ≠ (o + 31) → zq ≠ (o + 32) → zq ≠ (o + 43) → zq ≠ (o + 44) → zq ≠ (o + 45) → zq ≠ (o + 46) → zq ≠ (o + 47) → zq ≠ (o + 48) → zq ≠ (o + 49) → zq ≠ (o + 50) → zq ≠ (o + 51) → zq ≠ (o + 52) → zq ≠ (o + 53) → zq ≠ (o + 54) → zq ≠ (o + 43 + 2 * i) → zq ≠ (o + 43 + 2 * i + 1) → zh183 zq = h zq := by intro zq hzq zn0 zn1 zn2 zn3 zn4 zn5 zn6 zn7 zn8 zn9 zn10 zn11 zn12 zn13 zn14 zn15 zn16 zn17 zn18 zn19; rw [ze184, va_up_ne _ _ (show zq ≠ o + 43 + 2 * i + 1 by omega), va_up_ne _ _ (show zq ≠ o + 43 + 2 * i by omega)]; exact zl179 zq hzq zn0 zn1 zn2 zn3 zn4 zn5 zn6 zn7 zn8 zn9 zn10 zn11 zn12 zn13 zn14 zn15 zn16 zn17
                have zr209 : Zr κ (o + 76) h zh183 := (zr180).trans (Zr.same (fun zq h1 => by rw [ze184, va_up_ne _ _ (show zq ≠ o + 43 + 2 * i + 1 by omega), va_up_ne _ _ (show zq ≠ o + 43 + 2 * i by omega)]))
                have zw210 : ∀ zq : Nat, o + 43 ≤ zq → zq < o + 55 → zq ≠ o + 43 + 2 * i → zq ≠ o + 43 + 2 * i + 1 → zh183 zq = hh22 zq := by intro zq hq1 hq2 zn0 zn1; rw [ze184, va_up_ne _ _ (show zq ≠ o + 43 + 2 * i + 1 by omega), va_up_ne _ _ (show zq ≠ o + 43 + 2 * i by omega)]; try exact zw181 zq hq1 hq2 
                have hgN : GrP κ o zh183 (i + 1) (trE (Tx d) tx d v b) := hg.next zw210 zK206 zK207 zf187
                refine z_iconst (v := 0) X dX11_unlikePairs_110 (by decide) ?_
                refine z_istore (ls' := [(6, .int 0), (0, .ref o), (1, .int (nI b)), (2, .int (nI v)), (3, .int (nI nc)), (4, .int acc), (5, .int (nI i))]) X dX11_unlikePairs_111 (by decide) rfl ?_
                have L113 : ∀ (jj : Nat) (hh113 : Mm) (z : Nat) (acc2 : Int32) (w1 : Int32) (w2 : Int32) (w3 : Int32) (w4 : Int32) (w5 : Int32) (w6 : Int32) (w7 : Int32) (w8 : Int32) (g1 : Nat → Int32) (g2 : Nat → Int32) (g3 : Nat → Int32) (g4 : Nat → Option Nat) (g5 : Nat → Option Nat), (i - z < jj) → (∀ zq : Nat, zq < (o + 76) → zq ≠ (o + 27) → zq ≠ (o + 28) → zq ≠ (o + 29) → zq ≠ (o + 30) → zq ≠ (o + 31) → zq ≠ (o + 32) → zq ≠ (o + 43) → zq ≠ (o + 44) → zq ≠ (o + 45) → zq ≠ (o + 46) → zq ≠ (o + 47) → zq ≠ (o + 48) → zq ≠ (o + 49) → zq ≠ (o + 50) → zq ≠ (o + 51) → zq ≠ (o + 52) → zq ≠ (o + 53) → zq ≠ (o + 54) → hh113 zq = h zq) → Zr κ (o + 76) h hh113 → hh113 (o + 27) = some (.inr (2, [.ref (o + 28), .ref (o + 29), .ref (o + 30), .ref (o + 31), .ref (o + 32), .int w1, .int w2, .int w3, .int w4, .int w5, .int w6, .int w7, .int w8])) → hh113 (o + 28) = arI κ 40 g1 → hh113 (o + 29) = arI κ 40 g2 → hh113 (o + 30) = arI κ 6 g3 → hh113 (o + 31) = arR κ 1 6 g4 → hh113 (o + 32) = arR κ 2 2 g5 → (hz2 : z ≤ i) → (hgn : GrP κ o hh113 (i + 1) (trE (Tx d) tx d v b)) → (hac2 : acc2 = sumN (fun a => sumN (fun z => unlE (triE (Tx d) tx d v b a) (triE (Tx d) tx d v b z)) a) i + sumN (fun z => unlE (triE (Tx d) tx d v b i) (triE (Tx d) tx d v b z)) z) → Z κ G 7 113 [(0, .ref o), (1, .int (nI b)), (2, .int (nI v)), (3, .int (nI nc)), (4, .int acc2), (5, .int (nI i)), (6, .int (nI z))] [] hh113 n 0 (0) := by
                  intro jj
                  induction jj with
                  | zero => intro hh113 z acc2 w1 w2 w3 w4 w5 w6 w7 w8 g1 g2 g3 g4 g5 hmu; exact absurd hmu (Nat.not_lt_zero _)
                  | succ jj ih113 =>
                    intro hh113 z acc2 w1 w2 w3 w4 w5 w6 w7 w8 g1 g2 g3 g4 g5 hmu zl_113 zr_113 zK211 zK212 zK213 zK214 zK215 zK216 hz2 hgn hac2
                    have zK217 : hh113 o = some (.inr (11, [.ref (o + 1), .ref (o + 14), .ref (o + 27), .ref (o + 33), .ref (o + 42), .ref (o + 55), .ref (o + 57), .ref (o + 59), .ref (o + 61), .int im])) := (zl_113 o (by omega) (by omega) (by omega) (by omega) (by omega) (by omega) (by omega) (by omega) (by omega) (by omega) (by omega) (by omega) (by omega) (by omega) (by omega) (by omega) (by omega) (by omega) (by omega)).trans K0
                    have zK218 : hh113 (o + 1) = some (.inr (3, [.ref (o + 1 + 1), .ref (o + 1 + 7), .ref (o + 1 + 9), .ref (o + 1 + 11), .int (d 13)])) := (zl_113 (o + 1) (by omega) (by omega) (by omega) (by omega) (by omega) (by omega) (by omega) (by omega) (by omega) (by omega) (by omega) (by omega) (by omega) (by omega) (by omega) (by omega) (by omega) (by omega) (by omega)).trans K1
                    have zK219 : hh113 (o + 2) = some (.inr (2, [.ref (o + 3), .ref (o + 4), .ref (o + 5), .ref (o + 6), .ref (o + 7), .int (nI len), .int (d 0), .int (d 2), .int (d 3), .int (nI nc), .int (d 10), .int cold, .int wind])) := (zl_113 (o + 2) (by omega) (by omega) (by omega) (by omega) (by omega) (by omega) (by omega) (by omega) (by omega) (by omega) (by omega) (by omega) (by omega) (by omega) (by omega) (by omega) (by omega) (by omega) (by omega)).trans K2
                    have zK220 : hh113 (o + 3) = arI κ 40 (win 100 40 d) := (zl_113 (o + 3) (by omega) (by omega) (by omega) (by omega) (by omega) (by omega) (by omega) (by omega) (by omega) (by omega) (by omega) (by omega) (by omega) (by omega) (by omega) (by omega) (by omega) (by omega) (by omega)).trans K3
                    have zK221 : hh113 (o + 4) = arI κ 40 (win 140 40 d) := (zl_113 (o + 4) (by omega) (by omega) (by omega) (by omega) (by omega) (by omega) (by omega) (by omega) (by omega) (by omega) (by omega) (by omega) (by omega) (by omega) (by omega) (by omega) (by omega) (by omega) (by omega)).trans K4
                    have zK222 : hh113 (o + 5) = arI κ 6 (win 4 6 d) := (zl_113 (o + 5) (by omega) (by omega) (by omega) (by omega) (by omega) (by omega) (by omega) (by omega) (by omega) (by omega) (by omega) (by omega) (by omega) (by omega) (by omega) (by omega) (by omega) (by omega) (by omega)).trans K5
                    have zK223 : hh113 (o + 6) = arR κ 1 6 cs := (zl_113 (o + 6) (by omega) (by omega) (by omega) (by omega) (by omega) (by omega) (by omega) (by omega) (by omega) (by omega) (by omega) (by omega) (by omega) (by omega) (by omega) (by omega) (by omega) (by omega) (by omega)).trans K6
                    have zK224 : hh113 (o + 7) = arR κ 2 2 ts := (zl_113 (o + 7) (by omega) (by omega) (by omega) (by omega) (by omega) (by omega) (by omega) (by omega) (by omega) (by omega) (by omega) (by omega) (by omega) (by omega) (by omega) (by omega) (by omega) (by omega) (by omega)).trans K7
                    have zK225 : hh113 (o + 12) = some (.inr (6, [.ref (o + 12 + 1), .int (nI (3 * nb)), .int 32])) := (zl_113 (o + 12) (by omega) (by omega) (by omega) (by omega) (by omega) (by omega) (by omega) (by omega) (by omega) (by omega) (by omega) (by omega) (by omega) (by omega) (by omega) (by omega) (by omega) (by omega) (by omega)).trans K8
                    have zK226 : hh113 (o + 13) = arI κ 15 bx := (zl_113 (o + 13) (by omega) (by omega) (by omega) (by omega) (by omega) (by omega) (by omega) (by omega) (by omega) (by omega) (by omega) (by omega) (by omega) (by omega) (by omega) (by omega) (by omega) (by omega) (by omega)).trans K9
                    have zK227 : hh113 (o + 42) = arR κ 3 6 (grF o) := (zl_113 (o + 42) (by omega) (by omega) (by omega) (by omega) (by omega) (by omega) (by omega) (by omega) (by omega) (by omega) (by omega) (by omega) (by omega) (by omega) (by omega) (by omega) (by omega) (by omega) (by omega)).trans K16
                    refine z_iload X 6 dX11_unlikePairs_113 rfl ?_
                    refine z_iload X 5 dX11_unlikePairs_115 rfl ?_
                    refine z_icmp_ge X 156 dX11_unlikePairs_117 (by decide) (fun zc228 => ?_) (fun zc228 => ?_)
                    · try replace zc228 := (nI_leI (a := i) (b := z) (by omega) (by omega)).mp zc228
                      refine z_iinc (v := nI (i + 1)) (ls' := [(5, .int (nI (i + 1))), (0, .ref o), (1, .int (nI b)), (2, .int (nI v)), (3, .int (nI nc)), (4, .int acc2), (6, .int (nI z))]) X 5 dX11_unlikePairs_156 rfl (nI_1 (i)) (by decide) rfl ?_
                      refine z_goto X 22 dX11_unlikePairs_159 (by decide) ?_
                      refine z_sub (ls' := [(0, .ref o), (1, .int (nI b)), (2, .int (nI v)), (3, .int (nI nc)), (4, .int acc2), (5, .int (nI (i + 1)))]) [1, 2, 3, 4, 5, 0] rfl ?_
                      exact ih22 hh113 (i + 1) acc2 w1 w2 w3 w4 w5 w6 w7 w8 g1 g2 g3 g4 g5 (by omega) (by exact fun zq hzq zn0 zn1 zn2 zn3 zn4 zn5 zn6 zn7 zn8 zn9 zn10 zn11 zn12 zn13 zn14 zn15 zn16 zn17 => zl_113 zq hzq zn0 zn1 zn2 zn3 zn4 zn5 zn6 zn7 zn8 zn9 zn10 zn11 zn12 zn13 zn14 zn15 zn16 zn17) (zr_113) (by exact zK211) (by exact zK212) (by exact zK213) (by exact zK214) (by exact zK215) (by exact zK216) (by first | assumption | rfl | omega) (by exact hgn) (by rw [hac2, show z = i by omega]; rfl)
                    · try replace zc228 := mt (nI_leI (a := i) (b := z) (by omega) (by omega)).mpr zc228
                      refine z_iload X 4 dX11_unlikePairs_120 rfl ?_
                      refine z_aload_n X 0 dX11_unlikePairs_122 rfl ?_
                      refine z_get X fl_X11_35_11 dX11_unlikePairs_123 zK217 rfl ?_
                      refine z_iload X 5 dX11_unlikePairs_126 rfl ?_
                      obtain ⟨szB, btB, fB, hrB1, hrB2, hrB3⟩ := hgn i (by omega)
                      obtain ⟨rfl, hfB⟩ := hrB3 (by omega)
                      refine z_aald (t := 3) (v := .ref (o + 43 + 2 * i)) X dX11_unlikePairs_128 zK227 rfl (vp_in_nI (n := i) (by omega) (by omega)) (by rw [nI_clamp (by omega)]; rfl) ?_
                      refine z_aload_n X 0 dX11_unlikePairs_129 rfl ?_
                      refine z_get X fl_X11_35_11 dX11_unlikePairs_130 zK217 rfl ?_
                      refine z_iload X 6 dX11_unlikePairs_133 rfl ?_
                      obtain ⟨szC, btC, fC, hrC1, hrC2, hrC3⟩ := hgn z (by omega)
                      obtain ⟨rfl, hfC⟩ := hrC3 (by omega)
                      refine z_aald (t := 3) (v := .ref (o + 43 + 2 * z)) X dX11_unlikePairs_135 zK227 rfl (vp_in_nI (n := z) (by omega) (by omega)) (by rw [nI_clamp (by omega)]; rfl) ?_
                      refine z_callV X (c_Row_firstUnlike (κ := κ) (n := n) (r := (o + 43 + 2 * i)) (r2 := (o + 43 + 2 * z)) (k := (lnO (trE (Tx d) tx d v b i))) (k2 := (lnO (trE (Tx d) tx d v b z))) (bt := (btB)) (bt2 := (btC)) (N := (40)) (f := (fB)) (N2 := (40)) (f2 := (fC)) hrB1 hrB2 hrC1 hrC2 ((gbyN_ok (T := Tx d) (tx := tx) (trM_ok (d := d) (b := b) (i := i)) v).2.2) (by first | assumption | omega) ((gbyN_ok (T := Tx d) (tx := tx) (trM_ok (d := d) (b := b) (i := z)) v).2.2) (by first | assumption | omega)) mk_X6_firstUnlike dX11_unlikePairs_136 wd_759 wd_760 wd_761 rfl hrB1 rfl rfl rfl (Nat.le_of_ble_eq_true rfl) (Nat.le_of_ble_eq_true rfl) (Nat.le_of_ble_eq_true rfl) (by omega) (by omega) (fun q zh229 zm231 zp232 => ?_)
                      obtain ⟨rfl, ze230, zn233⟩ := zp232
                      subst zm231
                      subst zh229
                      refine z_st (st' := [.int (unl fB fC (lnO (trE (Tx d) tx d v b i)) (lnO (trE (Tx d) tx d v b z))), .int acc2]) rfl ?_
                      refine z_if_ge X 146 dX11_unlikePairs_139 (by decide) (fun zc234 => ?_) (fun zc234 => ?_)
                      · have hun : ¬ unlE (triE (Tx d) tx d v b i) (triE (Tx d) tx d v b z) = 0 := fun zq => absurd ((unl_un (gbyN_ok (T := Tx d) (tx := tx) (trM_ok (d := d) (b := b) (i := i)) v) (gbyN_ok (T := Tx d) (tx := tx) (trM_ok (d := d) (b := b) (i := z)) v) hfB hfC).mpr ((pairs_eq i z).trans zq)) (Int32.not_lt.mpr zc234)
                        refine z_iconst (v := 1) X dX11_unlikePairs_146 (by decide) ?_
                        refine z_iadd X dX11_unlikePairs_147 ?_
                        refine z_istore (ls' := [(4, .int (acc2 + 1)), (0, .ref o), (1, .int (nI b)), (2, .int (nI v)), (3, .int (nI nc)), (5, .int (nI i)), (6, .int (nI z))]) X dX11_unlikePairs_148 (by decide) rfl ?_
                        refine z_iinc (v := nI (z + 1)) (ls' := [(6, .int (nI (z + 1))), (4, .int (acc2 + 1)), (0, .ref o), (1, .int (nI b)), (2, .int (nI v)), (3, .int (nI nc)), (5, .int (nI i))]) X 6 dX11_unlikePairs_150 rfl (nI_1 (z)) (by decide) rfl ?_
                        refine z_goto X 113 dX11_unlikePairs_153 (by decide) ?_
                        refine z_sub (ls' := [(0, .ref o), (1, .int (nI b)), (2, .int (nI v)), (3, .int (nI nc)), (4, .int (acc2 + 1)), (5, .int (nI i)), (6, .int (nI (z + 1)))]) [2, 3, 4, 5, 1, 6, 0] rfl ?_
                        exact ih113 hh113 (z + 1) (acc2 + 1) w1 w2 w3 w4 w5 w6 w7 w8 g1 g2 g3 g4 g5 (by omega) (by exact fun zq hzq zn0 zn1 zn2 zn3 zn4 zn5 zn6 zn7 zn8 zn9 zn10 zn11 zn12 zn13 zn14 zn15 zn16 zn17 => zl_113 zq hzq zn0 zn1 zn2 zn3 zn4 zn5 zn6 zn7 zn8 zn9 zn10 zn11 zn12 zn13 zn14 zn15 zn16 zn17) (zr_113) (by exact zK211) (by exact zK212) (by exact zK213) (by exact zK214) (by exact zK215) (by exact zK216) (by first | assumption | rfl | omega) (by exact hgn) (by exact prs_t hac2 (unlE_01 _ _) hun)
                      · have hun : unlE (triE (Tx d) tx d v b i) (triE (Tx d) tx d v b z) = 0 := (pairs_eq i z).symm.trans ((unl_un (gbyN_ok (T := Tx d) (tx := tx) (trM_ok (d := d) (b := b) (i := i)) v) (gbyN_ok (T := Tx d) (tx := tx) (trM_ok (d := d) (b := b) (i := z)) v) hfB hfC).mp (Int32.not_le.mp zc234))
                        refine z_iconst (v := 0) X dX11_unlikePairs_142 (by decide) ?_
                        refine z_goto X 147 dX11_unlikePairs_143 (by decide) ?_
                        refine z_iadd X dX11_unlikePairs_147 ?_
                        refine z_istore (ls' := [(4, .int (acc2 + 0)), (0, .ref o), (1, .int (nI b)), (2, .int (nI v)), (3, .int (nI nc)), (5, .int (nI i)), (6, .int (nI z))]) X dX11_unlikePairs_148 (by decide) rfl ?_
                        refine z_iinc (v := nI (z + 1)) (ls' := [(6, .int (nI (z + 1))), (4, .int (acc2 + 0)), (0, .ref o), (1, .int (nI b)), (2, .int (nI v)), (3, .int (nI nc)), (5, .int (nI i))]) X 6 dX11_unlikePairs_150 rfl (nI_1 (z)) (by decide) rfl ?_
                        refine z_goto X 113 dX11_unlikePairs_153 (by decide) ?_
                        refine z_sub (ls' := [(0, .ref o), (1, .int (nI b)), (2, .int (nI v)), (3, .int (nI nc)), (4, .int (acc2 + 0)), (5, .int (nI i)), (6, .int (nI (z + 1)))]) [2, 3, 4, 5, 1, 6, 0] rfl ?_
                        exact ih113 hh113 (z + 1) (acc2 + 0) w1 w2 w3 w4 w5 w6 w7 w8 g1 g2 g3 g4 g5 (by omega) (by exact fun zq hzq zn0 zn1 zn2 zn3 zn4 zn5 zn6 zn7 zn8 zn9 zn10 zn11 zn12 zn13 zn14 zn15 zn16 zn17 => zl_113 zq hzq zn0 zn1 zn2 zn3 zn4 zn5 zn6 zn7 zn8 zn9 zn10 zn11 zn12 zn13 zn14 zn15 zn16 zn17) (zr_113) (by exact zK211) (by exact zK212) (by exact zK213) (by exact zK214) (by exact zK215) (by exact zK216) (by first | assumption | rfl | omega) (by exact hgn) (by exact prs_f2 hac2 hun)
                refine z_sub (ls' := [(0, .ref o), (1, .int (nI b)), (2, .int (nI v)), (3, .int (nI nc)), (4, .int acc), (5, .int (nI i)), (6, .int 0)]) [1, 2, 3, 4, 5, 6, 0] rfl ?_
                exact L113 _ zh183 0 acc (nI (lnO (gbyN (Tx d) tx v (trM d b i)))) ((gbyN (Tx d) tx v (trM d b i)) 0) ((gbyN (Tx d) tx v (trM d b i)) 2) ((gbyN (Tx d) tx v (trM d b i)) 3) (nI nc) ((trM d b i) 10) cold'153 wind'154 (win 100 40 (gbyN (Tx d) tx v (trM d b i))) (win 140 40 (gbyN (Tx d) tx v (trM d b i))) (upd (upd (upd (win 4 6 d) 2 (d (40 + 3 * b))) 3 (d (40 + 3 * b + 1))) 1 (d (40 + 3 * b + 2))) cs ts (Nat.lt_succ_self _) (by exact fun zq hzq zn0 zn1 zn2 zn3 zn4 zn5 zn6 zn7 zn8 zn9 zn10 zn11 zn12 zn13 zn14 zn15 zn16 zn17 => zl208 zq hzq zn0 zn1 zn2 zn3 zn4 zn5 zn6 zn7 zn8 zn9 zn10 zn11 zn12 zn13 zn14 zn15 zn16 zn17 (gr_ne (i := i) (by omega) zn6 zn7 zn8 zn9 zn10 zn11 zn12 zn13 zn14 zn15 zn16 zn17).1 (gr_ne (i := i) (by omega) zn6 zn7 zn8 zn9 zn10 zn11 zn12 zn13 zn14 zn15 zn16 zn17).2) (zr209) (by exact zK203) (by exact zK204) (by exact zK205) (by exact zK200) (by exact zK201) (by exact zK202) (by first | assumption | rfl | omega) (by exact hgN) (by rw [hacc]; exact (Int32.add_zero _).symm)
              · first | exact absurd zc130 (by decide) | exact absurd (by decide) zc130
  refine z_sub (ls' := [(0, .ref o), (1, .int (nI b)), (2, .int (nI v)), (3, .int (nI nc)), (4, .int 0), (5, .int 0)]) [3, 4, 5, 2, 1, 0] rfl ?_
  exact L22 _ h 0 0 alen anow add adr acc aon acold awind af1 af2 af3 ac1 at1 (Nat.lt_succ_self _) (by exact fun zq hzq zn0 zn1 zn2 zn3 zn4 zn5 zn6 zn7 zn8 zn9 zn10 zn11 zn12 zn13 zn14 zn15 zn16 zn17 => rfl) (Zr.refl) (by exact K10) (by exact K11) (by exact K12) (by exact K13) (by exact K14) (by exact K15) (by first | assumption | rfl | omega) (by exact hG.zero) (by rfl)
theorem tries_e {T : Nat → Nat → Int32} {tx : Nat → Nat} {d : Nat → Int32} {nc nb : Nat} {v : Int32} (h : ¬ (0 ≤ v.toInt ∧ v.toInt ≤ 60)) : opTries T tx d nc nb v = (1, 0) := if_pos h
theorem tries_2 {T : Nat → Nat → Int32} {tx : Nat → Nat} {d : Nat → Int32} {nc nb vn : Nat} (h : vn ≤ 60) (hb : nb = 0) : opTries T tx d nc nb (nI vn) = (2, 0) := by
  have e2 := i_nI (n := vn) (by omega)
  unfold opTries
  rw [if_neg (by omega), if_pos hb]
set_option maxHeartbeats 4000000 in
set_option maxRecDepth 100000 in
theorem p_tries {κ : Wc} {l : Launch} {h : Mm} {n : Nat} {o : Nat} {im : Int32} {d : Nat → Int32} {len : Nat} {nc : Nat} {cold : Int32} {wind : Int32} {cs : Nat → Option Nat} {ts : Nat → Option Nat} {nb : Nat} {bx : Nat → Int32} {alen : Int32} {anow : Int32} {add : Int32} {adr : Int32} {acc : Int32} {aon : Int32} {acold : Int32} {awind : Int32} {af1 : Nat → Int32} {af2 : Nat → Int32} {af3 : Nat → Int32} {ac1 : Nat → Option Nat} {at1 : Nat → Option Nat} {fo : Nat → Int32} {v : Int32} {tx : Nat → Nat} (K0 : h o = some (.inr (11, [.ref (o + 1), .ref (o + 14), .ref (o + 27), .ref (o + 33), .ref (o + 42), .ref (o + 55), .ref (o + 57), .ref (o + 59), .ref (o + 61), .int im]))) (K1 : h (o + 1) = some (.inr (3, [.ref (o + 1 + 1), .ref (o + 1 + 7), .ref (o + 1 + 9), .ref (o + 1 + 11), .int (d 13)]))) (K2 : h (o + 2) = some (.inr (2, [.ref (o + 3), .ref (o + 4), .ref (o + 5), .ref (o + 6), .ref (o + 7), .int (nI len), .int (d 0), .int (d 2), .int (d 3), .int (nI nc), .int (d 10), .int cold, .int wind]))) (K3 : h (o + 3) = arI κ 40 (win 100 40 d)) (K4 : h (o + 4) = arI κ 40 (win 140 40 d)) (K5 : h (o + 5) = arI κ 6 (win 4 6 d)) (K6 : h (o + 6) = arR κ 1 6 cs) (K7 : h (o + 7) = arR κ 2 2 ts) (K8 : h (o + 12) = some (.inr (6, [.ref (o + 12 + 1), .int (nI (3 * nb)), .int 32]))) (K9 : h (o + 13) = arI κ 15 bx) (K10 : h (o + 27) = some (.inr (2, [.ref (o + 28), .ref (o + 29), .ref (o + 30), .ref (o + 31), .ref (o + 32), .int alen, .int anow, .int add, .int adr, .int acc, .int aon, .int acold, .int awind]))) (K11 : h (o + 28) = arI κ 40 af1) (K12 : h (o + 29) = arI κ 40 af2) (K13 : h (o + 30) = arI κ 6 af3) (K14 : h (o + 31) = arR κ 1 6 ac1) (K15 : h (o + 32) = arR κ 2 2 at1) (K16 : h (o + 42) = arR κ 3 6 (grF o)) (K17 : h (o + 61) = arI κ 6 fo) (q1 : d 1 = nI len) (q2 : 1 ≤ len) (q3 : len ≤ 40) (q4 : d 11 = nI nc) (q5 : nc ≤ 6) (hTs : TsO κ (o + 76) h ts (Tx d) tx) (hCs : CsO (o + 76) h cs d nc) (hCA : CsA (o + 76) h cs) (hS : wfS d) (hC : wfC d) (hB : ∀ b, b < nb → -50 ≤ d (40 + 3 * b) ∧ d (40 + 3 * b) ≤ 99 ∧ 0 ≤ d (40 + 3 * b + 2) ∧ d (40 + 3 * b + 2) ≤ 99) (p3 : ∀ j, j < 3 * nb → bx j = d (40 + j)) (p2 : nb ≤ 5) (hG : GrP κ o h 0 (fun _ _ => 0)) : Con κ l yX11_tries cX11_tries 6 (some .int) 16 0 0 [.ref o, .int v] h n (fun q h' n' => ∃ x1' : Int32, ∃ x2' : Int32, ∃ x3' : Int32, ∃ x4' : Int32, ∃ x5' : Int32, ∃ x6' : Int32, ∃ x7' : Int32, ∃ x8' : Int32, ∃ af1' : Nat → Int32, ∃ af2' : Nat → Int32, ∃ af3' : Nat → Int32, ∃ ac1' : Nat → Option Nat, ∃ at1' : Nat → Option Nat, q = some (.int (ansOf (opTries (Tx d) tx d nc nb v))) ∧ n' = n ∧ (∀ zq : Nat, zq < (o + 76) → zq ≠ (o + 27) → zq ≠ (o + 28) → zq ≠ (o + 29) → zq ≠ (o + 30) → zq ≠ (o + 31) → zq ≠ (o + 32) → zq ≠ (o + 61) → zq ≠ (o + 43) → zq ≠ (o + 44) → zq ≠ (o + 45) → zq ≠ (o + 46) → zq ≠ (o + 47) → zq ≠ (o + 48) → zq ≠ (o + 49) → zq ≠ (o + 50) → zq ≠ (o + 51) → zq ≠ (o + 52) → zq ≠ (o + 53) → zq ≠ (o + 54) → h' zq = h zq) ∧ Zr κ (o + 76) h h' ∧ h' (o + 27) = some (.inr (2, [.ref (o + 28), .ref (o + 29), .ref (o + 30), .ref (o + 31), .ref (o + 32), .int x1', .int x2', .int x3', .int x4', .int x5', .int x6', .int x7', .int x8'])) ∧ h' (o + 28) = arI κ 40 af1' ∧ h' (o + 29) = arI κ 40 af2' ∧ h' (o + 30) = arI κ 6 af3' ∧ h' (o + 31) = arR κ 1 6 ac1' ∧ h' (o + 32) = arR κ 2 2 at1' ∧ h' (o + 61) = arI κ 6 (bump (opTries (Tx d) tx d nc nb v) fo) ∧ GrP κ o h' 0 (fun _ _ => 0)) := by
  refine Con.of mk_X11_tries (Nat.le_of_ble_eq_true rfl) (fun G hG X E => ?_)
  subst hG
  refine z_ls (ls' := [(0, .ref o), (1, .int v)]) rfl ?_
  have hOk : lnOk d := lnOk_of q1 q2 q3
  refine z_iload_n X 1 dX11_tries_0 rfl ?_
  refine z_callS X (c_isAhead (κ := κ) (n := n) (v := (v))  ) mk_X11_isAhead dX11_tries_1 wd_658 wd_659 rfl rfl (Nat.le_of_ble_eq_true rfl) (Nat.le_of_ble_eq_true rfl) (Nat.le_of_ble_eq_true rfl) (by omega) (by omega) (fun q zh1 zm3 zp4 => ?_)
  obtain ⟨rfl, ze2, zn5⟩ := zp4
  subst zm3
  subst zh1
  refine z_st (st' := [.int (b2i (0 ≤ (v : Int32).toInt ∧ (v : Int32).toInt ≤ 60))]) rfl ?_
  refine z_if_ne X 13 dX11_tries_4 (by decide) (fun zc6 => ?_) (fun zc6 => ?_)
  · replace zc6 := b2i_t zc6
    obtain ⟨vk, hvk, rfl⟩ := ix_of (c := v) (len := 61) (by omega) (by omega)
    refine z_aload_n X 0 dX11_tries_13 rfl ?_
    refine z_get X fl_X11_10_11 dX11_tries_14 K0 rfl ?_
    refine z_callV X (c_boxCount (κ := κ) (n := n) (k := (o + 1)) (z := (d 13)) (nb := (nb)) K1 K8 (by first | assumption | omega)) mk_X3_boxCount dX11_tries_17 wd_741 wd_742 wd_743 rfl K1 rfl rfl rfl (Nat.le_of_ble_eq_true rfl) (Nat.le_of_ble_eq_true rfl) (Nat.le_of_ble_eq_true rfl) (by omega) (by omega) (fun q zh7 zm9 zp10 => ?_)
    obtain ⟨rfl, ze8, zn11⟩ := zp10
    subst zm9
    subst zh7
    refine z_st (st' := [.int (nI nb)]) rfl ?_
    refine z_if_ne X 29 dX11_tries_20 (by decide) (fun zc12 => ?_) (fun zc12 => ?_)
    · try replace zc12 := mt (nI_eq (a := nb) (b := 0) (by omega) (by omega)).mpr zc12
      refine z_iconst (v := 0) X dX11_tries_29 (by decide) ?_
      refine z_istore_n (ls' := [(2, .int 0), (0, .ref o), (1, .int (nI vk))]) X dX11_tries_30 (by decide) rfl ?_
      refine z_iconst (v := -1) X dX11_tries_31 (by decide) ?_
      refine z_istore_n (ls' := [(3, .int ((-1))), (2, .int 0), (0, .ref o), (1, .int (nI vk))]) X dX11_tries_32 (by decide) rfl ?_
      refine z_iconst (v := 0) X dX11_tries_33 (by decide) ?_
      refine z_istore (ls' := [(4, .int 0), (3, .int ((-1))), (2, .int 0), (0, .ref o), (1, .int (nI vk))]) X dX11_tries_34 (by decide) rfl ?_
      have L36 : ∀ (jj : Nat) (hh36 : Mm) (i : Nat) (bs : Int32) (ms : Int32) (y1 : Int32) (y2 : Int32) (y3 : Int32) (y4 : Int32) (y5 : Int32) (y6 : Int32) (y7 : Int32) (y8 : Int32) (b1 : Nat → Int32) (b2 : Nat → Int32) (b3 : Nat → Int32) (b4 : Nat → Option Nat) (b5 : Nat → Option Nat), (nb - i < jj) → (∀ zq : Nat, zq < (o + 76) → zq ≠ (o + 27) → zq ≠ (o + 28) → zq ≠ (o + 29) → zq ≠ (o + 30) → zq ≠ (o + 31) → zq ≠ (o + 32) → zq ≠ (o + 43) → zq ≠ (o + 44) → zq ≠ (o + 45) → zq ≠ (o + 46) → zq ≠ (o + 47) → zq ≠ (o + 48) → zq ≠ (o + 49) → zq ≠ (o + 50) → zq ≠ (o + 51) → zq ≠ (o + 52) → zq ≠ (o + 53) → zq ≠ (o + 54) → hh36 zq = h zq) → Zr κ (o + 76) h hh36 → hh36 (o + 27) = some (.inr (2, [.ref (o + 28), .ref (o + 29), .ref (o + 30), .ref (o + 31), .ref (o + 32), .int y1, .int y2, .int y3, .int y4, .int y5, .int y6, .int y7, .int y8])) → hh36 (o + 28) = arI κ 40 b1 → hh36 (o + 29) = arI κ 40 b2 → hh36 (o + 30) = arI κ 6 b3 → hh36 (o + 31) = arR κ 1 6 b4 → hh36 (o + 32) = arR κ 2 2 b5 → (hi : i ≤ nb) → (hg : GrP κ o hh36 0 (fun _ _ => 0)) → (hBs : bs = nI (txF (triV (Tx d) tx d vk nc) i).1) → (hM : ms = (txF (triV (Tx d) tx d vk nc) i).2) → Z κ G 6 36 [(0, .ref o), (1, .int (nI vk)), (2, .int bs), (3, .int ms), (4, .int (nI i))] [] hh36 n 0 (0) := by
        intro jj
        induction jj with
        | zero => intro hh36 i bs ms y1 y2 y3 y4 y5 y6 y7 y8 b1 b2 b3 b4 b5 hmu; exact absurd hmu (Nat.not_lt_zero _)
        | succ jj ih36 =>
          intro hh36 i bs ms y1 y2 y3 y4 y5 y6 y7 y8 b1 b2 b3 b4 b5 hmu zl_36 zr_36 zK13 zK14 zK15 zK16 zK17 zK18 hi hg hBs hM
          have zK19 : hh36 o = some (.inr (11, [.ref (o + 1), .ref (o + 14), .ref (o + 27), .ref (o + 33), .ref (o + 42), .ref (o + 55), .ref (o + 57), .ref (o + 59), .ref (o + 61), .int im])) := (zl_36 o (by omega) (by omega) (by omega) (by omega) (by omega) (by omega) (by omega) (by omega) (by omega) (by omega) (by omega) (by omega) (by omega) (by omega) (by omega) (by omega) (by omega) (by omega) (by omega)).trans K0
          have zK20 : hh36 (o + 1) = some (.inr (3, [.ref (o + 1 + 1), .ref (o + 1 + 7), .ref (o + 1 + 9), .ref (o + 1 + 11), .int (d 13)])) := (zl_36 (o + 1) (by omega) (by omega) (by omega) (by omega) (by omega) (by omega) (by omega) (by omega) (by omega) (by omega) (by omega) (by omega) (by omega) (by omega) (by omega) (by omega) (by omega) (by omega) (by omega)).trans K1
          have zK21 : hh36 (o + 2) = some (.inr (2, [.ref (o + 3), .ref (o + 4), .ref (o + 5), .ref (o + 6), .ref (o + 7), .int (nI len), .int (d 0), .int (d 2), .int (d 3), .int (nI nc), .int (d 10), .int cold, .int wind])) := (zl_36 (o + 2) (by omega) (by omega) (by omega) (by omega) (by omega) (by omega) (by omega) (by omega) (by omega) (by omega) (by omega) (by omega) (by omega) (by omega) (by omega) (by omega) (by omega) (by omega) (by omega)).trans K2
          have zK22 : hh36 (o + 3) = arI κ 40 (win 100 40 d) := (zl_36 (o + 3) (by omega) (by omega) (by omega) (by omega) (by omega) (by omega) (by omega) (by omega) (by omega) (by omega) (by omega) (by omega) (by omega) (by omega) (by omega) (by omega) (by omega) (by omega) (by omega)).trans K3
          have zK23 : hh36 (o + 4) = arI κ 40 (win 140 40 d) := (zl_36 (o + 4) (by omega) (by omega) (by omega) (by omega) (by omega) (by omega) (by omega) (by omega) (by omega) (by omega) (by omega) (by omega) (by omega) (by omega) (by omega) (by omega) (by omega) (by omega) (by omega)).trans K4
          have zK24 : hh36 (o + 5) = arI κ 6 (win 4 6 d) := (zl_36 (o + 5) (by omega) (by omega) (by omega) (by omega) (by omega) (by omega) (by omega) (by omega) (by omega) (by omega) (by omega) (by omega) (by omega) (by omega) (by omega) (by omega) (by omega) (by omega) (by omega)).trans K5
          have zK25 : hh36 (o + 6) = arR κ 1 6 cs := (zl_36 (o + 6) (by omega) (by omega) (by omega) (by omega) (by omega) (by omega) (by omega) (by omega) (by omega) (by omega) (by omega) (by omega) (by omega) (by omega) (by omega) (by omega) (by omega) (by omega) (by omega)).trans K6
          have zK26 : hh36 (o + 7) = arR κ 2 2 ts := (zl_36 (o + 7) (by omega) (by omega) (by omega) (by omega) (by omega) (by omega) (by omega) (by omega) (by omega) (by omega) (by omega) (by omega) (by omega) (by omega) (by omega) (by omega) (by omega) (by omega) (by omega)).trans K7
          have zK27 : hh36 (o + 12) = some (.inr (6, [.ref (o + 12 + 1), .int (nI (3 * nb)), .int 32])) := (zl_36 (o + 12) (by omega) (by omega) (by omega) (by omega) (by omega) (by omega) (by omega) (by omega) (by omega) (by omega) (by omega) (by omega) (by omega) (by omega) (by omega) (by omega) (by omega) (by omega) (by omega)).trans K8
          have zK28 : hh36 (o + 13) = arI κ 15 bx := (zl_36 (o + 13) (by omega) (by omega) (by omega) (by omega) (by omega) (by omega) (by omega) (by omega) (by omega) (by omega) (by omega) (by omega) (by omega) (by omega) (by omega) (by omega) (by omega) (by omega) (by omega)).trans K9
          have zK29 : hh36 (o + 42) = arR κ 3 6 (grF o) := (zl_36 (o + 42) (by omega) (by omega) (by omega) (by omega) (by omega) (by omega) (by omega) (by omega) (by omega) (by omega) (by omega) (by omega) (by omega) (by omega) (by omega) (by omega) (by omega) (by omega) (by omega)).trans K16
          have zK30 : hh36 (o + 61) = arI κ 6 fo := (zl_36 (o + 61) (by omega) (by omega) (by omega) (by omega) (by omega) (by omega) (by omega) (by omega) (by omega) (by omega) (by omega) (by omega) (by omega) (by omega) (by omega) (by omega) (by omega) (by omega) (by omega)).trans K17
          refine z_iload X 4 dX11_tries_36 rfl ?_
          refine z_aload_n X 0 dX11_tries_38 rfl ?_
          refine z_get X fl_X11_10_11 dX11_tries_39 zK19 rfl ?_
          refine z_callV X (c_boxCount (κ := κ) (n := n) (k := (o + 1)) (z := (d 13)) (nb := (nb)) zK20 zK27 (by first | assumption | omega)) mk_X3_boxCount dX11_tries_42 wd_741 wd_742 wd_743 rfl zK20 rfl rfl rfl (Nat.le_of_ble_eq_true rfl) (Nat.le_of_ble_eq_true rfl) (Nat.le_of_ble_eq_true rfl) (by omega) (by omega) (fun q zh31 zm33 zp34 => ?_)
          obtain ⟨rfl, ze32, zn35⟩ := zp34
          subst zm33
          subst zh31
          refine z_st (st' := [.int (nI nb), .int (nI i)]) rfl ?_
          refine z_icmp_ge X 75 dX11_tries_45 (by decide) (fun zc36 => ?_) (fun zc36 => ?_)
          · try replace zc36 := (nI_leI (a := nb) (b := i) (by omega) (by omega)).mp zc36
            refine z_iload_n X 2 dX11_tries_75 rfl ?_
            have hop : opTries (Tx d) tx d nc nb (nI vk) = (0, bs) := by (rw [opTries_0 (by omega) (by omega), hBs, show i = nb by omega])
            refine z_iret X E dX11_tries_76 (by omega) (by omega) ⟨y1, y2, y3, y4, y5, y6, y7, y8, b1, b2, b3, b4, b5, ?_, ?_, ?_, ?_, ?_, ?_, ?_, ?_, ?_, ?_, ?_, ?_⟩
            · rw [hop]; first | exact congrArg (fun z => some (Value.int z)) (ansOf_0 _).symm | rfl
            · rfl
            · exact fun zq hzq zn0 zn1 zn2 zn3 zn4 zn5 zn6 zn7 zn8 zn9 zn10 zn11 zn12 zn13 zn14 zn15 zn16 zn17 zn18 => zl_36 zq hzq zn0 zn1 zn2 zn3 zn4 zn5 zn7 zn8 zn9 zn10 zn11 zn12 zn13 zn14 zn15 zn16 zn17 zn18
            · exact zr_36
            · exact zK13
            · exact zK14
            · exact zK15
            · exact zK16
            · exact zK17
            · exact zK18
            · rw [hop]; first | (rw [bump_0]; exact zK30) | exact zK30
            · exact hg
          · try replace zc36 := mt (nI_leI (a := nb) (b := i) (by omega) (by omega)).mpr zc36
            refine z_aload_n X 0 dX11_tries_48 rfl ?_
            refine z_iload X 4 dX11_tries_49 rfl ?_
            refine z_iload_n X 1 dX11_tries_51 rfl ?_
            refine z_callV X (c_unlikePairs (κ := κ) (n := n) (o := (o)) (im := (im)) (d := (d)) (len := (len)) (nc := (nc)) (cold := (cold)) (wind := (wind)) (cs := (cs)) (ts := (ts)) (nb := (nb)) (bx := (bx)) (alen := (y1)) (anow := (y2)) (add := (y3)) (adr := (y4)) (acc := (y5)) (aon := (y6)) (acold := (y7)) (awind := (y8)) (af1 := (b1)) (af2 := (b2)) (af3 := (b3)) (ac1 := (b4)) (at1 := (b5)) (tx := (tx)) (b := (i)) (v := (vk)) zK19 zK20 zK21 zK22 zK23 zK24 zK25 zK26 zK27 zK28 zK13 zK14 zK15 zK16 zK17 zK18 zK29 (by first | assumption | omega) (by first | assumption | omega) (by first | assumption | omega) (by first | assumption | omega) (by first | assumption | omega) (TsO.mono zr_36 hTs) (CsO.mono zr_36 hCs) (CsA.mono zr_36 hCA) (by first | assumption | omega) (by first | assumption | omega) (hB) (by first | assumption | omega) (by first | assumption | omega) (by first | assumption | omega) (by first | assumption | omega) (hg)) mk_X11_unlikePairs dX11_tries_52 wd_749 wd_751 wd_22 rfl zK19 rfl rfl rfl (Nat.le_of_ble_eq_true rfl) (Nat.le_of_ble_eq_true rfl) (Nat.le_of_ble_eq_true rfl) (by omega) (by omega) (fun q zh50 zm52 zp53 => ?_)
            obtain ⟨x1'37, x2'38, x3'39, x4'40, x5'41, x6'42, x7'43, x8'44, af1'45, af2'46, af3'47, ac1'48, at1'49, rfl, zn55, zf56, zr57, zK58, zK59, zK60, zK61, zK62, zK63, zf54⟩ := zp53
            subst zm52
            refine z_st (st' := [.int (triV (Tx d) tx d vk nc i)]) rfl ?_
            have zK64 : zh50 o = some (.inr (11, [.ref (o + 1), .ref (o + 14), .ref (o + 27), .ref (o + 33), .ref (o + 42), .ref (o + 55), .ref (o + 57), .ref (o + 59), .ref (o + 61), .int im])) := (zf56 o (by omega) (by omega) (by omega) (by omega) (by omega) (by omega) (by omega) (by omega) (by omega) (by omega) (by omega) (by omega) (by omega) (by omega) (by omega) (by omega) (by omega) (by omega) (by omega)).trans zK19
            have zK65 : zh50 (o + 1) = some (.inr (3, [.ref (o + 1 + 1), .ref (o + 1 + 7), .ref (o + 1 + 9), .ref (o + 1 + 11), .int (d 13)])) := (zf56 (o + 1) (by omega) (by omega) (by omega) (by omega) (by omega) (by omega) (by omega) (by omega) (by omega) (by omega) (by omega) (by omega) (by omega) (by omega) (by omega) (by omega) (by omega) (by omega) (by omega)).trans zK20
            have zK66 : zh50 (o + 2) = some (.inr (2, [.ref (o + 3), .ref (o + 4), .ref (o + 5), .ref (o + 6), .ref (o + 7), .int (nI len), .int (d 0), .int (d 2), .int (d 3), .int (nI nc), .int (d 10), .int cold, .int wind])) := (zf56 (o + 2) (by omega) (by omega) (by omega) (by omega) (by omega) (by omega) (by omega) (by omega) (by omega) (by omega) (by omega) (by omega) (by omega) (by omega) (by omega) (by omega) (by omega) (by omega) (by omega)).trans zK21
            have zK67 : zh50 (o + 3) = arI κ 40 (win 100 40 d) := (zf56 (o + 3) (by omega) (by omega) (by omega) (by omega) (by omega) (by omega) (by omega) (by omega) (by omega) (by omega) (by omega) (by omega) (by omega) (by omega) (by omega) (by omega) (by omega) (by omega) (by omega)).trans zK22
            have zK68 : zh50 (o + 4) = arI κ 40 (win 140 40 d) := (zf56 (o + 4) (by omega) (by omega) (by omega) (by omega) (by omega) (by omega) (by omega) (by omega) (by omega) (by omega) (by omega) (by omega) (by omega) (by omega) (by omega) (by omega) (by omega) (by omega) (by omega)).trans zK23
            have zK69 : zh50 (o + 5) = arI κ 6 (win 4 6 d) := (zf56 (o + 5) (by omega) (by omega) (by omega) (by omega) (by omega) (by omega) (by omega) (by omega) (by omega) (by omega) (by omega) (by omega) (by omega) (by omega) (by omega) (by omega) (by omega) (by omega) (by omega)).trans zK24
            have zK70 : zh50 (o + 6) = arR κ 1 6 cs := (zf56 (o + 6) (by omega) (by omega) (by omega) (by omega) (by omega) (by omega) (by omega) (by omega) (by omega) (by omega) (by omega) (by omega) (by omega) (by omega) (by omega) (by omega) (by omega) (by omega) (by omega)).trans zK25
            have zK71 : zh50 (o + 7) = arR κ 2 2 ts := (zf56 (o + 7) (by omega) (by omega) (by omega) (by omega) (by omega) (by omega) (by omega) (by omega) (by omega) (by omega) (by omega) (by omega) (by omega) (by omega) (by omega) (by omega) (by omega) (by omega) (by omega)).trans zK26
            have zK72 : zh50 (o + 12) = some (.inr (6, [.ref (o + 12 + 1), .int (nI (3 * nb)), .int 32])) := (zf56 (o + 12) (by omega) (by omega) (by omega) (by omega) (by omega) (by omega) (by omega) (by omega) (by omega) (by omega) (by omega) (by omega) (by omega) (by omega) (by omega) (by omega) (by omega) (by omega) (by omega)).trans zK27
            have zK73 : zh50 (o + 13) = arI κ 15 bx := (zf56 (o + 13) (by omega) (by omega) (by omega) (by omega) (by omega) (by omega) (by omega) (by omega) (by omega) (by omega) (by omega) (by omega) (by omega) (by omega) (by omega) (by omega) (by omega) (by omega) (by omega)).trans zK28
            have zK74 : zh50 (o + 42) = arR κ 3 6 (grF o) := (zf56 (o + 42) (by omega) (by omega) (by omega) (by omega) (by omega) (by omega) (by omega) (by omega) (by omega) (by omega) (by omega) (by omega) (by omega) (by omega) (by omega) (by omega) (by omega) (by omega) (by omega)).trans zK29
            have zK75 : zh50 (o + 61) = arI κ 6 fo := (zf56 (o + 61) (by omega) (by omega) (by omega) (by omega) (by omega) (by omega) (by omega) (by omega) (by omega) (by omega) (by omega) (by omega) (by omega) (by omega) (by omega) (by omega) (by omega) (by omega) (by omega)).trans zK30
            have zl76 : ∀ zq : Nat, zq < (o + 76) → zq ≠ (o + 27) → zq ≠ (o + 28) → zq ≠ (o + 29) → zq ≠ (o + 30) → zq ≠ (o + 31) → zq ≠ (o + 32) → zq ≠ (o + 43) → zq ≠ (o + 44) → zq ≠ (o + 45) → zq ≠ (o + 46) → zq ≠ (o + 47) → zq ≠ (o + 48) → zq ≠ (o + 49) → zq ≠ (o + 50) → zq ≠ (o + 51) → zq ≠ (o + 52) → zq ≠ (o + 53) → zq ≠ (o + 54) → zh50 zq = h zq := by intro zq hzq zn0 zn1 zn2 zn3 zn4 zn5 zn6 zn7 zn8 zn9 zn10 zn11 zn12 zn13 zn14 zn15 zn16 zn17; rw [zf56 zq (by omega) (by omega) (by omega) (by omega) (by omega) (by omega) (by omega) (by omega) (by omega) (by omega) (by omega) (by omega) (by omega) (by omega) (by omega) (by omega) (by omega) (by omega) (by omega)]; exact zl_36 zq hzq zn0 zn1 zn2 zn3 zn4 zn5 zn6 zn7 zn8 zn9 zn10 zn11 zn12 zn13 zn14 zn15 zn16 zn17
            have zr77 : Zr κ (o + 76) h zh50 := (zr_36).trans zr57
            have hgf := zf54
            refine z_istore (ls' := [(5, .int (triV (Tx d) tx d vk nc i)), (0, .ref o), (1, .int (nI vk)), (2, .int bs), (3, .int ms), (4, .int (nI i))]) X dX11_tries_55 (by decide) rfl ?_
            refine z_iload X 0 dX11_tries_57 rfl ?_
            refine z_iload_n X 4 dX11_tries_59 rfl ?_
            refine z_icmp_le X 69 dX11_tries_60 (by decide) (fun zc78 => ?_) (fun zc78 => ?_)
            · refine z_iinc (v := nI (i + 1)) (ls' := [(4, .int (nI (i + 1))), (5, .int (triV (Tx d) tx d vk nc i)), (0, .ref o), (1, .int (nI vk)), (2, .int bs), (3, .int ms)]) X 5 dX11_tries_69 rfl (nI_1 (i)) (by decide) rfl ?_
              refine z_goto X 36 dX11_tries_72 (by decide) ?_
              refine z_sub (ls' := [(0, .ref o), (1, .int (nI vk)), (2, .int bs), (3, .int ms), (4, .int (nI (i + 1)))]) [2, 3, 4, 5, 0] rfl ?_
              exact ih36 zh50 (i + 1) bs ms x1'37 x2'38 x3'39 x4'40 x5'41 x6'42 x7'43 x8'44 af1'45 af2'46 af3'47 ac1'48 at1'49 (by omega) (by exact fun zq hzq zn0 zn1 zn2 zn3 zn4 zn5 zn6 zn7 zn8 zn9 zn10 zn11 zn12 zn13 zn14 zn15 zn16 zn17 => zl76 zq hzq zn0 zn1 zn2 zn3 zn4 zn5 zn6 zn7 zn8 zn9 zn10 zn11 zn12 zn13 zn14 zn15 zn16 zn17) (zr77) (by exact zK58) (by exact zK59) (by exact zK60) (by exact zK61) (by exact zK62) (by exact zK63) (by first | assumption | rfl | omega) (by exact zf54) (by rw [hM] at *; first | rw [txF_t (Int32.not_le.mp (by assumption))] | rw [txF_f (Int32.not_lt.mpr (by assumption))]; exact hBs) (by rw [hM] at *; first | rw [txF_t (Int32.not_le.mp (by assumption))] | rw [txF_f (Int32.not_lt.mpr (by assumption))])
            · refine z_iload X 0 dX11_tries_63 rfl ?_
              refine z_istore_n (ls' := [(3, .int (triV (Tx d) tx d vk nc i)), (5, .int (triV (Tx d) tx d vk nc i)), (0, .ref o), (1, .int (nI vk)), (2, .int bs), (4, .int (nI i))]) X dX11_tries_65 (by decide) rfl ?_
              refine z_iload X 5 dX11_tries_66 rfl ?_
              refine z_istore_n (ls' := [(2, .int (nI i)), (3, .int (triV (Tx d) tx d vk nc i)), (5, .int (triV (Tx d) tx d vk nc i)), (0, .ref o), (1, .int (nI vk)), (4, .int (nI i))]) X dX11_tries_68 (by decide) rfl ?_
              refine z_iinc (v := nI (i + 1)) (ls' := [(4, .int (nI (i + 1))), (2, .int (nI i)), (3, .int (triV (Tx d) tx d vk nc i)), (5, .int (triV (Tx d) tx d vk nc i)), (0, .ref o), (1, .int (nI vk))]) X 5 dX11_tries_69 rfl (nI_1 (i)) (by decide) rfl ?_
              refine z_goto X 36 dX11_tries_72 (by decide) ?_
              refine z_sub (ls' := [(0, .ref o), (1, .int (nI vk)), (2, .int (nI i)), (3, .int (triV (Tx d) tx d vk nc i)), (4, .int (nI (i + 1)))]) [4, 5, 1, 2, 0] rfl ?_
              exact ih36 zh50 (i + 1) (nI i) (triV (Tx d) tx d vk nc i) x1'37 x2'38 x3'39 x4'40 x5'41 x6'42 x7'43 x8'44 af1'45 af2'46 af3'47 ac1'48 at1'49 (by omega) (by exact fun zq hzq zn0 zn1 zn2 zn3 zn4 zn5 zn6 zn7 zn8 zn9 zn10 zn11 zn12 zn13 zn14 zn15 zn16 zn17 => zl76 zq hzq zn0 zn1 zn2 zn3 zn4 zn5 zn6 zn7 zn8 zn9 zn10 zn11 zn12 zn13 zn14 zn15 zn16 zn17) (zr77) (by exact zK58) (by exact zK59) (by exact zK60) (by exact zK61) (by exact zK62) (by exact zK63) (by first | assumption | rfl | omega) (by exact zf54) (by rw [hM] at *; first | rw [txF_t (Int32.not_le.mp (by assumption))] | rw [txF_f (Int32.not_lt.mpr (by assumption))]; exact hBs) (by rw [hM] at *; first | rw [txF_t (Int32.not_le.mp (by assumption))] | rw [txF_f (Int32.not_lt.mpr (by assumption))])
      refine z_sub (ls' := [(0, .ref o), (1, .int (nI vk)), (2, .int 0), (3, .int ((-1))), (4, .int 0)]) [3, 4, 2, 1, 0] rfl ?_
      exact L36 _ h 0 0 ((-1)) alen anow add adr acc aon acold awind af1 af2 af3 ac1 at1 (Nat.lt_succ_self _) (by exact fun zq hzq zn0 zn1 zn2 zn3 zn4 zn5 zn6 zn7 zn8 zn9 zn10 zn11 zn12 zn13 zn14 zn15 zn16 zn17 => rfl) (Zr.refl) (by exact K10) (by exact K11) (by exact K12) (by exact K13) (by exact K14) (by exact K15) (by first | assumption | rfl | omega) (by exact hG) (by rfl) (by rfl)
    · try replace zc12 := (nI_eq (a := nb) (b := 0) (by omega) (by omega)).mp zc12
      refine z_aload_n X 0 dX11_tries_23 rfl ?_
      refine z_iconst (v := 2) X dX11_tries_24 (by decide) ?_
      refine z_callV X (c_fail (κ := κ) (n := n) (o := (o)) (im := (im)) (fo := (fo)) (k := (2)) K0 K17 (by first | assumption | omega) (by first | assumption | omega)) mk_X11_fail dX11_tries_25 wd_260 wd_262 wd_0 rfl K0 rfl rfl rfl (Nat.le_of_ble_eq_true rfl) (Nat.le_of_ble_eq_true rfl) (Nat.le_of_ble_eq_true rfl) (by omega) (by omega) (fun q zh79 zm81 zp82 => ?_)
      obtain ⟨rfl, ze80, zn83⟩ := zp82
      subst zm81
      refine z_st (st' := [.int (lowE 2)]) rfl ?_
      have zK84 : zh79 o = some (.inr (11, [.ref (o + 1), .ref (o + 14), .ref (o + 27), .ref (o + 33), .ref (o + 42), .ref (o + 55), .ref (o + 57), .ref (o + 59), .ref (o + 61), .int im])) := by rw [ze80]; rw [va_up_ne _ _ (show o ≠ o + 61 by omega)]; exact K0
      have zK85 : zh79 (o + 1) = some (.inr (3, [.ref (o + 1 + 1), .ref (o + 1 + 7), .ref (o + 1 + 9), .ref (o + 1 + 11), .int (d 13)])) := by rw [ze80]; rw [va_up_ne _ _ (show o + 1 ≠ o + 61 by omega)]; exact K1
      have zK86 : zh79 (o + 2) = some (.inr (2, [.ref (o + 3), .ref (o + 4), .ref (o + 5), .ref (o + 6), .ref (o + 7), .int (nI len), .int (d 0), .int (d 2), .int (d 3), .int (nI nc), .int (d 10), .int cold, .int wind])) := by rw [ze80]; rw [va_up_ne _ _ (show o + 2 ≠ o + 61 by omega)]; exact K2
      have zK87 : zh79 (o + 3) = arI κ 40 (win 100 40 d) := by rw [ze80]; rw [va_up_ne _ _ (show o + 3 ≠ o + 61 by omega)]; exact K3
      have zK88 : zh79 (o + 4) = arI κ 40 (win 140 40 d) := by rw [ze80]; rw [va_up_ne _ _ (show o + 4 ≠ o + 61 by omega)]; exact K4
      have zK89 : zh79 (o + 5) = arI κ 6 (win 4 6 d) := by rw [ze80]; rw [va_up_ne _ _ (show o + 5 ≠ o + 61 by omega)]; exact K5
      have zK90 : zh79 (o + 6) = arR κ 1 6 cs := by rw [ze80]; rw [va_up_ne _ _ (show o + 6 ≠ o + 61 by omega)]; exact K6
      have zK91 : zh79 (o + 7) = arR κ 2 2 ts := by rw [ze80]; rw [va_up_ne _ _ (show o + 7 ≠ o + 61 by omega)]; exact K7
      have zK92 : zh79 (o + 12) = some (.inr (6, [.ref (o + 12 + 1), .int (nI (3 * nb)), .int 32])) := by rw [ze80]; rw [va_up_ne _ _ (show o + 12 ≠ o + 61 by omega)]; exact K8
      have zK93 : zh79 (o + 13) = arI κ 15 bx := by rw [ze80]; rw [va_up_ne _ _ (show o + 13 ≠ o + 61 by omega)]; exact K9
      have zK94 : zh79 (o + 27) = some (.inr (2, [.ref (o + 28), .ref (o + 29), .ref (o + 30), .ref (o + 31), .ref (o + 32), .int alen, .int anow, .int add, .int adr, .int acc, .int aon, .int acold, .int awind])) := by rw [ze80]; rw [va_up_ne _ _ (show o + 27 ≠ o + 61 by omega)]; exact K10
      have zK95 : zh79 (o + 28) = arI κ 40 af1 := by rw [ze80]; rw [va_up_ne _ _ (show o + 28 ≠ o + 61 by omega)]; exact K11
      have zK96 : zh79 (o + 29) = arI κ 40 af2 := by rw [ze80]; rw [va_up_ne _ _ (show o + 29 ≠ o + 61 by omega)]; exact K12
      have zK97 : zh79 (o + 30) = arI κ 6 af3 := by rw [ze80]; rw [va_up_ne _ _ (show o + 30 ≠ o + 61 by omega)]; exact K13
      have zK98 : zh79 (o + 31) = arR κ 1 6 ac1 := by rw [ze80]; rw [va_up_ne _ _ (show o + 31 ≠ o + 61 by omega)]; exact K14
      have zK99 : zh79 (o + 32) = arR κ 2 2 at1 := by rw [ze80]; rw [va_up_ne _ _ (show o + 32 ≠ o + 61 by omega)]; exact K15
      have zK100 : zh79 (o + 42) = arR κ 3 6 (grF o) := by rw [ze80]; rw [va_up_ne _ _ (show o + 42 ≠ o + 61 by omega)]; exact K16
      have zK101 : zh79 (o + 61) = arI κ 6 (bmp fo 2) := by rw [ze80]; exact va_up_self _ _ _
      have zl102 : ∀ zq : Nat, zq < (o + 76) → zq ≠ (o + 61) → zh79 zq = h zq := by intro zq hzq zn0; rw [ze80, va_up_ne _ _ (show zq ≠ o + 61 by omega)]; try rfl
      have zr103 : Zr κ (o + 76) h zh79 := (Zr.refl).trans (Zr.same (fun zq h1 => by rw [ze80, va_up_ne _ _ (show zq ≠ o + 61 by omega)]))
      refine z_iret X E dX11_tries_28 (by omega) (by omega) ⟨alen, anow, add, adr, acc, aon, acold, awind, af1, af2, af3, ac1, at1, ?_, ?_, ?_, ?_, ?_, ?_, ?_, ?_, ?_, ?_, ?_, ?_⟩
      · rw [tries_2 (T := Tx d) (tx := tx) (d := d) (nc := nc) (nb := nb) (by omega) (by omega)]; first | exact congrArg (fun z => some (Value.int z)) (ansOf_0 _).symm | rfl
      · rfl
      · exact fun zq hzq zn0 zn1 zn2 zn3 zn4 zn5 zn6 zn7 zn8 zn9 zn10 zn11 zn12 zn13 zn14 zn15 zn16 zn17 zn18 => zl102 zq hzq zn6
      · exact zr103
      · exact zK94
      · exact zK95
      · exact zK96
      · exact zK97
      · exact zK98
      · exact zK99
      · rw [tries_2 (T := Tx d) (tx := tx) (d := d) (nc := nc) (nb := nb) (by omega) (by omega)]; first | (rw [bump_0]; exact zK101) | exact zK101
      · exact hG.same (fun zq h1 h2 => zl102 zq (by omega) (by omega))
  · replace zc6 := b2i_f zc6
    refine z_aload_n X 0 dX11_tries_7 rfl ?_
    refine z_iconst (v := 1) X dX11_tries_8 (by decide) ?_
    refine z_callV X (c_fail (κ := κ) (n := n) (o := (o)) (im := (im)) (fo := (fo)) (k := (1)) K0 K17 (by first | assumption | omega) (by first | assumption | omega)) mk_X11_fail dX11_tries_9 wd_260 wd_262 wd_0 rfl K0 rfl rfl rfl (Nat.le_of_ble_eq_true rfl) (Nat.le_of_ble_eq_true rfl) (Nat.le_of_ble_eq_true rfl) (by omega) (by omega) (fun q zh104 zm106 zp107 => ?_)
    obtain ⟨rfl, ze105, zn108⟩ := zp107
    subst zm106
    refine z_st (st' := [.int (lowE 1)]) rfl ?_
    have zK109 : zh104 o = some (.inr (11, [.ref (o + 1), .ref (o + 14), .ref (o + 27), .ref (o + 33), .ref (o + 42), .ref (o + 55), .ref (o + 57), .ref (o + 59), .ref (o + 61), .int im])) := by rw [ze105]; rw [va_up_ne _ _ (show o ≠ o + 61 by omega)]; exact K0
    have zK110 : zh104 (o + 1) = some (.inr (3, [.ref (o + 1 + 1), .ref (o + 1 + 7), .ref (o + 1 + 9), .ref (o + 1 + 11), .int (d 13)])) := by rw [ze105]; rw [va_up_ne _ _ (show o + 1 ≠ o + 61 by omega)]; exact K1
    have zK111 : zh104 (o + 2) = some (.inr (2, [.ref (o + 3), .ref (o + 4), .ref (o + 5), .ref (o + 6), .ref (o + 7), .int (nI len), .int (d 0), .int (d 2), .int (d 3), .int (nI nc), .int (d 10), .int cold, .int wind])) := by rw [ze105]; rw [va_up_ne _ _ (show o + 2 ≠ o + 61 by omega)]; exact K2
    have zK112 : zh104 (o + 3) = arI κ 40 (win 100 40 d) := by rw [ze105]; rw [va_up_ne _ _ (show o + 3 ≠ o + 61 by omega)]; exact K3
    have zK113 : zh104 (o + 4) = arI κ 40 (win 140 40 d) := by rw [ze105]; rw [va_up_ne _ _ (show o + 4 ≠ o + 61 by omega)]; exact K4
    have zK114 : zh104 (o + 5) = arI κ 6 (win 4 6 d) := by rw [ze105]; rw [va_up_ne _ _ (show o + 5 ≠ o + 61 by omega)]; exact K5
    have zK115 : zh104 (o + 6) = arR κ 1 6 cs := by rw [ze105]; rw [va_up_ne _ _ (show o + 6 ≠ o + 61 by omega)]; exact K6
    have zK116 : zh104 (o + 7) = arR κ 2 2 ts := by rw [ze105]; rw [va_up_ne _ _ (show o + 7 ≠ o + 61 by omega)]; exact K7
    have zK117 : zh104 (o + 12) = some (.inr (6, [.ref (o + 12 + 1), .int (nI (3 * nb)), .int 32])) := by rw [ze105]; rw [va_up_ne _ _ (show o + 12 ≠ o + 61 by omega)]; exact K8
    have zK118 : zh104 (o + 13) = arI κ 15 bx := by rw [ze105]; rw [va_up_ne _ _ (show o + 13 ≠ o + 61 by omega)]; exact K9
    have zK119 : zh104 (o + 27) = some (.inr (2, [.ref (o + 28), .ref (o + 29), .ref (o + 30), .ref (o + 31), .ref (o + 32), .int alen, .int anow, .int add, .int adr, .int acc, .int aon, .int acold, .int awind])) := by rw [ze105]; rw [va_up_ne _ _ (show o + 27 ≠ o + 61 by omega)]; exact K10
    have zK120 : zh104 (o + 28) = arI κ 40 af1 := by rw [ze105]; rw [va_up_ne _ _ (show o + 28 ≠ o + 61 by omega)]; exact K11
    have zK121 : zh104 (o + 29) = arI κ 40 af2 := by rw [ze105]; rw [va_up_ne _ _ (show o + 29 ≠ o + 61 by omega)]; exact K12
    have zK122 : zh104 (o + 30) = arI κ 6 af3 := by rw [ze105]; rw [va_up_ne _ _ (show o + 30 ≠ o + 61 by omega)]; exact K13
    have zK123 : zh104 (o + 31) = arR κ 1 6 ac1 := by rw [ze105]; rw [va_up_ne _ _ (show o + 31 ≠ o + 61 by omega)]; exact K14
    have zK124 : zh104 (o + 32) = arR κ 2 2 at1 := by rw [ze105]; rw [va_up_ne _ _ (show o + 32 ≠ o + 61 by omega)]; exact K15
    have zK125 : zh104 (o + 42) = arR κ 3 6 (grF o) := by rw [ze105]; rw [va_up_ne _ _ (show o + 42 ≠ o + 61 by omega)]; exact K16
    have zK126 : zh104 (o + 61) = arI κ 6 (bmp fo 1) := by rw [ze105]; exact va_up_self _ _ _
    have zl127 : ∀ zq : Nat, zq < (o + 76) → zq ≠ (o + 61) → zh104 zq = h zq := by intro zq hzq zn0; rw [ze105, va_up_ne _ _ (show zq ≠ o + 61 by omega)]; try rfl
    have zr128 : Zr κ (o + 76) h zh104 := (Zr.refl).trans (Zr.same (fun zq h1 => by rw [ze105, va_up_ne _ _ (show zq ≠ o + 61 by omega)]))
    refine z_iret X E dX11_tries_12 (by omega) (by omega) ⟨alen, anow, add, adr, acc, aon, acold, awind, af1, af2, af3, ac1, at1, ?_, ?_, ?_, ?_, ?_, ?_, ?_, ?_, ?_, ?_, ?_, ?_⟩
    · rw [tries_e (T := Tx d) (tx := tx) (d := d) (nc := nc) (nb := nb) (by assumption)]; first | exact congrArg (fun z => some (Value.int z)) (ansOf_0 _).symm | rfl
    · rfl
    · exact fun zq hzq zn0 zn1 zn2 zn3 zn4 zn5 zn6 zn7 zn8 zn9 zn10 zn11 zn12 zn13 zn14 zn15 zn16 zn17 zn18 => zl127 zq hzq zn6
    · exact zr128
    · exact zK119
    · exact zK120
    · exact zK121
    · exact zK122
    · exact zK123
    · exact zK124
    · rw [tries_e (T := Tx d) (tx := tx) (d := d) (nc := nc) (nb := nb) (by assumption)]; first | (rw [bump_0]; exact zK126) | exact zK126
    · exact hG.same (fun zq h1 h2 => zl127 zq (by omega) (by omega))
set_option maxHeartbeats 4000000 in
set_option maxRecDepth 100000 in
theorem p_image {κ : Wc} {l : Launch} {h : Mm} {n : Nat} {o : Nat} {im : Int32} {d : Nat → Int32} {len : Nat} {nc : Nat} {cold : Int32} {wind : Int32} {cs : Nat → Option Nat} {ts : Nat → Option Nat} {nt : Nat} {tp : Nat → Int32} {nw : Nat} {wt : Nat → Int32} {nb : Nat} {bx : Nat → Int32} {tx : Nat → Nat} {z2 : Int32} {len2 : Int32} {now2 : Int32} {dd2 : Int32} {dr2 : Int32} {cc2 : Int32} {on2 : Int32} {cold2 : Int32} {wind2 : Int32} {f12 : Nat → Int32} {f22 : Nat → Int32} {f32 : Nat → Int32} {tp2 : Nat → Int32} {wt2 : Nat → Int32} {bx2 : Nat → Int32} {c12 : Nat → Option Nat} {t12 : Nat → Option Nat} {nt2 : Nat} {nw2 : Nat} {nx2 : Nat} (K0 : h o = some (.inr (11, [.ref (o + 1), .ref (o + 14), .ref (o + 27), .ref (o + 33), .ref (o + 42), .ref (o + 55), .ref (o + 57), .ref (o + 59), .ref (o + 61), .int im]))) (K1 : h (o + 1) = some (.inr (3, [.ref (o + 1 + 1), .ref (o + 1 + 7), .ref (o + 1 + 9), .ref (o + 1 + 11), .int (d 13)]))) (K2 : h (o + 2) = some (.inr (2, [.ref (o + 3), .ref (o + 4), .ref (o + 5), .ref (o + 6), .ref (o + 7), .int (nI len), .int (d 0), .int (d 2), .int (d 3), .int (nI nc), .int (d 10), .int cold, .int wind]))) (K3 : h (o + 3) = arI κ 40 (win 100 40 d)) (K4 : h (o + 4) = arI κ 40 (win 140 40 d)) (K5 : h (o + 5) = arI κ 6 (win 4 6 d)) (K6 : h (o + 6) = arR κ 1 6 cs) (K7 : h (o + 7) = arR κ 2 2 ts) (K8 : h (o + 8) = some (.inr (6, [.ref (o + 8 + 1), .int (nI nt), .int 32]))) (K9 : h (o + 9) = arI κ 50 tp) (K10 : h (o + 10) = some (.inr (6, [.ref (o + 10 + 1), .int (nI nw), .int 32]))) (K11 : h (o + 11) = arI κ 20 wt) (K12 : h (o + 12) = some (.inr (6, [.ref (o + 12 + 1), .int (nI (3 * nb)), .int 32]))) (K13 : h (o + 13) = arI κ 15 bx) (K14 : h (o + 14) = some (.inr (3, [.ref (o + 14 + 1), .ref (o + 14 + 7), .ref (o + 14 + 9), .ref (o + 14 + 11), .int z2]))) (K15 : h (o + 15) = some (.inr (2, [.ref (o + 16), .ref (o + 17), .ref (o + 18), .ref (o + 19), .ref (o + 20), .int len2, .int now2, .int dd2, .int dr2, .int cc2, .int on2, .int cold2, .int wind2]))) (K16 : h (o + 16) = arI κ 40 f12) (K17 : h (o + 17) = arI κ 40 f22) (K18 : h (o + 18) = arI κ 6 f32) (K19 : h (o + 19) = arR κ 1 6 c12) (K20 : h (o + 20) = arR κ 2 2 t12) (K21 : h (o + 21) = some (.inr (6, [.ref (o + 21 + 1), .int (nI nt2), .int 32]))) (K22 : h (o + 22) = arI κ 50 tp2) (K23 : h (o + 23) = some (.inr (6, [.ref (o + 23 + 1), .int (nI nw2), .int 32]))) (K24 : h (o + 24) = arI κ 20 wt2) (K25 : h (o + 25) = some (.inr (6, [.ref (o + 25 + 1), .int (nI nx2), .int 32]))) (K26 : h (o + 26) = arI κ 15 bx2) (hTs : TsO κ (o + 76) h ts (Tx d) tx) (hCA : CsA (o + 76) h cs) (p1 : nt ≤ 50) (p2 : nw ≤ 20) (p3 : nb ≤ 5) (p4 : nt2 ≤ 50) (p5 : nw2 ≤ 20) (p6 : nx2 ≤ 15) : Con κ l yX11_image cX11_image 1 (some .int) 6 0 0 [.ref o] h n (fun q h' n' => q = some (.int (im + 1)) ∧ n' = n ∧ (∀ zq : Nat, zq < (o + 76) → zq ≠ o → zq ≠ (o + 14) → zq ≠ (o + 15) → zq ≠ (o + 16) → zq ≠ (o + 17) → zq ≠ (o + 18) → zq ≠ (o + 19) → zq ≠ (o + 20) → zq ≠ (o + 21) → zq ≠ (o + 22) → zq ≠ (o + 23) → zq ≠ (o + 24) → zq ≠ (o + 25) → zq ≠ (o + 26) → h' zq = h zq) ∧ Zr κ (o + 76) h h' ∧ h' o = some (.inr (11, [.ref (o + 1), .ref (o + 14), .ref (o + 27), .ref (o + 33), .ref (o + 42), .ref (o + 55), .ref (o + 57), .ref (o + 59), .ref (o + 61), .int (im + 1)])) ∧ h' (o + 14) = some (.inr (3, [.ref (o + 14 + 1), .ref (o + 14 + 7), .ref (o + 14 + 9), .ref (o + 14 + 11), .int (d 13)])) ∧ h' (o + 15) = some (.inr (2, [.ref (o + 16), .ref (o + 17), .ref (o + 18), .ref (o + 19), .ref (o + 20), .int (nI len), .int (d 0), .int (d 2), .int (d 3), .int (nI nc), .int (d 10), .int cold2, .int wind2])) ∧ h' (o + 16) = arI κ 40 (win 100 40 d) ∧ h' (o + 17) = arI κ 40 (win 140 40 d) ∧ h' (o + 18) = arI κ 6 (win 4 6 d) ∧ h' (o + 19) = arR κ 1 6 cs ∧ h' (o + 20) = arR κ 2 2 ts ∧ h' (o + 21) = some (.inr (6, [.ref (o + 21 + 1), .int (nI nt), .int 32])) ∧ h' (o + 22) = arI κ 50 (va_cpy tp tp2 0 0 (nt)) ∧ h' (o + 23) = some (.inr (6, [.ref (o + 23 + 1), .int (nI nw), .int 32])) ∧ h' (o + 24) = arI κ 20 (va_cpy wt wt2 0 0 (nw)) ∧ h' (o + 25) = some (.inr (6, [.ref (o + 25 + 1), .int (nI (3 * nb)), .int 32])) ∧ h' (o + 26) = arI κ 15 (va_cpy bx bx2 0 0 (3 * nb))) := by
  refine Con.of mk_X11_image (Nat.le_of_ble_eq_true rfl) (fun G hG X E => ?_)
  subst hG
  refine z_ls (ls' := [(0, .ref o)]) rfl ?_
  refine z_aload_n X 0 dX11_image_0 rfl ?_
  refine z_get X fl_X11_16_11 dX11_image_1 K0 rfl ?_
  refine z_aload_n X 0 dX11_image_4 rfl ?_
  refine z_get X fl_X11_10_11 dX11_image_5 K0 rfl ?_
  refine z_callV X (c_Kbecome (κ := κ) (n := n) (k := (o + 14)) (j := (o + 1)) (zb := (o + 76)) (T := (Tx d)) (tx := (tx)) (z := (z2)) (len := (len2)) (now := (now2)) (dd := (dd2)) (dr := (dr2)) (cc := (cc2)) (on := (on2)) (cold := (cold2)) (wind := (wind2)) (f1 := (f12)) (f2 := (f22)) (f3 := (f32)) (tp := (tp2)) (wt := (wt2)) (bx := (bx2)) (c1 := (c12)) (t1 := (t12)) (nt := (nt2)) (nw := (nw2)) (nx := (nx2)) (z2 := (d 13)) (len2 := (nI len)) (now2 := (d 0)) (dd2 := (d 2)) (dr2 := (d 3)) (cc2 := (nI nc)) (on2 := (d 10)) (cold2 := (cold)) (wind2 := (wind)) (f12 := (win 100 40 d)) (f22 := (win 140 40 d)) (f32 := (win 4 6 d)) (tp2 := (tp)) (wt2 := (wt)) (bx2 := (bx)) (c12 := (cs)) (t12 := (ts)) (nt2 := (nt)) (nw2 := (nw)) (nx2 := (3 * nb)) K14 K15 K16 K17 K18 K19 K20 K21 K22 K23 K24 K25 K26 K1 K2 K3 K4 K5 K6 K7 K8 K9 K10 K11 K12 K13 (by first | assumption | omega) (by first | assumption | omega) (by first | assumption | omega) (hCA) (hTs) (by first | assumption | omega) (by first | assumption | omega) (by first | assumption | omega) (by first | assumption | omega) (by first | assumption | omega) (by first | assumption | omega)) mk_X3_become dX11_image_8 wd_899 wd_900 wd_901 rfl K14 rfl rfl rfl (Nat.le_of_ble_eq_true rfl) (Nat.le_of_ble_eq_true rfl) (Nat.le_of_ble_eq_true rfl) (by omega) (by omega) (fun q zh1 zm3 zp4 => ?_)
  obtain ⟨rfl, zn5, zf6, zr7, zK8, zK9, zK10, zK11, zK12, zK13, zK14, zK15, zK16, zK17, zK18, zK19, zK20⟩ := zp4
  subst zm3
  refine z_st (st' := []) rfl ?_
  have zK21 : zh1 o = some (.inr (11, [.ref (o + 1), .ref (o + 14), .ref (o + 27), .ref (o + 33), .ref (o + 42), .ref (o + 55), .ref (o + 57), .ref (o + 59), .ref (o + 61), .int im])) := (zf6 o (by omega) (by omega) (by omega) (by omega) (by omega) (by omega) (by omega) (by omega) (by omega) (by omega) (by omega) (by omega) (by omega) (by omega)).trans K0
  have zK22 : zh1 (o + 1) = some (.inr (3, [.ref (o + 1 + 1), .ref (o + 1 + 7), .ref (o + 1 + 9), .ref (o + 1 + 11), .int (d 13)])) := (zf6 (o + 1) (by omega) (by omega) (by omega) (by omega) (by omega) (by omega) (by omega) (by omega) (by omega) (by omega) (by omega) (by omega) (by omega) (by omega)).trans K1
  have zK23 : zh1 (o + 2) = some (.inr (2, [.ref (o + 3), .ref (o + 4), .ref (o + 5), .ref (o + 6), .ref (o + 7), .int (nI len), .int (d 0), .int (d 2), .int (d 3), .int (nI nc), .int (d 10), .int cold, .int wind])) := (zf6 (o + 2) (by omega) (by omega) (by omega) (by omega) (by omega) (by omega) (by omega) (by omega) (by omega) (by omega) (by omega) (by omega) (by omega) (by omega)).trans K2
  have zK24 : zh1 (o + 3) = arI κ 40 (win 100 40 d) := (zf6 (o + 3) (by omega) (by omega) (by omega) (by omega) (by omega) (by omega) (by omega) (by omega) (by omega) (by omega) (by omega) (by omega) (by omega) (by omega)).trans K3
  have zK25 : zh1 (o + 4) = arI κ 40 (win 140 40 d) := (zf6 (o + 4) (by omega) (by omega) (by omega) (by omega) (by omega) (by omega) (by omega) (by omega) (by omega) (by omega) (by omega) (by omega) (by omega) (by omega)).trans K4
  have zK26 : zh1 (o + 5) = arI κ 6 (win 4 6 d) := (zf6 (o + 5) (by omega) (by omega) (by omega) (by omega) (by omega) (by omega) (by omega) (by omega) (by omega) (by omega) (by omega) (by omega) (by omega) (by omega)).trans K5
  have zK27 : zh1 (o + 6) = arR κ 1 6 cs := (zf6 (o + 6) (by omega) (by omega) (by omega) (by omega) (by omega) (by omega) (by omega) (by omega) (by omega) (by omega) (by omega) (by omega) (by omega) (by omega)).trans K6
  have zK28 : zh1 (o + 7) = arR κ 2 2 ts := (zf6 (o + 7) (by omega) (by omega) (by omega) (by omega) (by omega) (by omega) (by omega) (by omega) (by omega) (by omega) (by omega) (by omega) (by omega) (by omega)).trans K7
  have zK29 : zh1 (o + 8) = some (.inr (6, [.ref (o + 8 + 1), .int (nI nt), .int 32])) := (zf6 (o + 8) (by omega) (by omega) (by omega) (by omega) (by omega) (by omega) (by omega) (by omega) (by omega) (by omega) (by omega) (by omega) (by omega) (by omega)).trans K8
  have zK30 : zh1 (o + 9) = arI κ 50 tp := (zf6 (o + 9) (by omega) (by omega) (by omega) (by omega) (by omega) (by omega) (by omega) (by omega) (by omega) (by omega) (by omega) (by omega) (by omega) (by omega)).trans K9
  have zK31 : zh1 (o + 10) = some (.inr (6, [.ref (o + 10 + 1), .int (nI nw), .int 32])) := (zf6 (o + 10) (by omega) (by omega) (by omega) (by omega) (by omega) (by omega) (by omega) (by omega) (by omega) (by omega) (by omega) (by omega) (by omega) (by omega)).trans K10
  have zK32 : zh1 (o + 11) = arI κ 20 wt := (zf6 (o + 11) (by omega) (by omega) (by omega) (by omega) (by omega) (by omega) (by omega) (by omega) (by omega) (by omega) (by omega) (by omega) (by omega) (by omega)).trans K11
  have zK33 : zh1 (o + 12) = some (.inr (6, [.ref (o + 12 + 1), .int (nI (3 * nb)), .int 32])) := (zf6 (o + 12) (by omega) (by omega) (by omega) (by omega) (by omega) (by omega) (by omega) (by omega) (by omega) (by omega) (by omega) (by omega) (by omega) (by omega)).trans K12
  have zK34 : zh1 (o + 13) = arI κ 15 bx := (zf6 (o + 13) (by omega) (by omega) (by omega) (by omega) (by omega) (by omega) (by omega) (by omega) (by omega) (by omega) (by omega) (by omega) (by omega) (by omega)).trans K13
  have zl35 : ∀ zq : Nat, zq < (o + 76) → zq ≠ (o + 14) → zq ≠ (o + 15) → zq ≠ (o + 16) → zq ≠ (o + 17) → zq ≠ (o + 18) → zq ≠ (o + 19) → zq ≠ (o + 20) → zq ≠ (o + 21) → zq ≠ (o + 22) → zq ≠ (o + 23) → zq ≠ (o + 24) → zq ≠ (o + 25) → zq ≠ (o + 26) → zh1 zq = h zq := by intro zq hzq zn0 zn1 zn2 zn3 zn4 zn5 zn6 zn7 zn8 zn9 zn10 zn11 zn12; rw [zf6 zq (by omega) (by omega) (by omega) (by omega) (by omega) (by omega) (by omega) (by omega) (by omega) (by omega) (by omega) (by omega) (by omega) (by omega)]; try rfl
  have zr36 : Zr κ (o + 76) h zh1 := (Zr.refl).trans zr7
  refine z_aload_n X 0 dX11_image_11 rfl ?_
  refine z_dup X dX11_image_12 rfl ?_
  refine z_get X fl_X11_52_11 dX11_image_13 zK21 rfl ?_
  refine z_iconst (v := 1) X dX11_image_16 (by decide) ?_
  refine z_iadd X dX11_image_17 ?_
  refine z_put X fp_X11_52_11 dX11_image_18 zK21 (by first | rfl | decide) (by first | rfl | decide) (Nat.le_of_ble_eq_true rfl) rfl ?_
  obtain ⟨zh37, ze38⟩ : ∃ z : Mm, z = va_up zh1 o (some (.inr (11, [.ref (o + 1), .ref (o + 14), .ref (o + 27), .ref (o + 33), .ref (o + 42), .ref (o + 55), .ref (o + 57), .ref (o + 59), .ref (o + 61), .int (im + 1)]))) := ⟨_, rfl⟩
  refine z_heap (h' := zh37) ze38.symm ?_
  have zK39 := up_at ze38
  have zK40 := up_off ze38 (show o + 1 ≠ o by omega) zK22
  have zK41 := up_off ze38 (show o + 2 ≠ o by omega) zK23
  have zK42 := up_off ze38 (show o + 3 ≠ o by omega) zK24
  have zK43 := up_off ze38 (show o + 4 ≠ o by omega) zK25
  have zK44 := up_off ze38 (show o + 5 ≠ o by omega) zK26
  have zK45 := up_off ze38 (show o + 6 ≠ o by omega) zK27
  have zK46 := up_off ze38 (show o + 7 ≠ o by omega) zK28
  have zK47 := up_off ze38 (show o + 8 ≠ o by omega) zK29
  have zK48 := up_off ze38 (show o + 9 ≠ o by omega) zK30
  have zK49 := up_off ze38 (show o + 10 ≠ o by omega) zK31
  have zK50 := up_off ze38 (show o + 11 ≠ o by omega) zK32
  have zK51 := up_off ze38 (show o + 12 ≠ o by omega) zK33
  have zK52 := up_off ze38 (show o + 13 ≠ o by omega) zK34
  have zK53 := up_off ze38 (show o + 14 ≠ o by omega) zK8
  have zK54 := up_off ze38 (show o + 15 ≠ o by omega) zK9
  have zK55 := up_off ze38 (show o + 16 ≠ o by omega) zK10
  have zK56 := up_off ze38 (show o + 17 ≠ o by omega) zK11
  have zK57 := up_off ze38 (show o + 18 ≠ o by omega) zK12
  have zK58 := up_off ze38 (show o + 19 ≠ o by omega) zK13
  have zK59 := up_off ze38 (show o + 20 ≠ o by omega) zK14
  have zK60 := up_off ze38 (show o + 21 ≠ o by omega) zK15
  have zK61 := up_off ze38 (show o + 22 ≠ o by omega) zK16
  have zK62 := up_off ze38 (show o + 23 ≠ o by omega) zK17
  have zK63 := up_off ze38 (show o + 24 ≠ o by omega) zK18
  have zK64 := up_off ze38 (show o + 25 ≠ o by omega) zK19
  have zK65 := up_off ze38 (show o + 26 ≠ o by omega) zK20
  have zl66 : ∀ zq : Nat, zq < (o + 76) → zq ≠ (o + 14) → zq ≠ (o + 15) → zq ≠ (o + 16) → zq ≠ (o + 17) → zq ≠ (o + 18) → zq ≠ (o + 19) → zq ≠ (o + 20) → zq ≠ (o + 21) → zq ≠ (o + 22) → zq ≠ (o + 23) → zq ≠ (o + 24) → zq ≠ (o + 25) → zq ≠ (o + 26) → zq ≠ o → zh37 zq = h zq := by intro zq hzq zn0 zn1 zn2 zn3 zn4 zn5 zn6 zn7 zn8 zn9 zn10 zn11 zn12 zn13; rw [ze38, va_up_ne _ _ (show zq ≠ o by omega)]; exact zl35 zq hzq zn0 zn1 zn2 zn3 zn4 zn5 zn6 zn7 zn8 zn9 zn10 zn11 zn12
  have zr67 : Zr κ (o + 76) h zh37 := (zr36).trans (Zr.same (fun zq h1 => by rw [ze38, va_up_ne _ _ (show zq ≠ o by omega)]))
  refine z_aload_n X 0 dX11_image_21 rfl ?_
  refine z_get X fl_X11_52_11 dX11_image_22 zK39 rfl ?_
  refine z_iret X E dX11_image_25 (by omega) (by omega) ⟨?_, ?_, ?_, ?_, ?_, ?_, ?_, ?_, ?_, ?_, ?_, ?_, ?_, ?_, ?_, ?_, ?_, ?_⟩
  · rfl
  · rfl
  · exact fun zq hzq zn0 zn1 zn2 zn3 zn4 zn5 zn6 zn7 zn8 zn9 zn10 zn11 zn12 zn13 => zl66 zq hzq zn1 zn2 zn3 zn4 zn5 zn6 zn7 zn8 zn9 zn10 zn11 zn12 zn13 zn0
  · exact zr67
  · exact zK39
  · exact zK53
  · exact zK54
  · exact zK55
  · exact zK56
  · exact zK57
  · exact zK58
  · exact zK59
  · exact zK60
  · exact zK61
  · exact zK62
  · exact zK63
  · exact zK64
  · exact zK65
set_option maxHeartbeats 4000000 in
set_option maxRecDepth 100000 in
theorem p_restore_y {κ : Wc} {l : Launch} {h : Mm} {n : Nat} {o : Nat} {im : Int32} {d : Nat → Int32} {len : Nat} {nc : Nat} {cold : Int32} {wind : Int32} {cs : Nat → Option Nat} {ts : Nat → Option Nat} {nt : Nat} {tp : Nat → Int32} {nw : Nat} {wt : Nat → Int32} {nb : Nat} {bx : Nat → Int32} {tx : Nat → Nat} {kp : Nat → Int32} {len2 : Nat} {nc2 : Nat} {cold2 : Int32} {wind2 : Int32} {cs2 : Nat → Option Nat} {ts2 : Nat → Option Nat} {nt2 : Nat} {tp2 : Nat → Int32} {nw2 : Nat} {wt2 : Nat → Int32} {nb2 : Nat} {bx2 : Nat → Int32} (K0 : h o = some (.inr (11, [.ref (o + 1), .ref (o + 14), .ref (o + 27), .ref (o + 33), .ref (o + 42), .ref (o + 55), .ref (o + 57), .ref (o + 59), .ref (o + 61), .int im]))) (K1 : h (o + 1) = some (.inr (3, [.ref (o + 1 + 1), .ref (o + 1 + 7), .ref (o + 1 + 9), .ref (o + 1 + 11), .int (d 13)]))) (K2 : h (o + 2) = some (.inr (2, [.ref (o + 3), .ref (o + 4), .ref (o + 5), .ref (o + 6), .ref (o + 7), .int (nI len), .int (d 0), .int (d 2), .int (d 3), .int (nI nc), .int (d 10), .int cold, .int wind]))) (K3 : h (o + 3) = arI κ 40 (win 100 40 d)) (K4 : h (o + 4) = arI κ 40 (win 140 40 d)) (K5 : h (o + 5) = arI κ 6 (win 4 6 d)) (K6 : h (o + 6) = arR κ 1 6 cs) (K7 : h (o + 7) = arR κ 2 2 ts) (K8 : h (o + 8) = some (.inr (6, [.ref (o + 8 + 1), .int (nI nt), .int 32]))) (K9 : h (o + 9) = arI κ 50 tp) (K10 : h (o + 10) = some (.inr (6, [.ref (o + 10 + 1), .int (nI nw), .int 32]))) (K11 : h (o + 11) = arI κ 20 wt) (K12 : h (o + 12) = some (.inr (6, [.ref (o + 12 + 1), .int (nI (3 * nb)), .int 32]))) (K13 : h (o + 13) = arI κ 15 bx) (K14 : h (o + 14) = some (.inr (3, [.ref (o + 14 + 1), .ref (o + 14 + 7), .ref (o + 14 + 9), .ref (o + 14 + 11), .int (kp 13)]))) (K15 : h (o + 15) = some (.inr (2, [.ref (o + 16), .ref (o + 17), .ref (o + 18), .ref (o + 19), .ref (o + 20), .int (nI len2), .int (kp 0), .int (kp 2), .int (kp 3), .int (nI nc2), .int (kp 10), .int cold2, .int wind2]))) (K16 : h (o + 16) = arI κ 40 (win 100 40 kp)) (K17 : h (o + 17) = arI κ 40 (win 140 40 kp)) (K18 : h (o + 18) = arI κ 6 (win 4 6 kp)) (K19 : h (o + 19) = arR κ 1 6 cs2) (K20 : h (o + 20) = arR κ 2 2 ts2) (K21 : h (o + 21) = some (.inr (6, [.ref (o + 21 + 1), .int (nI nt2), .int 32]))) (K22 : h (o + 22) = arI κ 50 tp2) (K23 : h (o + 23) = some (.inr (6, [.ref (o + 23 + 1), .int (nI nw2), .int 32]))) (K24 : h (o + 24) = arI κ 20 wt2) (K25 : h (o + 25) = some (.inr (6, [.ref (o + 25 + 1), .int (nI (3 * nb2)), .int 32]))) (K26 : h (o + 26) = arI κ 15 bx2) (hTs : TsO κ (o + 76) h ts2 (Tx kp) tx) (hCA : CsA (o + 76) h cs2) (p1 : nt ≤ 50) (p2 : nw ≤ 20) (p3 : nb ≤ 5) (p4 : nt2 ≤ 50) (p5 : nw2 ≤ 20) (p6 : nb2 ≤ 5) (him : ¬ im.toInt = 0) : Con κ l yX11_restore cX11_restore 1 (some .int) 6 0 0 [.ref o] h n (fun q h' n' => q = some (.int (kp 0)) ∧ n' = n ∧ (∀ zq : Nat, zq < (o + 76) → zq ≠ (o + 1) → zq ≠ (o + 2) → zq ≠ (o + 3) → zq ≠ (o + 4) → zq ≠ (o + 5) → zq ≠ (o + 6) → zq ≠ (o + 7) → zq ≠ (o + 8) → zq ≠ (o + 9) → zq ≠ (o + 10) → zq ≠ (o + 11) → zq ≠ (o + 12) → zq ≠ (o + 13) → h' zq = h zq) ∧ Zr κ (o + 76) h h' ∧ h' (o + 1) = some (.inr (3, [.ref (o + 1 + 1), .ref (o + 1 + 7), .ref (o + 1 + 9), .ref (o + 1 + 11), .int (kp 13)])) ∧ h' (o + 2) = some (.inr (2, [.ref (o + 3), .ref (o + 4), .ref (o + 5), .ref (o + 6), .ref (o + 7), .int (nI len2), .int (kp 0), .int (kp 2), .int (kp 3), .int (nI nc2), .int (kp 10), .int cold, .int wind])) ∧ h' (o + 3) = arI κ 40 (win 100 40 kp) ∧ h' (o + 4) = arI κ 40 (win 140 40 kp) ∧ h' (o + 5) = arI κ 6 (win 4 6 kp) ∧ h' (o + 6) = arR κ 1 6 cs2 ∧ h' (o + 7) = arR κ 2 2 ts2 ∧ h' (o + 8) = some (.inr (6, [.ref (o + 8 + 1), .int (nI nt2), .int 32])) ∧ h' (o + 9) = arI κ 50 (va_cpy tp2 tp 0 0 (nt2)) ∧ h' (o + 10) = some (.inr (6, [.ref (o + 10 + 1), .int (nI nw2), .int 32])) ∧ h' (o + 11) = arI κ 20 (va_cpy wt2 wt 0 0 (nw2)) ∧ h' (o + 12) = some (.inr (6, [.ref (o + 12 + 1), .int (nI (3 * nb2)), .int 32])) ∧ h' (o + 13) = arI κ 15 (va_cpy bx2 bx 0 0 (3 * nb2))) := by
  refine Con.of mk_X11_restore (Nat.le_of_ble_eq_true rfl) (fun G hG X E => ?_)
  subst hG
  refine z_ls (ls' := [(0, .ref o)]) rfl ?_
  refine z_aload_n X 0 dX11_restore_0 rfl ?_
  refine z_get X fl_X11_52_11 dX11_restore_1 K0 rfl ?_
  refine z_if_ne X 13 dX11_restore_4 (by decide) (fun zc1 => ?_) (fun zc1 => ?_)
  · refine z_aload_n X 0 dX11_restore_13 rfl ?_
    refine z_get X fl_X11_10_11 dX11_restore_14 K0 rfl ?_
    refine z_aload_n X 0 dX11_restore_17 rfl ?_
    refine z_get X fl_X11_16_11 dX11_restore_18 K0 rfl ?_
    refine z_callV X (c_Kbecome (κ := κ) (n := n) (k := (o + 1)) (j := (o + 14)) (zb := (o + 76)) (T := (Tx kp)) (tx := (tx)) (z := (d 13)) (len := (nI len)) (now := (d 0)) (dd := (d 2)) (dr := (d 3)) (cc := (nI nc)) (on := (d 10)) (cold := (cold)) (wind := (wind)) (f1 := (win 100 40 d)) (f2 := (win 140 40 d)) (f3 := (win 4 6 d)) (tp := (tp)) (wt := (wt)) (bx := (bx)) (c1 := (cs)) (t1 := (ts)) (nt := (nt)) (nw := (nw)) (nx := (3 * nb)) (z2 := (kp 13)) (len2 := (nI len2)) (now2 := (kp 0)) (dd2 := (kp 2)) (dr2 := (kp 3)) (cc2 := (nI nc2)) (on2 := (kp 10)) (cold2 := (cold2)) (wind2 := (wind2)) (f12 := (win 100 40 kp)) (f22 := (win 140 40 kp)) (f32 := (win 4 6 kp)) (tp2 := (tp2)) (wt2 := (wt2)) (bx2 := (bx2)) (c12 := (cs2)) (t12 := (ts2)) (nt2 := (nt2)) (nw2 := (nw2)) (nx2 := (3 * nb2)) K1 K2 K3 K4 K5 K6 K7 K8 K9 K10 K11 K12 K13 K14 K15 K16 K17 K18 K19 K20 K21 K22 K23 K24 K25 K26 (by first | assumption | omega) (by first | assumption | omega) (by first | assumption | omega) (hCA) (hTs) (by first | assumption | omega) (by first | assumption | omega) (by first | assumption | omega) (by first | assumption | omega) (by first | assumption | omega) (by first | assumption | omega)) mk_X3_become dX11_restore_21 wd_899 wd_900 wd_901 rfl K1 rfl rfl rfl (Nat.le_of_ble_eq_true rfl) (Nat.le_of_ble_eq_true rfl) (Nat.le_of_ble_eq_true rfl) (by omega) (by omega) (fun q zh2 zm4 zp5 => ?_)
    obtain ⟨rfl, zn6, zf7, zr8, zK9, zK10, zK11, zK12, zK13, zK14, zK15, zK16, zK17, zK18, zK19, zK20, zK21⟩ := zp5
    subst zm4
    refine z_st (st' := []) rfl ?_
    have zK22 : zh2 o = some (.inr (11, [.ref (o + 1), .ref (o + 14), .ref (o + 27), .ref (o + 33), .ref (o + 42), .ref (o + 55), .ref (o + 57), .ref (o + 59), .ref (o + 61), .int im])) := (zf7 o (by omega) (by omega) (by omega) (by omega) (by omega) (by omega) (by omega) (by omega) (by omega) (by omega) (by omega) (by omega) (by omega) (by omega)).trans K0
    have zK23 : zh2 (o + 14) = some (.inr (3, [.ref (o + 14 + 1), .ref (o + 14 + 7), .ref (o + 14 + 9), .ref (o + 14 + 11), .int (kp 13)])) := (zf7 (o + 14) (by omega) (by omega) (by omega) (by omega) (by omega) (by omega) (by omega) (by omega) (by omega) (by omega) (by omega) (by omega) (by omega) (by omega)).trans K14
    have zK24 : zh2 (o + 15) = some (.inr (2, [.ref (o + 16), .ref (o + 17), .ref (o + 18), .ref (o + 19), .ref (o + 20), .int (nI len2), .int (kp 0), .int (kp 2), .int (kp 3), .int (nI nc2), .int (kp 10), .int cold2, .int wind2])) := (zf7 (o + 15) (by omega) (by omega) (by omega) (by omega) (by omega) (by omega) (by omega) (by omega) (by omega) (by omega) (by omega) (by omega) (by omega) (by omega)).trans K15
    have zK25 : zh2 (o + 16) = arI κ 40 (win 100 40 kp) := (zf7 (o + 16) (by omega) (by omega) (by omega) (by omega) (by omega) (by omega) (by omega) (by omega) (by omega) (by omega) (by omega) (by omega) (by omega) (by omega)).trans K16
    have zK26 : zh2 (o + 17) = arI κ 40 (win 140 40 kp) := (zf7 (o + 17) (by omega) (by omega) (by omega) (by omega) (by omega) (by omega) (by omega) (by omega) (by omega) (by omega) (by omega) (by omega) (by omega) (by omega)).trans K17
    have zK27 : zh2 (o + 18) = arI κ 6 (win 4 6 kp) := (zf7 (o + 18) (by omega) (by omega) (by omega) (by omega) (by omega) (by omega) (by omega) (by omega) (by omega) (by omega) (by omega) (by omega) (by omega) (by omega)).trans K18
    have zK28 : zh2 (o + 19) = arR κ 1 6 cs2 := (zf7 (o + 19) (by omega) (by omega) (by omega) (by omega) (by omega) (by omega) (by omega) (by omega) (by omega) (by omega) (by omega) (by omega) (by omega) (by omega)).trans K19
    have zK29 : zh2 (o + 20) = arR κ 2 2 ts2 := (zf7 (o + 20) (by omega) (by omega) (by omega) (by omega) (by omega) (by omega) (by omega) (by omega) (by omega) (by omega) (by omega) (by omega) (by omega) (by omega)).trans K20
    have zK30 : zh2 (o + 21) = some (.inr (6, [.ref (o + 21 + 1), .int (nI nt2), .int 32])) := (zf7 (o + 21) (by omega) (by omega) (by omega) (by omega) (by omega) (by omega) (by omega) (by omega) (by omega) (by omega) (by omega) (by omega) (by omega) (by omega)).trans K21
    have zK31 : zh2 (o + 22) = arI κ 50 tp2 := (zf7 (o + 22) (by omega) (by omega) (by omega) (by omega) (by omega) (by omega) (by omega) (by omega) (by omega) (by omega) (by omega) (by omega) (by omega) (by omega)).trans K22
    have zK32 : zh2 (o + 23) = some (.inr (6, [.ref (o + 23 + 1), .int (nI nw2), .int 32])) := (zf7 (o + 23) (by omega) (by omega) (by omega) (by omega) (by omega) (by omega) (by omega) (by omega) (by omega) (by omega) (by omega) (by omega) (by omega) (by omega)).trans K23
    have zK33 : zh2 (o + 24) = arI κ 20 wt2 := (zf7 (o + 24) (by omega) (by omega) (by omega) (by omega) (by omega) (by omega) (by omega) (by omega) (by omega) (by omega) (by omega) (by omega) (by omega) (by omega)).trans K24
    have zK34 : zh2 (o + 25) = some (.inr (6, [.ref (o + 25 + 1), .int (nI (3 * nb2)), .int 32])) := (zf7 (o + 25) (by omega) (by omega) (by omega) (by omega) (by omega) (by omega) (by omega) (by omega) (by omega) (by omega) (by omega) (by omega) (by omega) (by omega)).trans K25
    have zK35 : zh2 (o + 26) = arI κ 15 bx2 := (zf7 (o + 26) (by omega) (by omega) (by omega) (by omega) (by omega) (by omega) (by omega) (by omega) (by omega) (by omega) (by omega) (by omega) (by omega) (by omega)).trans K26
    have zl36 : ∀ zq : Nat, zq < (o + 76) → zq ≠ (o + 1) → zq ≠ (o + 2) → zq ≠ (o + 3) → zq ≠ (o + 4) → zq ≠ (o + 5) → zq ≠ (o + 6) → zq ≠ (o + 7) → zq ≠ (o + 8) → zq ≠ (o + 9) → zq ≠ (o + 10) → zq ≠ (o + 11) → zq ≠ (o + 12) → zq ≠ (o + 13) → zh2 zq = h zq := by intro zq hzq zn0 zn1 zn2 zn3 zn4 zn5 zn6 zn7 zn8 zn9 zn10 zn11 zn12; rw [zf7 zq (by omega) (by omega) (by omega) (by omega) (by omega) (by omega) (by omega) (by omega) (by omega) (by omega) (by omega) (by omega) (by omega) (by omega)]; try rfl
    have zr37 : Zr κ (o + 76) h zh2 := (Zr.refl).trans zr8
    refine z_aload_n X 0 dX11_restore_24 rfl ?_
    refine z_get X fl_X11_10_11 dX11_restore_25 zK22 rfl ?_
    refine z_get X fl_X11_56_3 dX11_restore_28 zK9 rfl ?_
    refine z_get X fl_X11_182_2 dX11_restore_31 zK10 rfl ?_
    refine z_iret X E dX11_restore_34 (by omega) (by omega) ⟨?_, ?_, ?_, ?_, ?_, ?_, ?_, ?_, ?_, ?_, ?_, ?_, ?_, ?_, ?_, ?_, ?_⟩
    · rfl
    · rfl
    · exact fun zq hzq zn0 zn1 zn2 zn3 zn4 zn5 zn6 zn7 zn8 zn9 zn10 zn11 zn12 => zl36 zq hzq zn0 zn1 zn2 zn3 zn4 zn5 zn6 zn7 zn8 zn9 zn10 zn11 zn12
    · exact zr37
    · exact zK9
    · exact zK10
    · exact zK11
    · exact zK12
    · exact zK13
    · exact zK14
    · exact zK15
    · exact zK16
    · exact zK17
    · exact zK18
    · exact zK19
    · exact zK20
    · exact zK21
  · exact absurd (by rw [show im = 0 by assumption]; decide) him
set_option maxHeartbeats 4000000 in
set_option maxRecDepth 100000 in
theorem p_restore_n {κ : Wc} {l : Launch} {h : Mm} {n : Nat} {o : Nat} {im : Int32} {fo : Nat → Int32} (K0 : h o = some (.inr (11, [.ref (o + 1), .ref (o + 14), .ref (o + 27), .ref (o + 33), .ref (o + 42), .ref (o + 55), .ref (o + 57), .ref (o + 59), .ref (o + 61), .int im]))) (K1 : h (o + 61) = arI κ 6 fo) (him : im.toInt = 0) : Con κ l yX11_restore cX11_restore 1 (some .int) 6 0 0 [.ref o] h n (fun q h' n' => q = some (.int (ansOf (2, 0))) ∧ n' = n ∧ (∀ zq : Nat, zq < (o + 76) → zq ≠ (o + 61) → h' zq = h zq) ∧ Zr κ (o + 76) h h' ∧ h' (o + 61) = arI κ 6 (bump (2, 0) fo)) := by
  refine Con.of mk_X11_restore (Nat.le_of_ble_eq_true rfl) (fun G hG X E => ?_)
  subst hG
  refine z_ls (ls' := [(0, .ref o)]) rfl ?_
  refine z_aload_n X 0 dX11_restore_0 rfl ?_
  refine z_get X fl_X11_52_11 dX11_restore_1 K0 rfl ?_
  refine z_if_ne X 13 dX11_restore_4 (by decide) (fun zc1 => ?_) (fun zc1 => ?_)
  · exact absurd (eq0_of him) (by assumption)
  · refine z_aload_n X 0 dX11_restore_7 rfl ?_
    refine z_iconst (v := 2) X dX11_restore_8 (by decide) ?_
    refine z_callV X (c_fail (κ := κ) (n := n) (o := (o)) (im := (im)) (fo := (fo)) (k := (2)) K0 K1 (by first | assumption | omega) (by first | assumption | omega)) mk_X11_fail dX11_restore_9 wd_260 wd_262 wd_0 rfl K0 rfl rfl rfl (Nat.le_of_ble_eq_true rfl) (Nat.le_of_ble_eq_true rfl) (Nat.le_of_ble_eq_true rfl) (by omega) (by omega) (fun q zh2 zm4 zp5 => ?_)
    obtain ⟨rfl, ze3, zn6⟩ := zp5
    subst zm4
    refine z_st (st' := [.int (lowE 2)]) rfl ?_
    have zK7 : zh2 o = some (.inr (11, [.ref (o + 1), .ref (o + 14), .ref (o + 27), .ref (o + 33), .ref (o + 42), .ref (o + 55), .ref (o + 57), .ref (o + 59), .ref (o + 61), .int im])) := by rw [ze3]; rw [va_up_ne _ _ (show o ≠ o + 61 by omega)]; exact K0
    have zK8 : zh2 (o + 61) = arI κ 6 (bmp fo 2) := by rw [ze3]; exact va_up_self _ _ _
    have zl9 : ∀ zq : Nat, zq < (o + 76) → zq ≠ (o + 61) → zh2 zq = h zq := by intro zq hzq zn0; rw [ze3, va_up_ne _ _ (show zq ≠ o + 61 by omega)]; try rfl
    have zr10 : Zr κ (o + 76) h zh2 := (Zr.refl).trans (Zr.same (fun zq h1 => by rw [ze3, va_up_ne _ _ (show zq ≠ o + 61 by omega)]))
    refine z_iret X E dX11_restore_12 (by omega) (by omega) ⟨?_, ?_, ?_, ?_, ?_⟩
    · rfl
    · rfl
    · exact fun zq hzq zn0 => zl9 zq hzq zn0
    · exact zr10
    · exact zK8
